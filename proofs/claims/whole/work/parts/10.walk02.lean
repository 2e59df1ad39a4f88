/-! Programs and walks, printed by program (gen.py). -/
theorem dX3_doCoffee_0 : decode cX3_doCoffee 0 = .ok (.aload_n 0, 1) := by decide +kernel
theorem dX3_doCoffee_1 : decode cX3_doCoffee 1 = .ok (.sipush 200, 3) := by decide +kernel
theorem dX3_doCoffee_4 : decode cX3_doCoffee 4 = .ok (.iload_n 2, 1) := by decide +kernel
theorem dX3_doCoffee_5 : decode cX3_doCoffee 5 = .ok (.iadd, 1) := by decide +kernel
theorem dX3_doCoffee_6 : decode cX3_doCoffee 6 = .ok (.invokevirtual 48, 3) := by decide +kernel
theorem dX3_doCoffee_9 : decode cX3_doCoffee 9 = .ok (.aload_n 0, 1) := by decide +kernel
theorem dX3_doCoffee_10 : decode cX3_doCoffee 10 = .ok (.getfield 10, 3) := by decide +kernel
theorem dX3_doCoffee_13 : decode cX3_doCoffee 13 = .ok (.aload_n 1, 1) := by decide +kernel
theorem dX3_doCoffee_14 : decode cX3_doCoffee 14 = .ok (.iload_n 2, 1) := by decide +kernel
theorem dX3_doCoffee_15 : decode cX3_doCoffee 15 = .ok (.invokevirtual 59, 3) := by decide +kernel
theorem dX3_doCoffee_18 : decode cX3_doCoffee 18 = .ok (.aload_n 0, 1) := by decide +kernel
theorem dX3_doCoffee_19 : decode cX3_doCoffee 19 = .ok (.dup, 1) := by decide +kernel
theorem dX3_doCoffee_20 : decode cX3_doCoffee 20 = .ok (.getfield 24, 3) := by decide +kernel
theorem dX3_doCoffee_23 : decode cX3_doCoffee 23 = .ok (.iconst 1, 1) := by decide +kernel
theorem dX3_doCoffee_24 : decode cX3_doCoffee 24 = .ok (.isub, 1) := by decide +kernel
theorem dX3_doCoffee_25 : decode cX3_doCoffee 25 = .ok (.putfield 24, 3) := by decide +kernel
theorem dX3_doCoffee_28 : decode cX3_doCoffee 28 = .ok (.aload_n 0, 1) := by decide +kernel
theorem dX3_doCoffee_29 : decode cX3_doCoffee 29 = .ok (.getfield 24, 3) := by decide +kernel
theorem dX3_doCoffee_32 : decode cX3_doCoffee 32 = .ok (.ireturn, 1) := by decide +kernel
def P_X3_doCoffee (a0 : Nat) (a1 : Nat) (x2 : Int32) : PM Int32 :=
cllV 3 a0 (P_X3_note a0 (200 + x2)) fun _ =>
getR 3 0 a0 fun v1 =>
cllV 1 v1 (P_X1_drink v1 a1 x2) fun _ =>
getI 3 3 a0 fun v2 =>
setI 3 3 a0 (v2 - 1) <|
getI 3 3 a0 fun v3 =>
pureM v3
set_option maxHeartbeats 4000000 in
set_option maxRecDepth 100000 in
theorem W_X3_doCoffee {Γ : Cx} (ok : OKc Γ cX3_doCoffee RX3 4 "doCoffee") (okr : OKr Γ cX3_doCoffee (some .int)) (a0 : Nat) (a1 : Nat) (x2 : Int32) : SW Γ iI 0 [some (.ref a0), some (.ref a1), some (.int x2)] [] (P_X3_doCoffee a0 a1 x2) := by
  unfold P_X3_doCoffee
  refine sw_aload_n (z := a0) (pc' := 1) ok dX3_doCoffee_0 rfl rfl ?_
  refine sw_sipush (v := 200) (pc' := 4) ok dX3_doCoffee_1 rfl cc_sipush_200 ?_
  refine sw_iload_n (z := x2) (pc' := 5) ok dX3_doCoffee_4 rfl rfl ?_
  refine sw_iadd (pc' := 6) ok dX3_doCoffee_5 rfl ?_
  refine sw_cllV_U (st := []) (as := [.int (200 + x2)]) (pc' := 9) ok (S_X3_note a0 (200 + x2)) (by decide) lk_X3_48 rfl dX3_doCoffee_6 rfl (Nat.le_of_ble_eq_true rfl) rfl (fun _ => ?_)
  refine sw_aload_n (z := a0) (pc' := 10) ok dX3_doCoffee_9 rfl rfl ?_
  refine sw_getR (pc' := 13) ok (fr_X3_10.g) dX3_doCoffee_10 rfl (fun v1 => ?_)
  refine sw_aload_n (z := a1) (pc' := 14) ok dX3_doCoffee_13 rfl rfl ?_
  refine sw_iload_n (z := x2) (pc' := 15) ok dX3_doCoffee_14 rfl rfl ?_
  refine sw_cllV_U (st := []) (as := [.ref a1, .int x2]) (pc' := 18) ok (S_X1_drink v1 a1 x2) (by decide) lk_X3_59 rfl dX3_doCoffee_15 rfl (Nat.le_of_ble_eq_true rfl) rfl (fun _ => ?_)
  refine sw_aload_n (z := a0) (pc' := 19) ok dX3_doCoffee_18 rfl rfl ?_
  refine sw_dup (pc' := 20) ok dX3_doCoffee_19 rfl rfl ?_
  refine sw_getI (pc' := 23) ok (fr_X3_24.g) dX3_doCoffee_20 rfl (fun v2 => ?_)
  refine sw_iconst (v := 1) (pc' := 24) ok dX3_doCoffee_23 rfl cc_iconst_1 ?_
  refine sw_isub (pc' := 25) ok dX3_doCoffee_24 rfl ?_
  refine sw_setI (pc' := 28) ok fr_X3_24 dX3_doCoffee_25 (fun h => by cases h) rfl ?_
  refine sw_aload_n (z := a0) (pc' := 29) ok dX3_doCoffee_28 rfl rfl ?_
  refine sw_getI (pc' := 32) ok (fr_X3_24.g) dX3_doCoffee_29 rfl (fun v3 => ?_)
  exact sw_ret ok okr dX3_doCoffee_32 trivial rfl
theorem S_X3_doCoffee (a0 : Nat) (a1 : Nat) (x2 : Int32) : Sim 4 yX3_doCoffee cX3_doCoffee 3 (some .int) iI [.ref a0, .ref a1, .int x2] (P_X3_doCoffee a0 a1 x2) := Sim.intro wd_961 (by decide) (by decide +kernel) (Nat.le_of_ble_eq_true rfl) (fun Γ ok okr => W_X3_doCoffee ok okr a0 a1 x2)
theorem dX3_goBackTo_0 : decode cX3_goBackTo 0 = .ok (.aload_n 0, 1) := by decide +kernel
theorem dX3_goBackTo_1 : decode cX3_goBackTo 1 = .ok (.aload_n 1, 1) := by decide +kernel
theorem dX3_goBackTo_2 : decode cX3_goBackTo 2 = .ok (.invokevirtual 63, 3) := by decide +kernel
theorem dX3_goBackTo_5 : decode cX3_goBackTo 5 = .ok (.iconst 0, 1) := by decide +kernel
theorem dX3_goBackTo_6 : decode cX3_goBackTo 6 = .ok (.istore_n 3, 1) := by decide +kernel
theorem dX3_goBackTo_7 : decode cX3_goBackTo 7 = .ok (.iload_n 3, 1) := by decide +kernel
theorem dX3_goBackTo_8 : decode cX3_goBackTo 8 = .ok (.iload_n 2, 1) := by decide +kernel
theorem dX3_goBackTo_9 : decode cX3_goBackTo 9 = .ok (.if_icmp .ge 82, 3) := by decide +kernel
theorem dX3_goBackTo_12 : decode cX3_goBackTo 12 = .ok (.iload_n 3, 1) := by decide +kernel
theorem dX3_goBackTo_13 : decode cX3_goBackTo 13 = .ok (.bipush 40, 2) := by decide +kernel
theorem dX3_goBackTo_15 : decode cX3_goBackTo 15 = .ok (.if_icmp .ge 76, 3) := by decide +kernel
theorem dX3_goBackTo_18 : decode cX3_goBackTo 18 = .ok (.aload_n 0, 1) := by decide +kernel
theorem dX3_goBackTo_19 : decode cX3_goBackTo 19 = .ok (.getfield 16, 3) := by decide +kernel
theorem dX3_goBackTo_22 : decode cX3_goBackTo 22 = .ok (.iload_n 3, 1) := by decide +kernel
theorem dX3_goBackTo_23 : decode cX3_goBackTo 23 = .ok (.iaload, 1) := by decide +kernel
theorem dX3_goBackTo_24 : decode cX3_goBackTo 24 = .ok (.istore 4, 2) := by decide +kernel
theorem dX3_goBackTo_26 : decode cX3_goBackTo 26 = .ok (.iload 4, 2) := by decide +kernel
theorem dX3_goBackTo_28 : decode cX3_goBackTo 28 = .ok (.sipush 200, 3) := by decide +kernel
theorem dX3_goBackTo_31 : decode cX3_goBackTo 31 = .ok (.if_icmp .lt 18, 3) := by decide +kernel
theorem dX3_goBackTo_34 : decode cX3_goBackTo 34 = .ok (.aload_n 0, 1) := by decide +kernel
theorem dX3_goBackTo_35 : decode cX3_goBackTo 35 = .ok (.aload_n 1, 1) := by decide +kernel
theorem dX3_goBackTo_36 : decode cX3_goBackTo 36 = .ok (.iload 4, 2) := by decide +kernel
theorem dX3_goBackTo_38 : decode cX3_goBackTo 38 = .ok (.sipush 200, 3) := by decide +kernel
theorem dX3_goBackTo_41 : decode cX3_goBackTo 41 = .ok (.isub, 1) := by decide +kernel
theorem dX3_goBackTo_42 : decode cX3_goBackTo 42 = .ok (.invokevirtual 64, 3) := by decide +kernel
theorem dX3_goBackTo_45 : decode cX3_goBackTo 45 = .ok (.pop, 1) := by decide +kernel
theorem dX3_goBackTo_46 : decode cX3_goBackTo 46 = .ok (.goto 39, 3) := by decide +kernel
theorem dX3_goBackTo_49 : decode cX3_goBackTo 49 = .ok (.iload 4, 2) := by decide +kernel
theorem dX3_goBackTo_51 : decode cX3_goBackTo 51 = .ok (.bipush 100, 2) := by decide +kernel
theorem dX3_goBackTo_53 : decode cX3_goBackTo 53 = .ok (.if_icmp .lt 16, 3) := by decide +kernel
theorem dX3_goBackTo_56 : decode cX3_goBackTo 56 = .ok (.aload_n 0, 1) := by decide +kernel
theorem dX3_goBackTo_57 : decode cX3_goBackTo 57 = .ok (.iload 4, 2) := by decide +kernel
theorem dX3_goBackTo_59 : decode cX3_goBackTo 59 = .ok (.bipush 100, 2) := by decide +kernel
theorem dX3_goBackTo_61 : decode cX3_goBackTo 61 = .ok (.isub, 1) := by decide +kernel
theorem dX3_goBackTo_62 : decode cX3_goBackTo 62 = .ok (.invokevirtual 68, 3) := by decide +kernel
theorem dX3_goBackTo_65 : decode cX3_goBackTo 65 = .ok (.pop, 1) := by decide +kernel
theorem dX3_goBackTo_66 : decode cX3_goBackTo 66 = .ok (.goto 19, 3) := by decide +kernel
theorem dX3_goBackTo_69 : decode cX3_goBackTo 69 = .ok (.aload_n 0, 1) := by decide +kernel
theorem dX3_goBackTo_70 : decode cX3_goBackTo 70 = .ok (.aload_n 1, 1) := by decide +kernel
theorem dX3_goBackTo_71 : decode cX3_goBackTo 71 = .ok (.iload 4, 2) := by decide +kernel
theorem dX3_goBackTo_73 : decode cX3_goBackTo 73 = .ok (.bipush 10, 2) := by decide +kernel
theorem dX3_goBackTo_75 : decode cX3_goBackTo 75 = .ok (.idiv, 1) := by decide +kernel
theorem dX3_goBackTo_76 : decode cX3_goBackTo 76 = .ok (.iload 4, 2) := by decide +kernel
theorem dX3_goBackTo_78 : decode cX3_goBackTo 78 = .ok (.bipush 10, 2) := by decide +kernel
theorem dX3_goBackTo_80 : decode cX3_goBackTo 80 = .ok (.irem, 1) := by decide +kernel
theorem dX3_goBackTo_81 : decode cX3_goBackTo 81 = .ok (.invokevirtual 72, 3) := by decide +kernel
theorem dX3_goBackTo_84 : decode cX3_goBackTo 84 = .ok (.pop, 1) := by decide +kernel
theorem dX3_goBackTo_85 : decode cX3_goBackTo 85 = .ok (.iinc 3 1, 3) := by decide +kernel
theorem dX3_goBackTo_88 : decode cX3_goBackTo 88 = .ok (.goto (-81), 3) := by decide +kernel
theorem dX3_goBackTo_91 : decode cX3_goBackTo 91 = .ok (.return_, 1) := by decide +kernel
def P_X3_goBackTo_7 (p0 : Nat) (p1 : Nat) (p2 : Int32) : Nat → Int32 → PM Unit
  | 0, _ => failM
  | n + 1, q3 =>
    ifB (decide (p2 ≤ q3)) (
    pureM ()) (
    ifB (decide (40 ≤ q3)) (
    pureM ()) (
    getR 3 1 p0 fun v1 =>
    ald v1 q3 fun v2 =>
    jn (
    P_X3_goBackTo_7 p0 p1 p2 n (q3 + 1)) fun k3 =>
    ifB (decide (v2 < 200)) (
    ifB (decide (v2 < 100)) (
    divI v2 10 fun v4 =>
    remI v2 10 fun v5 =>
    cllV 3 p0 (P_X3_doWatch p0 p1 v4 v5) fun v6 =>
    k3) (
    cllV 3 p0 (P_X3_doLoad p0 (v2 - 100)) fun v7 =>
    k3)) (
    cllV 3 p0 (P_X3_doCoffee p0 p1 (v2 - 200)) fun v8 =>
    k3)))
def P_X3_goBackTo (a0 : Nat) (a1 : Nat) (x2 : Int32) : PM Unit :=
cllV 3 a0 (P_X3_begin a0 a1) fun _ =>
P_X3_goBackTo_7 a0 a1 x2 4000 0
set_option maxHeartbeats 4000000 in
set_option maxRecDepth 100000 in
theorem W_X3_goBackTo_7 {Γ : Cx} (ok : OKc Γ cX3_goBackTo RX3 5 "goBackTo") (okr : OKr Γ cX3_goBackTo (none)) (p0 : Nat) (p1 : Nat) (p2 : Int32) : ∀ (n : Nat) (q3 : Int32), SW Γ iU 7 [some (.ref p0), some (.ref p1), some (.int p2), some (.int q3), none] [] (P_X3_goBackTo_7 p0 p1 p2 n q3) := by
  intro n
  induction n with
  | zero =>
    intros
    exact sw_fail
  | succ n ih =>
    intro q3
    unfold P_X3_goBackTo_7
    refine sw_iload_n (z := q3) (pc' := 8) ok dX3_goBackTo_7 rfl rfl ?_
    refine sw_iload_n (z := p2) (pc' := 9) ok dX3_goBackTo_8 rfl rfl ?_
    refine sw_icmp_ge (tgt := 91) (pc' := 12) ok dX3_goBackTo_9 (by decide) rfl ?_ ?_
    · exact sw_ret ok okr dX3_goBackTo_91 trivial rfl
    refine sw_iload_n (z := q3) (pc' := 13) ok dX3_goBackTo_12 rfl rfl ?_
    refine sw_bipush (v := 40) (pc' := 15) ok dX3_goBackTo_13 rfl cc_bipush_40 ?_
    refine sw_icmp_ge (tgt := 91) (pc' := 18) ok dX3_goBackTo_15 (by decide) rfl ?_ ?_
    · exact sw_ret ok okr dX3_goBackTo_91 trivial rfl
    refine sw_aload_n (z := p0) (pc' := 19) ok dX3_goBackTo_18 rfl rfl ?_
    refine sw_getR (pc' := 22) ok (fr_X3_16.g) dX3_goBackTo_19 rfl (fun v1 => ?_)
    refine sw_iload_n (z := q3) (pc' := 23) ok dX3_goBackTo_22 rfl rfl ?_
    refine sw_ald (pc' := 24) ok dX3_goBackTo_23 rfl (fun v2 => ?_)
    refine sw_istore (pc' := 26) (l' := [some (.ref p0), some (.ref p1), some (.int p2), some (.int q3), some (.int v2)]) ok dX3_goBackTo_24 rfl (Nat.le_of_ble_eq_true rfl) rfl ?_
    refine sw_iload (z := v2) (pc' := 28) ok dX3_goBackTo_26 rfl rfl ?_
    refine sw_sipush (v := 200) (pc' := 31) ok dX3_goBackTo_28 rfl cc_sipush_200 ?_
    refine sw_jn (fun k3 : PM Unit => SW Γ iU 85 [some (.ref p0), some (.ref p1), some (.int p2), some (.int q3), none] [] (k3)) ?_ (fun k3 hk3 => ?_)
    · refine sw_iinc (z := q3) (v := q3 + 1) (pc' := 88) (l' := [some (.ref p0), some (.ref p1), some (.int p2), some (.int (q3 + 1)), none]) ok dX3_goBackTo_85 rfl rfl (by rw [cc_iconst_1]) rfl ?_
      refine sw_goto (tgt := 7) ok dX3_goBackTo_88 (by decide) ?_
      exact ih (q3 + 1)
    refine sw_icmp_lt (tgt := 49) (pc' := 34) ok dX3_goBackTo_31 (by decide) rfl ?_ ?_
    · refine sw_iload (z := v2) (pc' := 51) ok dX3_goBackTo_49 rfl rfl ?_
      refine sw_bipush (v := 100) (pc' := 53) ok dX3_goBackTo_51 rfl cc_bipush_100 ?_
      refine sw_icmp_lt (tgt := 69) (pc' := 56) ok dX3_goBackTo_53 (by decide) rfl ?_ ?_
      · refine sw_aload_n (z := p0) (pc' := 70) ok dX3_goBackTo_69 rfl rfl ?_
        refine sw_aload_n (z := p1) (pc' := 71) ok dX3_goBackTo_70 rfl rfl ?_
        refine sw_iload (z := v2) (pc' := 73) ok dX3_goBackTo_71 rfl rfl ?_
        refine sw_bipush (v := 10) (pc' := 75) ok dX3_goBackTo_73 rfl cc_bipush_10 ?_
        refine sw_divI (pc' := 76) ok dX3_goBackTo_75 rfl (fun v4 => ?_)
        refine sw_iload (z := v2) (pc' := 78) ok dX3_goBackTo_76 rfl rfl ?_
        refine sw_bipush (v := 10) (pc' := 80) ok dX3_goBackTo_78 rfl cc_bipush_10 ?_
        refine sw_remI (pc' := 81) ok dX3_goBackTo_80 rfl (fun v5 => ?_)
        refine sw_cllV_I (st := []) (as := [.ref p1, .int v4, .int v5]) (pc' := 84) ok (S_X3_doWatch p0 p1 v4 v5) (by decide) lk_X3_72 rfl dX3_goBackTo_81 rfl (Nat.le_of_ble_eq_true rfl) rfl (fun v6 => ?_)
        refine sw_pop (pc' := 85) ok dX3_goBackTo_84 rfl rfl ?_
        refine sw_fg (l' := [some (.ref p0), some (.ref p1), some (.int p2), some (.int q3), none]) [true, true, true, true, false] rfl ?_
        exact hk3
      refine sw_aload_n (z := p0) (pc' := 57) ok dX3_goBackTo_56 rfl rfl ?_
      refine sw_iload (z := v2) (pc' := 59) ok dX3_goBackTo_57 rfl rfl ?_
      refine sw_bipush (v := 100) (pc' := 61) ok dX3_goBackTo_59 rfl cc_bipush_100 ?_
      refine sw_isub (pc' := 62) ok dX3_goBackTo_61 rfl ?_
      refine sw_cllV_I (st := []) (as := [.int (v2 - 100)]) (pc' := 65) ok (S_X3_doLoad p0 (v2 - 100)) (by decide) lk_X3_68 rfl dX3_goBackTo_62 rfl (Nat.le_of_ble_eq_true rfl) rfl (fun v7 => ?_)
      refine sw_pop (pc' := 66) ok dX3_goBackTo_65 rfl rfl ?_
      refine sw_goto (tgt := 85) ok dX3_goBackTo_66 (by decide) ?_
      refine sw_fg (l' := [some (.ref p0), some (.ref p1), some (.int p2), some (.int q3), none]) [true, true, true, true, false] rfl ?_
      exact hk3
    refine sw_aload_n (z := p0) (pc' := 35) ok dX3_goBackTo_34 rfl rfl ?_
    refine sw_aload_n (z := p1) (pc' := 36) ok dX3_goBackTo_35 rfl rfl ?_
    refine sw_iload (z := v2) (pc' := 38) ok dX3_goBackTo_36 rfl rfl ?_
    refine sw_sipush (v := 200) (pc' := 41) ok dX3_goBackTo_38 rfl cc_sipush_200 ?_
    refine sw_isub (pc' := 42) ok dX3_goBackTo_41 rfl ?_
    refine sw_cllV_I (st := []) (as := [.ref p1, .int (v2 - 200)]) (pc' := 45) ok (S_X3_doCoffee p0 p1 (v2 - 200)) (by decide) lk_X3_64 rfl dX3_goBackTo_42 rfl (Nat.le_of_ble_eq_true rfl) rfl (fun v8 => ?_)
    refine sw_pop (pc' := 46) ok dX3_goBackTo_45 rfl rfl ?_
    refine sw_goto (tgt := 85) ok dX3_goBackTo_46 (by decide) ?_
    refine sw_fg (l' := [some (.ref p0), some (.ref p1), some (.int p2), some (.int q3), none]) [true, true, true, true, false] rfl ?_
    exact hk3
set_option maxHeartbeats 4000000 in
set_option maxRecDepth 100000 in
theorem W_X3_goBackTo {Γ : Cx} (ok : OKc Γ cX3_goBackTo RX3 5 "goBackTo") (okr : OKr Γ cX3_goBackTo (none)) (a0 : Nat) (a1 : Nat) (x2 : Int32) : SW Γ iU 0 [some (.ref a0), some (.ref a1), some (.int x2), none, none] [] (P_X3_goBackTo a0 a1 x2) := by
  unfold P_X3_goBackTo
  refine sw_aload_n (z := a0) (pc' := 1) ok dX3_goBackTo_0 rfl rfl ?_
  refine sw_aload_n (z := a1) (pc' := 2) ok dX3_goBackTo_1 rfl rfl ?_
  refine sw_cllV_U (st := []) (as := [.ref a1]) (pc' := 5) ok (S_X3_begin a0 a1) (by decide) lk_X3_63 rfl dX3_goBackTo_2 rfl (Nat.le_of_ble_eq_true rfl) rfl (fun _ => ?_)
  refine sw_iconst (v := 0) (pc' := 6) ok dX3_goBackTo_5 rfl cc_iconst_0 ?_
  refine sw_istore_n (pc' := 7) (l' := [some (.ref a0), some (.ref a1), some (.int x2), some (.int 0), none]) ok dX3_goBackTo_6 rfl (Nat.le_of_ble_eq_true rfl) rfl ?_
  exact W_X3_goBackTo_7 ok okr a0 a1 x2 4000 0
theorem S_X3_goBackTo (a0 : Nat) (a1 : Nat) (x2 : Int32) : Sim 5 yX3_goBackTo cX3_goBackTo 5 (none) iU [.ref a0, .ref a1, .int x2] (P_X3_goBackTo a0 a1 x2) := Sim.intro wd_962 (by decide) (by decide +kernel) (Nat.le_of_ble_eq_true rfl) (fun Γ ok okr => W_X3_goBackTo ok okr a0 a1 x2)
theorem dX4_init_0 : decode cX4_init 0 = .ok (.aload_n 0, 1) := by decide +kernel
theorem dX4_init_1 : decode cX4_init 1 = .ok (.invokespecial 3, 3) := by decide +kernel
theorem dX4_init_4 : decode cX4_init 4 = .ok (.aload_n 0, 1) := by decide +kernel
theorem dX4_init_5 : decode cX4_init 5 = .ok (.new 9, 3) := by decide +kernel
theorem dX4_init_8 : decode cX4_init 8 = .ok (.dup, 1) := by decide +kernel
theorem dX4_init_9 : decode cX4_init 9 = .ok (.invokespecial 11, 3) := by decide +kernel
theorem dX4_init_12 : decode cX4_init 12 = .ok (.putfield 12, 3) := by decide +kernel
theorem dX4_init_15 : decode cX4_init 15 = .ok (.aload_n 0, 1) := by decide +kernel
theorem dX4_init_16 : decode cX4_init 16 = .ok (.iconst 0, 1) := by decide +kernel
theorem dX4_init_17 : decode cX4_init 17 = .ok (.putfield 18, 3) := by decide +kernel
theorem dX4_init_20 : decode cX4_init 20 = .ok (.return_, 1) := by decide +kernel
def P_X4_init (a0 : Nat) : PM Unit :=
newO 0 7 [.null, .null, .null, .null, .int 0, .int 0, .int 0] fun o1 =>
cllA (P_X0_init o1) fun _ =>
setR 4 0 a0 o1 <|
setI 4 1 a0 0 <|
pureM ()
set_option maxHeartbeats 4000000 in
set_option maxRecDepth 100000 in
theorem W_X4_init {Γ : Cx} (ok : OKc Γ cX4_init RX4 2 "<init>") (okr : OKr Γ cX4_init (none)) (a0 : Nat) : SW Γ iU 0 [some (.ref a0)] [] (P_X4_init a0) := by
  unfold P_X4_init
  refine sw_aload_n (z := a0) (pc' := 1) ok dX4_init_0 rfl rfl ?_
  refine sw_obj (pc' := 4) ok wd_121 wd_1 wd_2 (by decide) dX4_init_1 rfl (Nat.le_of_ble_eq_true rfl) ?_
  refine sw_aload_n (z := a0) (pc' := 5) ok dX4_init_4 rfl rfl ?_
  refine sw_newO (T := TX0) (pc' := 8) ok rfl ck_X0 tyX0_ok wd_122 wd_123 wd_15 df_X0 dX4_init_5 rfl (fun o1 => ?_)
  refine sw_dup (pc' := 9) ok dX4_init_8 rfl rfl ?_
  refine sw_cllA_U (st := [.ref o1, .ref a0]) (as := []) (pc' := 12) ok (S_X0_init o1) (by decide) lk_X4_11 rfl dX4_init_9 rfl (Nat.le_of_ble_eq_true rfl) rfl (fun _ => ?_)
  refine sw_setR (pc' := 15) ok fr_X4_12 (fun _ => ⟨rfl, rfl⟩) dX4_init_12 (fun _ => rfl) rfl ?_
  refine sw_aload_n (z := a0) (pc' := 16) ok dX4_init_15 rfl rfl ?_
  refine sw_iconst (v := 0) (pc' := 17) ok dX4_init_16 rfl cc_iconst_0 ?_
  refine sw_setI (pc' := 20) ok fr_X4_18 dX4_init_17 (fun h => by cases h) rfl ?_
  exact sw_ret ok okr dX4_init_20 trivial rfl
theorem S_X4_init (a0 : Nat) : Sim 2 yX4_init cX4_init 1 (none) iU [.ref a0] (P_X4_init a0) := Sim.intro wd_963 (by decide) (by decide +kernel) (Nat.le_of_ble_eq_true rfl) (fun Γ ok okr => W_X4_init ok okr a0)
theorem dX5_holds_0 : decode cX5_holds 0 = .ok (.iload_n 1, 1) := by decide +kernel
theorem dX5_holds_1 : decode cX5_holds 1 = .ok (.ifCond .lt 15, 3) := by decide +kernel
theorem dX5_holds_4 : decode cX5_holds 4 = .ok (.iload_n 1, 1) := by decide +kernel
theorem dX5_holds_5 : decode cX5_holds 5 = .ok (.aload_n 0, 1) := by decide +kernel
theorem dX5_holds_6 : decode cX5_holds 6 = .ok (.getfield 7, 3) := by decide +kernel
theorem dX5_holds_9 : decode cX5_holds 9 = .ok (.if_icmp .ge 7, 3) := by decide +kernel
theorem dX5_holds_12 : decode cX5_holds 12 = .ok (.iconst 1, 1) := by decide +kernel
theorem dX5_holds_13 : decode cX5_holds 13 = .ok (.goto 4, 3) := by decide +kernel
theorem dX5_holds_16 : decode cX5_holds 16 = .ok (.iconst 0, 1) := by decide +kernel
theorem dX5_holds_17 : decode cX5_holds 17 = .ok (.ireturn, 1) := by decide +kernel
def P_X5_holds (a0 : Nat) (x1 : Int32) : PM Int32 :=
jn (
retZ 0) fun k1 =>
ifB (decide (x1 < 0)) (
k1) (
getI 5 2 a0 fun v2 =>
ifB (decide (v2 ≤ x1)) (
k1) (
retZ 1))
set_option maxHeartbeats 4000000 in
set_option maxRecDepth 100000 in
theorem W_X5_holds {Γ : Cx} (ok : OKc Γ cX5_holds RX5 0 "holds") (okr : OKr Γ cX5_holds (some .boolean)) (a0 : Nat) (x1 : Int32) : SW Γ iI 0 [some (.ref a0), some (.int x1)] [] (P_X5_holds a0 x1) := by
  unfold P_X5_holds
  refine sw_iload_n (z := x1) (pc' := 1) ok dX5_holds_0 rfl rfl ?_
  refine sw_jn (fun k1 : PM Int32 => SW Γ iI 16 [none, none] [] (k1)) ?_ (fun k1 hk1 => ?_)
  · refine sw_iconst (v := 0) (pc' := 17) ok dX5_holds_16 rfl cc_iconst_0 ?_
    exact sw_retZ ok okr dX5_holds_17
  refine sw_if_lt (tgt := 16) (pc' := 4) ok dX5_holds_1 (by decide) rfl ?_ ?_
  · refine sw_fg (l' := [none, none]) [false, false] rfl ?_
    exact hk1
  refine sw_iload_n (z := x1) (pc' := 5) ok dX5_holds_4 rfl rfl ?_
  refine sw_aload_n (z := a0) (pc' := 6) ok dX5_holds_5 rfl rfl ?_
  refine sw_getI (pc' := 9) ok (fr_X5_7.g) dX5_holds_6 rfl (fun v2 => ?_)
  refine sw_icmp_ge (tgt := 16) (pc' := 12) ok dX5_holds_9 (by decide) rfl ?_ ?_
  · refine sw_fg (l' := [none, none]) [false, false] rfl ?_
    exact hk1
  refine sw_iconst (v := 1) (pc' := 13) ok dX5_holds_12 rfl cc_iconst_1 ?_
  refine sw_goto (tgt := 17) ok dX5_holds_13 (by decide) ?_
  exact sw_retZ ok okr dX5_holds_17
theorem S_X5_holds (a0 : Nat) (x1 : Int32) : Sim 0 yX5_holds cX5_holds 2 (some .boolean) iI [.ref a0, .int x1] (P_X5_holds a0 x1) := Sim.intro wd_964 (by decide) (by decide +kernel) (Nat.le_of_ble_eq_true rfl) (fun Γ ok okr => W_X5_holds ok okr a0 x1)
theorem dX5_get_0 : decode cX5_get 0 = .ok (.aload_n 0, 1) := by decide +kernel
theorem dX5_get_1 : decode cX5_get 1 = .ok (.iload_n 1, 1) := by decide +kernel
theorem dX5_get_2 : decode cX5_get 2 = .ok (.invokevirtual 43, 3) := by decide +kernel
theorem dX5_get_5 : decode cX5_get 5 = .ok (.ifCond .eq 12, 3) := by decide +kernel
theorem dX5_get_8 : decode cX5_get 8 = .ok (.aload_n 0, 1) := by decide +kernel
theorem dX5_get_9 : decode cX5_get 9 = .ok (.getfield 23, 3) := by decide +kernel
theorem dX5_get_12 : decode cX5_get 12 = .ok (.iload_n 1, 1) := by decide +kernel
theorem dX5_get_13 : decode cX5_get 13 = .ok (.iaload, 1) := by decide +kernel
theorem dX5_get_14 : decode cX5_get 14 = .ok (.goto 4, 3) := by decide +kernel
theorem dX5_get_17 : decode cX5_get 17 = .ok (.iconst 0, 1) := by decide +kernel
theorem dX5_get_18 : decode cX5_get 18 = .ok (.ireturn, 1) := by decide +kernel
def P_X5_get (a0 : Nat) (x1 : Int32) : PM Int32 :=
cllV 5 a0 (P_X5_holds a0 x1) fun v1 =>
ifB (decide (v1 = 0)) (
pureM 0) (
getR 5 0 a0 fun v2 =>
ald v2 x1 fun v3 =>
pureM v3)
set_option maxHeartbeats 4000000 in
set_option maxRecDepth 100000 in
theorem W_X5_get {Γ : Cx} (ok : OKc Γ cX5_get RX5 1 "get") (okr : OKr Γ cX5_get (some .int)) (a0 : Nat) (x1 : Int32) : SW Γ iI 0 [some (.ref a0), some (.int x1)] [] (P_X5_get a0 x1) := by
  unfold P_X5_get
  refine sw_aload_n (z := a0) (pc' := 1) ok dX5_get_0 rfl rfl ?_
  refine sw_iload_n (z := x1) (pc' := 2) ok dX5_get_1 rfl rfl ?_
  refine sw_cllV_I (st := []) (as := [.int x1]) (pc' := 5) ok (S_X5_holds a0 x1) (by decide) lk_X5_43 rfl dX5_get_2 rfl (Nat.le_of_ble_eq_true rfl) rfl (fun v1 => ?_)
  refine sw_if_eq (tgt := 17) (pc' := 8) ok dX5_get_5 (by decide) rfl ?_ ?_
  · refine sw_iconst (v := 0) (pc' := 18) ok dX5_get_17 rfl cc_iconst_0 ?_
    exact sw_ret ok okr dX5_get_18 trivial rfl
  refine sw_aload_n (z := a0) (pc' := 9) ok dX5_get_8 rfl rfl ?_
  refine sw_getR (pc' := 12) ok (fr_X5_23.g) dX5_get_9 rfl (fun v2 => ?_)
  refine sw_iload_n (z := x1) (pc' := 13) ok dX5_get_12 rfl rfl ?_
  refine sw_ald (pc' := 14) ok dX5_get_13 rfl (fun v3 => ?_)
  refine sw_goto (tgt := 18) ok dX5_get_14 (by decide) ?_
  exact sw_ret ok okr dX5_get_18 trivial rfl
theorem S_X5_get (a0 : Nat) (x1 : Int32) : Sim 1 yX5_get cX5_get 2 (some .int) iI [.ref a0, .int x1] (P_X5_get a0 x1) := Sim.intro wd_965 (by decide) (by decide +kernel) (Nat.le_of_ble_eq_true rfl) (fun Γ ok okr => W_X5_get ok okr a0 x1)
theorem dX4_figure_0 : decode cX4_figure 0 = .ok (.aload_n 0, 1) := by decide +kernel
theorem dX4_figure_1 : decode cX4_figure 1 = .ok (.iload_n 1, 1) := by decide +kernel
theorem dX4_figure_2 : decode cX4_figure 2 = .ok (.invokevirtual 39, 3) := by decide +kernel
theorem dX4_figure_5 : decode cX4_figure 5 = .ok (.istore_n 2, 1) := by decide +kernel
theorem dX4_figure_6 : decode cX4_figure 6 = .ok (.iload_n 2, 1) := by decide +kernel
theorem dX4_figure_7 : decode cX4_figure 7 = .ok (.bipush 48, 2) := by decide +kernel
theorem dX4_figure_9 : decode cX4_figure 9 = .ok (.if_icmp .lt 16, 3) := by decide +kernel
theorem dX4_figure_12 : decode cX4_figure 12 = .ok (.iload_n 2, 1) := by decide +kernel
theorem dX4_figure_13 : decode cX4_figure 13 = .ok (.bipush 57, 2) := by decide +kernel
theorem dX4_figure_15 : decode cX4_figure 15 = .ok (.if_icmp .gt 10, 3) := by decide +kernel
theorem dX4_figure_18 : decode cX4_figure 18 = .ok (.iload_n 2, 1) := by decide +kernel
theorem dX4_figure_19 : decode cX4_figure 19 = .ok (.bipush 48, 2) := by decide +kernel
theorem dX4_figure_21 : decode cX4_figure 21 = .ok (.isub, 1) := by decide +kernel
theorem dX4_figure_22 : decode cX4_figure 22 = .ok (.goto 4, 3) := by decide +kernel
theorem dX4_figure_25 : decode cX4_figure 25 = .ok (.iconst (-1), 1) := by decide +kernel
theorem dX4_figure_26 : decode cX4_figure 26 = .ok (.ireturn, 1) := by decide +kernel
def P_X4_figure (a0 : Nat) (x1 : Int32) : PM Int32 :=
cllV 5 a0 (P_X5_get a0 x1) fun v1 =>
jn (
pureM ((-1))) fun k2 =>
ifB (decide (v1 < 48)) (
k2) (
ifB (decide (57 < v1)) (
k2) (
pureM (v1 - 48)))
set_option maxHeartbeats 4000000 in
set_option maxRecDepth 100000 in
theorem W_X4_figure {Γ : Cx} (ok : OKc Γ cX4_figure RX4 2 "figure") (okr : OKr Γ cX4_figure (some .int)) (a0 : Nat) (x1 : Int32) : SW Γ iI 0 [some (.ref a0), some (.int x1), none] [] (P_X4_figure a0 x1) := by
  unfold P_X4_figure
  refine sw_aload_n (z := a0) (pc' := 1) ok dX4_figure_0 rfl rfl ?_
  refine sw_iload_n (z := x1) (pc' := 2) ok dX4_figure_1 rfl rfl ?_
  refine sw_cllV_I (st := []) (as := [.int x1]) (pc' := 5) ok (S_X5_get a0 x1) (by decide) lk_X4_39 rfl dX4_figure_2 rfl (Nat.le_of_ble_eq_true rfl) rfl (fun v1 => ?_)
  refine sw_istore_n (pc' := 6) (l' := [some (.ref a0), some (.int x1), some (.int v1)]) ok dX4_figure_5 rfl (Nat.le_of_ble_eq_true rfl) rfl ?_
  refine sw_iload_n (z := v1) (pc' := 7) ok dX4_figure_6 rfl rfl ?_
  refine sw_bipush (v := 48) (pc' := 9) ok dX4_figure_7 rfl cc_bipush_48 ?_
  refine sw_jn (fun k2 : PM Int32 => SW Γ iI 25 [none, none, none] [] (k2)) ?_ (fun k2 hk2 => ?_)
  · refine sw_iconst (v := (-1)) (pc' := 26) ok dX4_figure_25 rfl cc_iconst_m1 ?_
    exact sw_ret ok okr dX4_figure_26 trivial rfl
  refine sw_icmp_lt (tgt := 25) (pc' := 12) ok dX4_figure_9 (by decide) rfl ?_ ?_
  · refine sw_fg (l' := [none, none, none]) [false, false, false] rfl ?_
    exact hk2
  refine sw_iload_n (z := v1) (pc' := 13) ok dX4_figure_12 rfl rfl ?_
  refine sw_bipush (v := 57) (pc' := 15) ok dX4_figure_13 rfl cc_bipush_57 ?_
  refine sw_icmp_gt (tgt := 25) (pc' := 18) ok dX4_figure_15 (by decide) rfl ?_ ?_
  · refine sw_fg (l' := [none, none, none]) [false, false, false] rfl ?_
    exact hk2
  refine sw_iload_n (z := v1) (pc' := 19) ok dX4_figure_18 rfl rfl ?_
  refine sw_bipush (v := 48) (pc' := 21) ok dX4_figure_19 rfl cc_bipush_48 ?_
  refine sw_isub (pc' := 22) ok dX4_figure_21 rfl ?_
  refine sw_goto (tgt := 26) ok dX4_figure_22 (by decide) ?_
  exact sw_ret ok okr dX4_figure_26 trivial rfl
theorem S_X4_figure (a0 : Nat) (x1 : Int32) : Sim 2 yX4_figure cX4_figure 3 (some .int) iI [.ref a0, .int x1] (P_X4_figure a0 x1) := Sim.intro wd_966 (by decide) (by decide +kernel) (Nat.le_of_ble_eq_true rfl) (fun Γ ok okr => W_X4_figure ok okr a0 x1)
theorem dX4_readHead_0 : decode cX4_readHead 0 = .ok (.aload_n 1, 1) := by decide +kernel
theorem dX4_readHead_1 : decode cX4_readHead 1 = .ok (.aload_n 0, 1) := by decide +kernel
theorem dX4_readHead_2 : decode cX4_readHead 2 = .ok (.getfield 18, 3) := by decide +kernel
theorem dX4_readHead_5 : decode cX4_readHead 5 = .ok (.invokevirtual 39, 3) := by decide +kernel
theorem dX4_readHead_8 : decode cX4_readHead 8 = .ok (.bipush 104, 2) := by decide +kernel
theorem dX4_readHead_10 : decode cX4_readHead 10 = .ok (.if_icmp .eq 8, 3) := by decide +kernel
theorem dX4_readHead_13 : decode cX4_readHead 13 = .ok (.aload_n 0, 1) := by decide +kernel
theorem dX4_readHead_14 : decode cX4_readHead 14 = .ok (.getfield 18, 3) := by decide +kernel
theorem dX4_readHead_17 : decode cX4_readHead 17 = .ok (.ireturn, 1) := by decide +kernel
theorem dX4_readHead_18 : decode cX4_readHead 18 = .ok (.aload_n 1, 1) := by decide +kernel
theorem dX4_readHead_19 : decode cX4_readHead 19 = .ok (.aload_n 0, 1) := by decide +kernel
theorem dX4_readHead_20 : decode cX4_readHead 20 = .ok (.getfield 18, 3) := by decide +kernel
theorem dX4_readHead_23 : decode cX4_readHead 23 = .ok (.iconst 1, 1) := by decide +kernel
theorem dX4_readHead_24 : decode cX4_readHead 24 = .ok (.iadd, 1) := by decide +kernel
theorem dX4_readHead_25 : decode cX4_readHead 25 = .ok (.invokestatic 53, 3) := by decide +kernel
theorem dX4_readHead_28 : decode cX4_readHead 28 = .ok (.istore_n 2, 1) := by decide +kernel
theorem dX4_readHead_29 : decode cX4_readHead 29 = .ok (.iload_n 2, 1) := by decide +kernel
theorem dX4_readHead_30 : decode cX4_readHead 30 = .ok (.ifCond .ge 10, 3) := by decide +kernel
theorem dX4_readHead_33 : decode cX4_readHead 33 = .ok (.aload_n 0, 1) := by decide +kernel
theorem dX4_readHead_34 : decode cX4_readHead 34 = .ok (.getfield 18, 3) := by decide +kernel
theorem dX4_readHead_37 : decode cX4_readHead 37 = .ok (.iconst 1, 1) := by decide +kernel
theorem dX4_readHead_38 : decode cX4_readHead 38 = .ok (.iadd, 1) := by decide +kernel
theorem dX4_readHead_39 : decode cX4_readHead 39 = .ok (.ireturn, 1) := by decide +kernel
theorem dX4_readHead_40 : decode cX4_readHead 40 = .ok (.aload_n 1, 1) := by decide +kernel
theorem dX4_readHead_41 : decode cX4_readHead 41 = .ok (.aload_n 0, 1) := by decide +kernel
theorem dX4_readHead_42 : decode cX4_readHead 42 = .ok (.getfield 18, 3) := by decide +kernel
theorem dX4_readHead_45 : decode cX4_readHead 45 = .ok (.iconst 2, 1) := by decide +kernel
theorem dX4_readHead_46 : decode cX4_readHead 46 = .ok (.iadd, 1) := by decide +kernel
theorem dX4_readHead_47 : decode cX4_readHead 47 = .ok (.invokestatic 53, 3) := by decide +kernel
theorem dX4_readHead_50 : decode cX4_readHead 50 = .ok (.istore_n 3, 1) := by decide +kernel
theorem dX4_readHead_51 : decode cX4_readHead 51 = .ok (.iload_n 3, 1) := by decide +kernel
theorem dX4_readHead_52 : decode cX4_readHead 52 = .ok (.ifCond .ge 10, 3) := by decide +kernel
theorem dX4_readHead_55 : decode cX4_readHead 55 = .ok (.aload_n 0, 1) := by decide +kernel
theorem dX4_readHead_56 : decode cX4_readHead 56 = .ok (.getfield 18, 3) := by decide +kernel
theorem dX4_readHead_59 : decode cX4_readHead 59 = .ok (.iconst 2, 1) := by decide +kernel
theorem dX4_readHead_60 : decode cX4_readHead 60 = .ok (.iadd, 1) := by decide +kernel
theorem dX4_readHead_61 : decode cX4_readHead 61 = .ok (.ireturn, 1) := by decide +kernel
theorem dX4_readHead_62 : decode cX4_readHead 62 = .ok (.bipush 10, 2) := by decide +kernel
theorem dX4_readHead_64 : decode cX4_readHead 64 = .ok (.iload_n 2, 1) := by decide +kernel
theorem dX4_readHead_65 : decode cX4_readHead 65 = .ok (.imul, 1) := by decide +kernel
theorem dX4_readHead_66 : decode cX4_readHead 66 = .ok (.iload_n 3, 1) := by decide +kernel
theorem dX4_readHead_67 : decode cX4_readHead 67 = .ok (.iadd, 1) := by decide +kernel
theorem dX4_readHead_68 : decode cX4_readHead 68 = .ok (.bipush 40, 2) := by decide +kernel
theorem dX4_readHead_70 : decode cX4_readHead 70 = .ok (.if_icmp .le 10, 3) := by decide +kernel
theorem dX4_readHead_73 : decode cX4_readHead 73 = .ok (.aload_n 0, 1) := by decide +kernel
theorem dX4_readHead_74 : decode cX4_readHead 74 = .ok (.getfield 18, 3) := by decide +kernel
theorem dX4_readHead_77 : decode cX4_readHead 77 = .ok (.iconst 1, 1) := by decide +kernel
theorem dX4_readHead_78 : decode cX4_readHead 78 = .ok (.iadd, 1) := by decide +kernel
theorem dX4_readHead_79 : decode cX4_readHead 79 = .ok (.ireturn, 1) := by decide +kernel
theorem dX4_readHead_80 : decode cX4_readHead 80 = .ok (.aload_n 1, 1) := by decide +kernel
theorem dX4_readHead_81 : decode cX4_readHead 81 = .ok (.aload_n 0, 1) := by decide +kernel
theorem dX4_readHead_82 : decode cX4_readHead 82 = .ok (.getfield 18, 3) := by decide +kernel
theorem dX4_readHead_85 : decode cX4_readHead 85 = .ok (.iconst 3, 1) := by decide +kernel
theorem dX4_readHead_86 : decode cX4_readHead 86 = .ok (.iadd, 1) := by decide +kernel
theorem dX4_readHead_87 : decode cX4_readHead 87 = .ok (.invokestatic 53, 3) := by decide +kernel
theorem dX4_readHead_90 : decode cX4_readHead 90 = .ok (.istore 4, 2) := by decide +kernel
theorem dX4_readHead_92 : decode cX4_readHead 92 = .ok (.iload 4, 2) := by decide +kernel
theorem dX4_readHead_94 : decode cX4_readHead 94 = .ok (.ifCond .ge 10, 3) := by decide +kernel
theorem dX4_readHead_97 : decode cX4_readHead 97 = .ok (.aload_n 0, 1) := by decide +kernel
theorem dX4_readHead_98 : decode cX4_readHead 98 = .ok (.getfield 18, 3) := by decide +kernel
theorem dX4_readHead_101 : decode cX4_readHead 101 = .ok (.iconst 3, 1) := by decide +kernel
theorem dX4_readHead_102 : decode cX4_readHead 102 = .ok (.iadd, 1) := by decide +kernel
theorem dX4_readHead_103 : decode cX4_readHead 103 = .ok (.ireturn, 1) := by decide +kernel
theorem dX4_readHead_104 : decode cX4_readHead 104 = .ok (.aload_n 0, 1) := by decide +kernel
theorem dX4_readHead_105 : decode cX4_readHead 105 = .ok (.getfield 12, 3) := by decide +kernel
theorem dX4_readHead_108 : decode cX4_readHead 108 = .ok (.bipush 10, 2) := by decide +kernel
theorem dX4_readHead_110 : decode cX4_readHead 110 = .ok (.iload_n 2, 1) := by decide +kernel
theorem dX4_readHead_111 : decode cX4_readHead 111 = .ok (.imul, 1) := by decide +kernel
theorem dX4_readHead_112 : decode cX4_readHead 112 = .ok (.iload_n 3, 1) := by decide +kernel
theorem dX4_readHead_113 : decode cX4_readHead 113 = .ok (.iadd, 1) := by decide +kernel
theorem dX4_readHead_114 : decode cX4_readHead 114 = .ok (.putfield 57, 3) := by decide +kernel
theorem dX4_readHead_117 : decode cX4_readHead 117 = .ok (.aload_n 0, 1) := by decide +kernel
theorem dX4_readHead_118 : decode cX4_readHead 118 = .ok (.getfield 12, 3) := by decide +kernel
theorem dX4_readHead_121 : decode cX4_readHead 121 = .ok (.iload 4, 2) := by decide +kernel
theorem dX4_readHead_123 : decode cX4_readHead 123 = .ok (.putfield 60, 3) := by decide +kernel
theorem dX4_readHead_126 : decode cX4_readHead 126 = .ok (.aload_n 0, 1) := by decide +kernel
theorem dX4_readHead_127 : decode cX4_readHead 127 = .ok (.dup, 1) := by decide +kernel
theorem dX4_readHead_128 : decode cX4_readHead 128 = .ok (.getfield 18, 3) := by decide +kernel
theorem dX4_readHead_131 : decode cX4_readHead 131 = .ok (.iconst 4, 1) := by decide +kernel
theorem dX4_readHead_132 : decode cX4_readHead 132 = .ok (.iadd, 1) := by decide +kernel
theorem dX4_readHead_133 : decode cX4_readHead 133 = .ok (.putfield 18, 3) := by decide +kernel
theorem dX4_readHead_136 : decode cX4_readHead 136 = .ok (.bipush (-9), 2) := by decide +kernel
theorem dX4_readHead_138 : decode cX4_readHead 138 = .ok (.ireturn, 1) := by decide +kernel
def P_X4_readHead (a0 : Nat) (a1 : Nat) : PM Int32 :=
getI 4 1 a0 fun v1 =>
cllV 5 a1 (P_X5_get a1 v1) fun v2 =>
ifB (decide (v2 = 104)) (
getI 4 1 a0 fun v3 =>
cll0 (P_X4_figure a1 (v3 + 1)) fun v4 =>
ifB (decide (0 ≤ v4)) (
getI 4 1 a0 fun v5 =>
cll0 (P_X4_figure a1 (v5 + 2)) fun v6 =>
ifB (decide (0 ≤ v6)) (
ifB (decide (((10 * v4) + v6) ≤ 40)) (
getI 4 1 a0 fun v7 =>
cll0 (P_X4_figure a1 (v7 + 3)) fun v8 =>
ifB (decide (0 ≤ v8)) (
getR 4 0 a0 fun v9 =>
setI 0 5 v9 ((10 * v4) + v6) <|
getR 4 0 a0 fun v10 =>
setI 0 6 v10 v8 <|
getI 4 1 a0 fun v11 =>
setI 4 1 a0 (v11 + 4) <|
pureM ((-9))) (
getI 4 1 a0 fun v12 =>
pureM (v12 + 3))) (
getI 4 1 a0 fun v13 =>
pureM (v13 + 1))) (
getI 4 1 a0 fun v14 =>
pureM (v14 + 2))) (
getI 4 1 a0 fun v15 =>
pureM (v15 + 1))) (
getI 4 1 a0 fun v16 =>
pureM v16)
set_option maxHeartbeats 4000000 in
set_option maxRecDepth 100000 in
theorem W_X4_readHead {Γ : Cx} (ok : OKc Γ cX4_readHead RX4 3 "readHead") (okr : OKr Γ cX4_readHead (some .int)) (a0 : Nat) (a1 : Nat) : SW Γ iI 0 [some (.ref a0), some (.ref a1), none, none, none] [] (P_X4_readHead a0 a1) := by
  unfold P_X4_readHead
  refine sw_aload_n (z := a1) (pc' := 1) ok dX4_readHead_0 rfl rfl ?_
  refine sw_aload_n (z := a0) (pc' := 2) ok dX4_readHead_1 rfl rfl ?_
  refine sw_getI (pc' := 5) ok (fr_X4_18.g) dX4_readHead_2 rfl (fun v1 => ?_)
  refine sw_cllV_I (st := []) (as := [.int v1]) (pc' := 8) ok (S_X5_get a1 v1) (by decide) lk_X4_39 rfl dX4_readHead_5 rfl (Nat.le_of_ble_eq_true rfl) rfl (fun v2 => ?_)
  refine sw_bipush (v := 104) (pc' := 10) ok dX4_readHead_8 rfl cc_bipush_104 ?_
  refine sw_icmp_eq (tgt := 18) (pc' := 13) ok dX4_readHead_10 (by decide) rfl ?_ ?_
  · refine sw_aload_n (z := a1) (pc' := 19) ok dX4_readHead_18 rfl rfl ?_
    refine sw_aload_n (z := a0) (pc' := 20) ok dX4_readHead_19 rfl rfl ?_
    refine sw_getI (pc' := 23) ok (fr_X4_18.g) dX4_readHead_20 rfl (fun v3 => ?_)
    refine sw_iconst (v := 1) (pc' := 24) ok dX4_readHead_23 rfl cc_iconst_1 ?_
    refine sw_iadd (pc' := 25) ok dX4_readHead_24 rfl ?_
    refine sw_cll0_I (st := []) (as := [.ref a1, .int (v3 + 1)]) (pc' := 28) ok (S_X4_figure a1 (v3 + 1)) (by decide) lk_X4_53 rfl dX4_readHead_25 rfl (Nat.le_of_ble_eq_true rfl) rfl (fun v4 => ?_)
    refine sw_istore_n (pc' := 29) (l' := [some (.ref a0), some (.ref a1), some (.int v4), none, none]) ok dX4_readHead_28 rfl (Nat.le_of_ble_eq_true rfl) rfl ?_
    refine sw_iload_n (z := v4) (pc' := 30) ok dX4_readHead_29 rfl rfl ?_
    refine sw_if_ge (tgt := 40) (pc' := 33) ok dX4_readHead_30 (by decide) rfl ?_ ?_
    · refine sw_aload_n (z := a1) (pc' := 41) ok dX4_readHead_40 rfl rfl ?_
      refine sw_aload_n (z := a0) (pc' := 42) ok dX4_readHead_41 rfl rfl ?_
      refine sw_getI (pc' := 45) ok (fr_X4_18.g) dX4_readHead_42 rfl (fun v5 => ?_)
      refine sw_iconst (v := 2) (pc' := 46) ok dX4_readHead_45 rfl cc_iconst_2 ?_
      refine sw_iadd (pc' := 47) ok dX4_readHead_46 rfl ?_
      refine sw_cll0_I (st := []) (as := [.ref a1, .int (v5 + 2)]) (pc' := 50) ok (S_X4_figure a1 (v5 + 2)) (by decide) lk_X4_53 rfl dX4_readHead_47 rfl (Nat.le_of_ble_eq_true rfl) rfl (fun v6 => ?_)
      refine sw_istore_n (pc' := 51) (l' := [some (.ref a0), some (.ref a1), some (.int v4), some (.int v6), none]) ok dX4_readHead_50 rfl (Nat.le_of_ble_eq_true rfl) rfl ?_
      refine sw_iload_n (z := v6) (pc' := 52) ok dX4_readHead_51 rfl rfl ?_
      refine sw_if_ge (tgt := 62) (pc' := 55) ok dX4_readHead_52 (by decide) rfl ?_ ?_
      · refine sw_bipush (v := 10) (pc' := 64) ok dX4_readHead_62 rfl cc_bipush_10 ?_
        refine sw_iload_n (z := v4) (pc' := 65) ok dX4_readHead_64 rfl rfl ?_
        refine sw_imul (pc' := 66) ok dX4_readHead_65 rfl ?_
        refine sw_iload_n (z := v6) (pc' := 67) ok dX4_readHead_66 rfl rfl ?_
        refine sw_iadd (pc' := 68) ok dX4_readHead_67 rfl ?_
        refine sw_bipush (v := 40) (pc' := 70) ok dX4_readHead_68 rfl cc_bipush_40 ?_
        refine sw_icmp_le (tgt := 80) (pc' := 73) ok dX4_readHead_70 (by decide) rfl ?_ ?_
        · refine sw_aload_n (z := a1) (pc' := 81) ok dX4_readHead_80 rfl rfl ?_
          refine sw_aload_n (z := a0) (pc' := 82) ok dX4_readHead_81 rfl rfl ?_
          refine sw_getI (pc' := 85) ok (fr_X4_18.g) dX4_readHead_82 rfl (fun v7 => ?_)
          refine sw_iconst (v := 3) (pc' := 86) ok dX4_readHead_85 rfl cc_iconst_3 ?_
          refine sw_iadd (pc' := 87) ok dX4_readHead_86 rfl ?_
          refine sw_cll0_I (st := []) (as := [.ref a1, .int (v7 + 3)]) (pc' := 90) ok (S_X4_figure a1 (v7 + 3)) (by decide) lk_X4_53 rfl dX4_readHead_87 rfl (Nat.le_of_ble_eq_true rfl) rfl (fun v8 => ?_)
          refine sw_istore (pc' := 92) (l' := [some (.ref a0), some (.ref a1), some (.int v4), some (.int v6), some (.int v8)]) ok dX4_readHead_90 rfl (Nat.le_of_ble_eq_true rfl) rfl ?_
          refine sw_iload (z := v8) (pc' := 94) ok dX4_readHead_92 rfl rfl ?_
          refine sw_if_ge (tgt := 104) (pc' := 97) ok dX4_readHead_94 (by decide) rfl ?_ ?_
          · refine sw_aload_n (z := a0) (pc' := 105) ok dX4_readHead_104 rfl rfl ?_
            refine sw_getR (pc' := 108) ok (fr_X4_12.g) dX4_readHead_105 rfl (fun v9 => ?_)
            refine sw_bipush (v := 10) (pc' := 110) ok dX4_readHead_108 rfl cc_bipush_10 ?_
            refine sw_iload_n (z := v4) (pc' := 111) ok dX4_readHead_110 rfl rfl ?_
            refine sw_imul (pc' := 112) ok dX4_readHead_111 rfl ?_
            refine sw_iload_n (z := v6) (pc' := 113) ok dX4_readHead_112 rfl rfl ?_
            refine sw_iadd (pc' := 114) ok dX4_readHead_113 rfl ?_
            refine sw_setI (pc' := 117) ok fr_X4_57 dX4_readHead_114 (fun h => by cases h) rfl ?_
            refine sw_aload_n (z := a0) (pc' := 118) ok dX4_readHead_117 rfl rfl ?_
            refine sw_getR (pc' := 121) ok (fr_X4_12.g) dX4_readHead_118 rfl (fun v10 => ?_)
            refine sw_iload (z := v8) (pc' := 123) ok dX4_readHead_121 rfl rfl ?_
            refine sw_setI (pc' := 126) ok fr_X4_60 dX4_readHead_123 (fun h => by cases h) rfl ?_
            refine sw_aload_n (z := a0) (pc' := 127) ok dX4_readHead_126 rfl rfl ?_
            refine sw_dup (pc' := 128) ok dX4_readHead_127 rfl rfl ?_
            refine sw_getI (pc' := 131) ok (fr_X4_18.g) dX4_readHead_128 rfl (fun v11 => ?_)
            refine sw_iconst (v := 4) (pc' := 132) ok dX4_readHead_131 rfl cc_iconst_4 ?_
            refine sw_iadd (pc' := 133) ok dX4_readHead_132 rfl ?_
            refine sw_setI (pc' := 136) ok fr_X4_18 dX4_readHead_133 (fun h => by cases h) rfl ?_
            refine sw_bipush (v := (-9)) (pc' := 138) ok dX4_readHead_136 rfl cc_bipush_m9 ?_
            exact sw_ret ok okr dX4_readHead_138 trivial rfl
          refine sw_aload_n (z := a0) (pc' := 98) ok dX4_readHead_97 rfl rfl ?_
          refine sw_getI (pc' := 101) ok (fr_X4_18.g) dX4_readHead_98 rfl (fun v12 => ?_)
          refine sw_iconst (v := 3) (pc' := 102) ok dX4_readHead_101 rfl cc_iconst_3 ?_
          refine sw_iadd (pc' := 103) ok dX4_readHead_102 rfl ?_
          exact sw_ret ok okr dX4_readHead_103 trivial rfl
        refine sw_aload_n (z := a0) (pc' := 74) ok dX4_readHead_73 rfl rfl ?_
        refine sw_getI (pc' := 77) ok (fr_X4_18.g) dX4_readHead_74 rfl (fun v13 => ?_)
        refine sw_iconst (v := 1) (pc' := 78) ok dX4_readHead_77 rfl cc_iconst_1 ?_
        refine sw_iadd (pc' := 79) ok dX4_readHead_78 rfl ?_
        exact sw_ret ok okr dX4_readHead_79 trivial rfl
      refine sw_aload_n (z := a0) (pc' := 56) ok dX4_readHead_55 rfl rfl ?_
      refine sw_getI (pc' := 59) ok (fr_X4_18.g) dX4_readHead_56 rfl (fun v14 => ?_)
      refine sw_iconst (v := 2) (pc' := 60) ok dX4_readHead_59 rfl cc_iconst_2 ?_
      refine sw_iadd (pc' := 61) ok dX4_readHead_60 rfl ?_
      exact sw_ret ok okr dX4_readHead_61 trivial rfl
    refine sw_aload_n (z := a0) (pc' := 34) ok dX4_readHead_33 rfl rfl ?_
    refine sw_getI (pc' := 37) ok (fr_X4_18.g) dX4_readHead_34 rfl (fun v15 => ?_)
    refine sw_iconst (v := 1) (pc' := 38) ok dX4_readHead_37 rfl cc_iconst_1 ?_
    refine sw_iadd (pc' := 39) ok dX4_readHead_38 rfl ?_
    exact sw_ret ok okr dX4_readHead_39 trivial rfl
  refine sw_aload_n (z := a0) (pc' := 14) ok dX4_readHead_13 rfl rfl ?_
  refine sw_getI (pc' := 17) ok (fr_X4_18.g) dX4_readHead_14 rfl (fun v16 => ?_)
  exact sw_ret ok okr dX4_readHead_17 trivial rfl
theorem S_X4_readHead (a0 : Nat) (a1 : Nat) : Sim 3 yX4_readHead cX4_readHead 5 (some .int) iI [.ref a0, .ref a1] (P_X4_readHead a0 a1) := Sim.intro wd_967 (by decide) (by decide +kernel) (Nat.le_of_ble_eq_true rfl) (fun Γ ok okr => W_X4_readHead ok okr a0 a1)
theorem dX4_kindOf_0 : decode cX4_kindOf 0 = .ok (.iload_n 0, 1) := by decide +kernel
theorem dX4_kindOf_1 : decode cX4_kindOf 1 = .ok (.lookupswitch 71 #[(98, 61), (99, 65), (108, 63), (112, 67), (116, 59), (119, 69)], 59) := by decide +kernel
theorem dX4_kindOf_60 : decode cX4_kindOf 60 = .ok (.iconst 0, 1) := by decide +kernel
theorem dX4_kindOf_61 : decode cX4_kindOf 61 = .ok (.ireturn, 1) := by decide +kernel
theorem dX4_kindOf_62 : decode cX4_kindOf 62 = .ok (.iconst 1, 1) := by decide +kernel
theorem dX4_kindOf_63 : decode cX4_kindOf 63 = .ok (.ireturn, 1) := by decide +kernel
theorem dX4_kindOf_64 : decode cX4_kindOf 64 = .ok (.iconst 2, 1) := by decide +kernel
theorem dX4_kindOf_65 : decode cX4_kindOf 65 = .ok (.ireturn, 1) := by decide +kernel
theorem dX4_kindOf_66 : decode cX4_kindOf 66 = .ok (.iconst 3, 1) := by decide +kernel
theorem dX4_kindOf_67 : decode cX4_kindOf 67 = .ok (.ireturn, 1) := by decide +kernel
theorem dX4_kindOf_68 : decode cX4_kindOf 68 = .ok (.iconst 4, 1) := by decide +kernel
theorem dX4_kindOf_69 : decode cX4_kindOf 69 = .ok (.ireturn, 1) := by decide +kernel
theorem dX4_kindOf_70 : decode cX4_kindOf 70 = .ok (.iconst 5, 1) := by decide +kernel
theorem dX4_kindOf_71 : decode cX4_kindOf 71 = .ok (.ireturn, 1) := by decide +kernel
theorem dX4_kindOf_72 : decode cX4_kindOf 72 = .ok (.iconst (-1), 1) := by decide +kernel
theorem dX4_kindOf_73 : decode cX4_kindOf 73 = .ok (.ireturn, 1) := by decide +kernel
def P_X4_kindOf (x0 : Int32) : PM Int32 :=
swL x0 [
(98,
pureM 1),
(99,
pureM 3),
(108,
pureM 2),
(112,
pureM 4),
(116,
pureM 0),
(119,
pureM 5)] (
pureM ((-1)))
set_option maxHeartbeats 4000000 in
set_option maxRecDepth 100000 in
theorem W_X4_kindOf {Γ : Cx} (ok : OKc Γ cX4_kindOf RX4 0 "kindOf") (okr : OKr Γ cX4_kindOf (some .int)) (x0 : Int32) : SW Γ iI 0 [some (.int x0)] [] (P_X4_kindOf x0) := by
  unfold P_X4_kindOf
  refine sw_iload_n (z := x0) (pc' := 1) ok dX4_kindOf_0 rfl rfl ?_
  refine sw_lsw (tgt := 72) ok dX4_kindOf_1 (by decide) (by decide) ⟨⟨rfl, 62, by decide, ?_⟩, ⟨rfl, 66, by decide, ?_⟩, ⟨rfl, 64, by decide, ?_⟩, ⟨rfl, 68, by decide, ?_⟩, ⟨rfl, 60, by decide, ?_⟩, ⟨rfl, 70, by decide, ?_⟩, trivial⟩ ?_
  · refine sw_iconst (v := 1) (pc' := 63) ok dX4_kindOf_62 rfl cc_iconst_1 ?_
    exact sw_ret ok okr dX4_kindOf_63 trivial rfl
  · refine sw_iconst (v := 3) (pc' := 67) ok dX4_kindOf_66 rfl cc_iconst_3 ?_
    exact sw_ret ok okr dX4_kindOf_67 trivial rfl
  · refine sw_iconst (v := 2) (pc' := 65) ok dX4_kindOf_64 rfl cc_iconst_2 ?_
    exact sw_ret ok okr dX4_kindOf_65 trivial rfl
  · refine sw_iconst (v := 4) (pc' := 69) ok dX4_kindOf_68 rfl cc_iconst_4 ?_
    exact sw_ret ok okr dX4_kindOf_69 trivial rfl
  · refine sw_iconst (v := 0) (pc' := 61) ok dX4_kindOf_60 rfl cc_iconst_0 ?_
    exact sw_ret ok okr dX4_kindOf_61 trivial rfl
  · refine sw_iconst (v := 5) (pc' := 71) ok dX4_kindOf_70 rfl cc_iconst_5 ?_
    exact sw_ret ok okr dX4_kindOf_71 trivial rfl
  refine sw_iconst (v := (-1)) (pc' := 73) ok dX4_kindOf_72 rfl cc_iconst_m1 ?_
  exact sw_ret ok okr dX4_kindOf_73 trivial rfl
theorem S_X4_kindOf (x0 : Int32) : Sim 0 yX4_kindOf cX4_kindOf 1 (some .int) iI [.int x0] (P_X4_kindOf x0) := Sim.intro wd_968 (by decide) (by decide +kernel) (Nat.le_of_ble_eq_true rfl) (fun Γ ok okr => W_X4_kindOf ok okr x0)
theorem dX4_readOne_0 : decode cX4_readOne 0 = .ok (.aload_n 1, 1) := by decide +kernel
theorem dX4_readOne_1 : decode cX4_readOne 1 = .ok (.aload_n 0, 1) := by decide +kernel
theorem dX4_readOne_2 : decode cX4_readOne 2 = .ok (.getfield 18, 3) := by decide +kernel
theorem dX4_readOne_5 : decode cX4_readOne 5 = .ok (.invokevirtual 39, 3) := by decide +kernel
theorem dX4_readOne_8 : decode cX4_readOne 8 = .ok (.invokestatic 63, 3) := by decide +kernel
theorem dX4_readOne_11 : decode cX4_readOne 11 = .ok (.istore_n 2, 1) := by decide +kernel
theorem dX4_readOne_12 : decode cX4_readOne 12 = .ok (.iload_n 2, 1) := by decide +kernel
theorem dX4_readOne_13 : decode cX4_readOne 13 = .ok (.ifCond .lt 15, 3) := by decide +kernel
theorem dX4_readOne_16 : decode cX4_readOne 16 = .ok (.aload_n 0, 1) := by decide +kernel
theorem dX4_readOne_17 : decode cX4_readOne 17 = .ok (.getfield 12, 3) := by decide +kernel
theorem dX4_readOne_20 : decode cX4_readOne 20 = .ok (.getfield 49, 3) := by decide +kernel
theorem dX4_readOne_23 : decode cX4_readOne 23 = .ok (.bipush 6, 2) := by decide +kernel
theorem dX4_readOne_25 : decode cX4_readOne 25 = .ok (.if_icmp .lt 8, 3) := by decide +kernel
theorem dX4_readOne_28 : decode cX4_readOne 28 = .ok (.aload_n 0, 1) := by decide +kernel
theorem dX4_readOne_29 : decode cX4_readOne 29 = .ok (.getfield 18, 3) := by decide +kernel
theorem dX4_readOne_32 : decode cX4_readOne 32 = .ok (.ireturn, 1) := by decide +kernel
theorem dX4_readOne_33 : decode cX4_readOne 33 = .ok (.aload_n 1, 1) := by decide +kernel
theorem dX4_readOne_34 : decode cX4_readOne 34 = .ok (.aload_n 0, 1) := by decide +kernel
theorem dX4_readOne_35 : decode cX4_readOne 35 = .ok (.getfield 18, 3) := by decide +kernel
theorem dX4_readOne_38 : decode cX4_readOne 38 = .ok (.iconst 1, 1) := by decide +kernel
theorem dX4_readOne_39 : decode cX4_readOne 39 = .ok (.iadd, 1) := by decide +kernel
theorem dX4_readOne_40 : decode cX4_readOne 40 = .ok (.invokestatic 53, 3) := by decide +kernel
theorem dX4_readOne_43 : decode cX4_readOne 43 = .ok (.istore_n 3, 1) := by decide +kernel
theorem dX4_readOne_44 : decode cX4_readOne 44 = .ok (.iload_n 3, 1) := by decide +kernel
theorem dX4_readOne_45 : decode cX4_readOne 45 = .ok (.ifCond .ge 10, 3) := by decide +kernel
theorem dX4_readOne_48 : decode cX4_readOne 48 = .ok (.aload_n 0, 1) := by decide +kernel
theorem dX4_readOne_49 : decode cX4_readOne 49 = .ok (.getfield 18, 3) := by decide +kernel
theorem dX4_readOne_52 : decode cX4_readOne 52 = .ok (.iconst 1, 1) := by decide +kernel
theorem dX4_readOne_53 : decode cX4_readOne 53 = .ok (.iadd, 1) := by decide +kernel
theorem dX4_readOne_54 : decode cX4_readOne 54 = .ok (.ireturn, 1) := by decide +kernel
theorem dX4_readOne_55 : decode cX4_readOne 55 = .ok (.aload_n 1, 1) := by decide +kernel
theorem dX4_readOne_56 : decode cX4_readOne 56 = .ok (.aload_n 0, 1) := by decide +kernel
theorem dX4_readOne_57 : decode cX4_readOne 57 = .ok (.getfield 18, 3) := by decide +kernel
theorem dX4_readOne_60 : decode cX4_readOne 60 = .ok (.iconst 2, 1) := by decide +kernel
theorem dX4_readOne_61 : decode cX4_readOne 61 = .ok (.iadd, 1) := by decide +kernel
theorem dX4_readOne_62 : decode cX4_readOne 62 = .ok (.invokestatic 53, 3) := by decide +kernel
theorem dX4_readOne_65 : decode cX4_readOne 65 = .ok (.istore 4, 2) := by decide +kernel
theorem dX4_readOne_67 : decode cX4_readOne 67 = .ok (.iload 4, 2) := by decide +kernel
theorem dX4_readOne_69 : decode cX4_readOne 69 = .ok (.ifCond .ge 10, 3) := by decide +kernel
theorem dX4_readOne_72 : decode cX4_readOne 72 = .ok (.aload_n 0, 1) := by decide +kernel
theorem dX4_readOne_73 : decode cX4_readOne 73 = .ok (.getfield 18, 3) := by decide +kernel
theorem dX4_readOne_76 : decode cX4_readOne 76 = .ok (.iconst 2, 1) := by decide +kernel
theorem dX4_readOne_77 : decode cX4_readOne 77 = .ok (.iadd, 1) := by decide +kernel
theorem dX4_readOne_78 : decode cX4_readOne 78 = .ok (.ireturn, 1) := by decide +kernel
theorem dX4_readOne_79 : decode cX4_readOne 79 = .ok (.aload_n 0, 1) := by decide +kernel
theorem dX4_readOne_80 : decode cX4_readOne 80 = .ok (.getfield 12, 3) := by decide +kernel
theorem dX4_readOne_83 : decode cX4_readOne 83 = .ok (.iload_n 2, 1) := by decide +kernel
theorem dX4_readOne_84 : decode cX4_readOne 84 = .ok (.iload_n 3, 1) := by decide +kernel
theorem dX4_readOne_85 : decode cX4_readOne 85 = .ok (.iload 4, 2) := by decide +kernel
theorem dX4_readOne_87 : decode cX4_readOne 87 = .ok (.invokevirtual 66, 3) := by decide +kernel
theorem dX4_readOne_90 : decode cX4_readOne 90 = .ok (.aload_n 0, 1) := by decide +kernel
theorem dX4_readOne_91 : decode cX4_readOne 91 = .ok (.dup, 1) := by decide +kernel
theorem dX4_readOne_92 : decode cX4_readOne 92 = .ok (.getfield 18, 3) := by decide +kernel
theorem dX4_readOne_95 : decode cX4_readOne 95 = .ok (.iconst 3, 1) := by decide +kernel
theorem dX4_readOne_96 : decode cX4_readOne 96 = .ok (.iadd, 1) := by decide +kernel
theorem dX4_readOne_97 : decode cX4_readOne 97 = .ok (.putfield 18, 3) := by decide +kernel
theorem dX4_readOne_100 : decode cX4_readOne 100 = .ok (.bipush (-9), 2) := by decide +kernel
theorem dX4_readOne_102 : decode cX4_readOne 102 = .ok (.ireturn, 1) := by decide +kernel
def P_X4_readOne (a0 : Nat) (a1 : Nat) : PM Int32 :=
getI 4 1 a0 fun v1 =>
cllV 5 a1 (P_X5_get a1 v1) fun v2 =>
cll0 (P_X4_kindOf v2) fun v3 =>
jn (
getI 4 1 a0 fun v4 =>
pureM v4) fun k5 =>
ifB (decide (v3 < 0)) (
k5) (
getR 4 0 a0 fun v6 =>
getI 0 4 v6 fun v7 =>
ifB (decide (v7 < 6)) (
getI 4 1 a0 fun v8 =>
cll0 (P_X4_figure a1 (v8 + 1)) fun v9 =>
ifB (decide (0 ≤ v9)) (
getI 4 1 a0 fun v10 =>
cll0 (P_X4_figure a1 (v10 + 2)) fun v11 =>
ifB (decide (0 ≤ v11)) (
getR 4 0 a0 fun v12 =>
cllV 0 v12 (P_X0_add v12 v3 v9 v11) fun _ =>
getI 4 1 a0 fun v13 =>
setI 4 1 a0 (v13 + 3) <|
pureM ((-9))) (
getI 4 1 a0 fun v14 =>
pureM (v14 + 2))) (
getI 4 1 a0 fun v15 =>
pureM (v15 + 1))) (
k5))
set_option maxHeartbeats 4000000 in
set_option maxRecDepth 100000 in
theorem W_X4_readOne {Γ : Cx} (ok : OKc Γ cX4_readOne RX4 3 "readOne") (okr : OKr Γ cX4_readOne (some .int)) (a0 : Nat) (a1 : Nat) : SW Γ iI 0 [some (.ref a0), some (.ref a1), none, none, none] [] (P_X4_readOne a0 a1) := by
  unfold P_X4_readOne
  refine sw_aload_n (z := a1) (pc' := 1) ok dX4_readOne_0 rfl rfl ?_
  refine sw_aload_n (z := a0) (pc' := 2) ok dX4_readOne_1 rfl rfl ?_
  refine sw_getI (pc' := 5) ok (fr_X4_18.g) dX4_readOne_2 rfl (fun v1 => ?_)
  refine sw_cllV_I (st := []) (as := [.int v1]) (pc' := 8) ok (S_X5_get a1 v1) (by decide) lk_X4_39 rfl dX4_readOne_5 rfl (Nat.le_of_ble_eq_true rfl) rfl (fun v2 => ?_)
  refine sw_cll0_I (st := []) (as := [.int v2]) (pc' := 11) ok (S_X4_kindOf v2) (by decide) lk_X4_63 rfl dX4_readOne_8 rfl (Nat.le_of_ble_eq_true rfl) rfl (fun v3 => ?_)
  refine sw_istore_n (pc' := 12) (l' := [some (.ref a0), some (.ref a1), some (.int v3), none, none]) ok dX4_readOne_11 rfl (Nat.le_of_ble_eq_true rfl) rfl ?_
  refine sw_iload_n (z := v3) (pc' := 13) ok dX4_readOne_12 rfl rfl ?_
  refine sw_jn (fun k5 : PM Int32 => SW Γ iI 28 [some (.ref a0), none, none, none, none] [] (k5)) ?_ (fun k5 hk5 => ?_)
  · refine sw_aload_n (z := a0) (pc' := 29) ok dX4_readOne_28 rfl rfl ?_
    refine sw_getI (pc' := 32) ok (fr_X4_18.g) dX4_readOne_29 rfl (fun v4 => ?_)
    exact sw_ret ok okr dX4_readOne_32 trivial rfl
  refine sw_if_lt (tgt := 28) (pc' := 16) ok dX4_readOne_13 (by decide) rfl ?_ ?_
  · refine sw_fg (l' := [some (.ref a0), none, none, none, none]) [true, false, false, false, false] rfl ?_
    exact hk5
  refine sw_aload_n (z := a0) (pc' := 17) ok dX4_readOne_16 rfl rfl ?_
  refine sw_getR (pc' := 20) ok (fr_X4_12.g) dX4_readOne_17 rfl (fun v6 => ?_)
  refine sw_getI (pc' := 23) ok (fr_X4_49.g) dX4_readOne_20 rfl (fun v7 => ?_)
  refine sw_bipush (v := 6) (pc' := 25) ok dX4_readOne_23 rfl cc_bipush_6 ?_
  refine sw_icmp_lt (tgt := 33) (pc' := 28) ok dX4_readOne_25 (by decide) rfl ?_ ?_
  · refine sw_aload_n (z := a1) (pc' := 34) ok dX4_readOne_33 rfl rfl ?_
    refine sw_aload_n (z := a0) (pc' := 35) ok dX4_readOne_34 rfl rfl ?_
    refine sw_getI (pc' := 38) ok (fr_X4_18.g) dX4_readOne_35 rfl (fun v8 => ?_)
    refine sw_iconst (v := 1) (pc' := 39) ok dX4_readOne_38 rfl cc_iconst_1 ?_
    refine sw_iadd (pc' := 40) ok dX4_readOne_39 rfl ?_
    refine sw_cll0_I (st := []) (as := [.ref a1, .int (v8 + 1)]) (pc' := 43) ok (S_X4_figure a1 (v8 + 1)) (by decide) lk_X4_53 rfl dX4_readOne_40 rfl (Nat.le_of_ble_eq_true rfl) rfl (fun v9 => ?_)
    refine sw_istore_n (pc' := 44) (l' := [some (.ref a0), some (.ref a1), some (.int v3), some (.int v9), none]) ok dX4_readOne_43 rfl (Nat.le_of_ble_eq_true rfl) rfl ?_
    refine sw_iload_n (z := v9) (pc' := 45) ok dX4_readOne_44 rfl rfl ?_
    refine sw_if_ge (tgt := 55) (pc' := 48) ok dX4_readOne_45 (by decide) rfl ?_ ?_
    · refine sw_aload_n (z := a1) (pc' := 56) ok dX4_readOne_55 rfl rfl ?_
      refine sw_aload_n (z := a0) (pc' := 57) ok dX4_readOne_56 rfl rfl ?_
      refine sw_getI (pc' := 60) ok (fr_X4_18.g) dX4_readOne_57 rfl (fun v10 => ?_)
      refine sw_iconst (v := 2) (pc' := 61) ok dX4_readOne_60 rfl cc_iconst_2 ?_
      refine sw_iadd (pc' := 62) ok dX4_readOne_61 rfl ?_
      refine sw_cll0_I (st := []) (as := [.ref a1, .int (v10 + 2)]) (pc' := 65) ok (S_X4_figure a1 (v10 + 2)) (by decide) lk_X4_53 rfl dX4_readOne_62 rfl (Nat.le_of_ble_eq_true rfl) rfl (fun v11 => ?_)
      refine sw_istore (pc' := 67) (l' := [some (.ref a0), some (.ref a1), some (.int v3), some (.int v9), some (.int v11)]) ok dX4_readOne_65 rfl (Nat.le_of_ble_eq_true rfl) rfl ?_
      refine sw_iload (z := v11) (pc' := 69) ok dX4_readOne_67 rfl rfl ?_
      refine sw_if_ge (tgt := 79) (pc' := 72) ok dX4_readOne_69 (by decide) rfl ?_ ?_
      · refine sw_aload_n (z := a0) (pc' := 80) ok dX4_readOne_79 rfl rfl ?_
        refine sw_getR (pc' := 83) ok (fr_X4_12.g) dX4_readOne_80 rfl (fun v12 => ?_)
        refine sw_iload_n (z := v3) (pc' := 84) ok dX4_readOne_83 rfl rfl ?_
        refine sw_iload_n (z := v9) (pc' := 85) ok dX4_readOne_84 rfl rfl ?_
        refine sw_iload (z := v11) (pc' := 87) ok dX4_readOne_85 rfl rfl ?_
        refine sw_cllV_U (st := []) (as := [.int v3, .int v9, .int v11]) (pc' := 90) ok (S_X0_add v12 v3 v9 v11) (by decide) lk_X4_66 rfl dX4_readOne_87 rfl (Nat.le_of_ble_eq_true rfl) rfl (fun _ => ?_)
        refine sw_aload_n (z := a0) (pc' := 91) ok dX4_readOne_90 rfl rfl ?_
        refine sw_dup (pc' := 92) ok dX4_readOne_91 rfl rfl ?_
        refine sw_getI (pc' := 95) ok (fr_X4_18.g) dX4_readOne_92 rfl (fun v13 => ?_)
        refine sw_iconst (v := 3) (pc' := 96) ok dX4_readOne_95 rfl cc_iconst_3 ?_
        refine sw_iadd (pc' := 97) ok dX4_readOne_96 rfl ?_
        refine sw_setI (pc' := 100) ok fr_X4_18 dX4_readOne_97 (fun h => by cases h) rfl ?_
        refine sw_bipush (v := (-9)) (pc' := 102) ok dX4_readOne_100 rfl cc_bipush_m9 ?_
        exact sw_ret ok okr dX4_readOne_102 trivial rfl
      refine sw_aload_n (z := a0) (pc' := 73) ok dX4_readOne_72 rfl rfl ?_
      refine sw_getI (pc' := 76) ok (fr_X4_18.g) dX4_readOne_73 rfl (fun v14 => ?_)
      refine sw_iconst (v := 2) (pc' := 77) ok dX4_readOne_76 rfl cc_iconst_2 ?_
      refine sw_iadd (pc' := 78) ok dX4_readOne_77 rfl ?_
      exact sw_ret ok okr dX4_readOne_78 trivial rfl
    refine sw_aload_n (z := a0) (pc' := 49) ok dX4_readOne_48 rfl rfl ?_
    refine sw_getI (pc' := 52) ok (fr_X4_18.g) dX4_readOne_49 rfl (fun v15 => ?_)
    refine sw_iconst (v := 1) (pc' := 53) ok dX4_readOne_52 rfl cc_iconst_1 ?_
    refine sw_iadd (pc' := 54) ok dX4_readOne_53 rfl ?_
    exact sw_ret ok okr dX4_readOne_54 trivial rfl
  refine sw_fg (l' := [some (.ref a0), none, none, none, none]) [true, false, false, false, false] rfl ?_
  exact hk5
theorem S_X4_readOne (a0 : Nat) (a1 : Nat) : Sim 3 yX4_readOne cX4_readOne 5 (some .int) iI [.ref a0, .ref a1] (P_X4_readOne a0 a1) := Sim.intro wd_969 (by decide) (by decide +kernel) (Nat.le_of_ble_eq_true rfl) (fun Γ ok okr => W_X4_readOne ok okr a0 a1)
theorem dX4_readQuarrel_0 : decode cX4_readQuarrel 0 = .ok (.aload_n 1, 1) := by decide +kernel
theorem dX4_readQuarrel_1 : decode cX4_readQuarrel 1 = .ok (.aload_n 0, 1) := by decide +kernel
theorem dX4_readQuarrel_2 : decode cX4_readQuarrel 2 = .ok (.getfield 18, 3) := by decide +kernel
theorem dX4_readQuarrel_5 : decode cX4_readQuarrel 5 = .ok (.iconst 1, 1) := by decide +kernel
theorem dX4_readQuarrel_6 : decode cX4_readQuarrel 6 = .ok (.iadd, 1) := by decide +kernel
theorem dX4_readQuarrel_7 : decode cX4_readQuarrel 7 = .ok (.invokestatic 53, 3) := by decide +kernel
theorem dX4_readQuarrel_10 : decode cX4_readQuarrel 10 = .ok (.istore_n 2, 1) := by decide +kernel
theorem dX4_readQuarrel_11 : decode cX4_readQuarrel 11 = .ok (.aload_n 0, 1) := by decide +kernel
theorem dX4_readQuarrel_12 : decode cX4_readQuarrel 12 = .ok (.getfield 12, 3) := by decide +kernel
theorem dX4_readQuarrel_15 : decode cX4_readQuarrel 15 = .ok (.iload_n 2, 1) := by decide +kernel
theorem dX4_readQuarrel_16 : decode cX4_readQuarrel 16 = .ok (.invokevirtual 70, 3) := by decide +kernel
theorem dX4_readQuarrel_19 : decode cX4_readQuarrel 19 = .ok (.ifCond .ne 10, 3) := by decide +kernel
theorem dX4_readQuarrel_22 : decode cX4_readQuarrel 22 = .ok (.aload_n 0, 1) := by decide +kernel
theorem dX4_readQuarrel_23 : decode cX4_readQuarrel 23 = .ok (.getfield 18, 3) := by decide +kernel
theorem dX4_readQuarrel_26 : decode cX4_readQuarrel 26 = .ok (.iconst 1, 1) := by decide +kernel
theorem dX4_readQuarrel_27 : decode cX4_readQuarrel 27 = .ok (.iadd, 1) := by decide +kernel
theorem dX4_readQuarrel_28 : decode cX4_readQuarrel 28 = .ok (.ireturn, 1) := by decide +kernel
theorem dX4_readQuarrel_29 : decode cX4_readQuarrel 29 = .ok (.aload_n 1, 1) := by decide +kernel
theorem dX4_readQuarrel_30 : decode cX4_readQuarrel 30 = .ok (.aload_n 0, 1) := by decide +kernel
theorem dX4_readQuarrel_31 : decode cX4_readQuarrel 31 = .ok (.getfield 18, 3) := by decide +kernel
theorem dX4_readQuarrel_34 : decode cX4_readQuarrel 34 = .ok (.iconst 2, 1) := by decide +kernel
theorem dX4_readQuarrel_35 : decode cX4_readQuarrel 35 = .ok (.iadd, 1) := by decide +kernel
theorem dX4_readQuarrel_36 : decode cX4_readQuarrel 36 = .ok (.invokestatic 53, 3) := by decide +kernel
theorem dX4_readQuarrel_39 : decode cX4_readQuarrel 39 = .ok (.istore_n 3, 1) := by decide +kernel
theorem dX4_readQuarrel_40 : decode cX4_readQuarrel 40 = .ok (.aload_n 0, 1) := by decide +kernel
theorem dX4_readQuarrel_41 : decode cX4_readQuarrel 41 = .ok (.getfield 12, 3) := by decide +kernel
theorem dX4_readQuarrel_44 : decode cX4_readQuarrel 44 = .ok (.iload_n 2, 1) := by decide +kernel
theorem dX4_readQuarrel_45 : decode cX4_readQuarrel 45 = .ok (.iload_n 3, 1) := by decide +kernel
theorem dX4_readQuarrel_46 : decode cX4_readQuarrel 46 = .ok (.invokevirtual 73, 3) := by decide +kernel
theorem dX4_readQuarrel_49 : decode cX4_readQuarrel 49 = .ok (.ifCond .ne 10, 3) := by decide +kernel
theorem dX4_readQuarrel_52 : decode cX4_readQuarrel 52 = .ok (.aload_n 0, 1) := by decide +kernel
theorem dX4_readQuarrel_53 : decode cX4_readQuarrel 53 = .ok (.getfield 18, 3) := by decide +kernel
theorem dX4_readQuarrel_56 : decode cX4_readQuarrel 56 = .ok (.iconst 2, 1) := by decide +kernel
theorem dX4_readQuarrel_57 : decode cX4_readQuarrel 57 = .ok (.iadd, 1) := by decide +kernel
theorem dX4_readQuarrel_58 : decode cX4_readQuarrel 58 = .ok (.ireturn, 1) := by decide +kernel
theorem dX4_readQuarrel_59 : decode cX4_readQuarrel 59 = .ok (.aload_n 0, 1) := by decide +kernel
theorem dX4_readQuarrel_60 : decode cX4_readQuarrel 60 = .ok (.getfield 12, 3) := by decide +kernel
theorem dX4_readQuarrel_63 : decode cX4_readQuarrel 63 = .ok (.iload_n 2, 1) := by decide +kernel
theorem dX4_readQuarrel_64 : decode cX4_readQuarrel 64 = .ok (.iload_n 3, 1) := by decide +kernel
theorem dX4_readQuarrel_65 : decode cX4_readQuarrel 65 = .ok (.invokevirtual 77, 3) := by decide +kernel
theorem dX4_readQuarrel_68 : decode cX4_readQuarrel 68 = .ok (.aload_n 0, 1) := by decide +kernel
theorem dX4_readQuarrel_69 : decode cX4_readQuarrel 69 = .ok (.dup, 1) := by decide +kernel
theorem dX4_readQuarrel_70 : decode cX4_readQuarrel 70 = .ok (.getfield 18, 3) := by decide +kernel
theorem dX4_readQuarrel_73 : decode cX4_readQuarrel 73 = .ok (.iconst 3, 1) := by decide +kernel
theorem dX4_readQuarrel_74 : decode cX4_readQuarrel 74 = .ok (.iadd, 1) := by decide +kernel
theorem dX4_readQuarrel_75 : decode cX4_readQuarrel 75 = .ok (.putfield 18, 3) := by decide +kernel
theorem dX4_readQuarrel_78 : decode cX4_readQuarrel 78 = .ok (.bipush (-9), 2) := by decide +kernel
theorem dX4_readQuarrel_80 : decode cX4_readQuarrel 80 = .ok (.ireturn, 1) := by decide +kernel
def P_X4_readQuarrel (a0 : Nat) (a1 : Nat) : PM Int32 :=
getI 4 1 a0 fun v1 =>
cll0 (P_X4_figure a1 (v1 + 1)) fun v2 =>
getR 4 0 a0 fun v3 =>
cllV 0 v3 (P_X0_has v3 v2) fun v4 =>
ifB (decide (¬ v4 = 0)) (
getI 4 1 a0 fun v5 =>
cll0 (P_X4_figure a1 (v5 + 2)) fun v6 =>
getR 4 0 a0 fun v7 =>
cllV 0 v7 (P_X0_isPair v7 v2 v6) fun v8 =>
ifB (decide (¬ v8 = 0)) (
getR 4 0 a0 fun v9 =>
cllV 0 v9 (P_X0_letQuarrel v9 v2 v6) fun _ =>
getI 4 1 a0 fun v10 =>
setI 4 1 a0 (v10 + 3) <|
pureM ((-9))) (
getI 4 1 a0 fun v11 =>
pureM (v11 + 2))) (
getI 4 1 a0 fun v12 =>
pureM (v12 + 1))
set_option maxHeartbeats 4000000 in
set_option maxRecDepth 100000 in
theorem W_X4_readQuarrel {Γ : Cx} (ok : OKc Γ cX4_readQuarrel RX4 3 "readQuarrel") (okr : OKr Γ cX4_readQuarrel (some .int)) (a0 : Nat) (a1 : Nat) : SW Γ iI 0 [some (.ref a0), some (.ref a1), none, none] [] (P_X4_readQuarrel a0 a1) := by
  unfold P_X4_readQuarrel
  refine sw_aload_n (z := a1) (pc' := 1) ok dX4_readQuarrel_0 rfl rfl ?_
  refine sw_aload_n (z := a0) (pc' := 2) ok dX4_readQuarrel_1 rfl rfl ?_
  refine sw_getI (pc' := 5) ok (fr_X4_18.g) dX4_readQuarrel_2 rfl (fun v1 => ?_)
  refine sw_iconst (v := 1) (pc' := 6) ok dX4_readQuarrel_5 rfl cc_iconst_1 ?_
  refine sw_iadd (pc' := 7) ok dX4_readQuarrel_6 rfl ?_
  refine sw_cll0_I (st := []) (as := [.ref a1, .int (v1 + 1)]) (pc' := 10) ok (S_X4_figure a1 (v1 + 1)) (by decide) lk_X4_53 rfl dX4_readQuarrel_7 rfl (Nat.le_of_ble_eq_true rfl) rfl (fun v2 => ?_)
  refine sw_istore_n (pc' := 11) (l' := [some (.ref a0), some (.ref a1), some (.int v2), none]) ok dX4_readQuarrel_10 rfl (Nat.le_of_ble_eq_true rfl) rfl ?_
  refine sw_aload_n (z := a0) (pc' := 12) ok dX4_readQuarrel_11 rfl rfl ?_
  refine sw_getR (pc' := 15) ok (fr_X4_12.g) dX4_readQuarrel_12 rfl (fun v3 => ?_)
  refine sw_iload_n (z := v2) (pc' := 16) ok dX4_readQuarrel_15 rfl rfl ?_
  refine sw_cllV_I (st := []) (as := [.int v2]) (pc' := 19) ok (S_X0_has v3 v2) (by decide) lk_X4_70 rfl dX4_readQuarrel_16 rfl (Nat.le_of_ble_eq_true rfl) rfl (fun v4 => ?_)
  refine sw_if_ne (tgt := 29) (pc' := 22) ok dX4_readQuarrel_19 (by decide) rfl ?_ ?_
  · refine sw_aload_n (z := a1) (pc' := 30) ok dX4_readQuarrel_29 rfl rfl ?_
    refine sw_aload_n (z := a0) (pc' := 31) ok dX4_readQuarrel_30 rfl rfl ?_
    refine sw_getI (pc' := 34) ok (fr_X4_18.g) dX4_readQuarrel_31 rfl (fun v5 => ?_)
    refine sw_iconst (v := 2) (pc' := 35) ok dX4_readQuarrel_34 rfl cc_iconst_2 ?_
    refine sw_iadd (pc' := 36) ok dX4_readQuarrel_35 rfl ?_
    refine sw_cll0_I (st := []) (as := [.ref a1, .int (v5 + 2)]) (pc' := 39) ok (S_X4_figure a1 (v5 + 2)) (by decide) lk_X4_53 rfl dX4_readQuarrel_36 rfl (Nat.le_of_ble_eq_true rfl) rfl (fun v6 => ?_)
    refine sw_istore_n (pc' := 40) (l' := [some (.ref a0), some (.ref a1), some (.int v2), some (.int v6)]) ok dX4_readQuarrel_39 rfl (Nat.le_of_ble_eq_true rfl) rfl ?_
    refine sw_aload_n (z := a0) (pc' := 41) ok dX4_readQuarrel_40 rfl rfl ?_
    refine sw_getR (pc' := 44) ok (fr_X4_12.g) dX4_readQuarrel_41 rfl (fun v7 => ?_)
    refine sw_iload_n (z := v2) (pc' := 45) ok dX4_readQuarrel_44 rfl rfl ?_
    refine sw_iload_n (z := v6) (pc' := 46) ok dX4_readQuarrel_45 rfl rfl ?_
    refine sw_cllV_I (st := []) (as := [.int v2, .int v6]) (pc' := 49) ok (S_X0_isPair v7 v2 v6) (by decide) lk_X4_73 rfl dX4_readQuarrel_46 rfl (Nat.le_of_ble_eq_true rfl) rfl (fun v8 => ?_)
    refine sw_if_ne (tgt := 59) (pc' := 52) ok dX4_readQuarrel_49 (by decide) rfl ?_ ?_
    · refine sw_aload_n (z := a0) (pc' := 60) ok dX4_readQuarrel_59 rfl rfl ?_
      refine sw_getR (pc' := 63) ok (fr_X4_12.g) dX4_readQuarrel_60 rfl (fun v9 => ?_)
      refine sw_iload_n (z := v2) (pc' := 64) ok dX4_readQuarrel_63 rfl rfl ?_
      refine sw_iload_n (z := v6) (pc' := 65) ok dX4_readQuarrel_64 rfl rfl ?_
      refine sw_cllV_U (st := []) (as := [.int v2, .int v6]) (pc' := 68) ok (S_X0_letQuarrel v9 v2 v6) (by decide) lk_X4_77 rfl dX4_readQuarrel_65 rfl (Nat.le_of_ble_eq_true rfl) rfl (fun _ => ?_)
      refine sw_aload_n (z := a0) (pc' := 69) ok dX4_readQuarrel_68 rfl rfl ?_
      refine sw_dup (pc' := 70) ok dX4_readQuarrel_69 rfl rfl ?_
      refine sw_getI (pc' := 73) ok (fr_X4_18.g) dX4_readQuarrel_70 rfl (fun v10 => ?_)
      refine sw_iconst (v := 3) (pc' := 74) ok dX4_readQuarrel_73 rfl cc_iconst_3 ?_
      refine sw_iadd (pc' := 75) ok dX4_readQuarrel_74 rfl ?_
      refine sw_setI (pc' := 78) ok fr_X4_18 dX4_readQuarrel_75 (fun h => by cases h) rfl ?_
      refine sw_bipush (v := (-9)) (pc' := 80) ok dX4_readQuarrel_78 rfl cc_bipush_m9 ?_
      exact sw_ret ok okr dX4_readQuarrel_80 trivial rfl
    refine sw_aload_n (z := a0) (pc' := 53) ok dX4_readQuarrel_52 rfl rfl ?_
    refine sw_getI (pc' := 56) ok (fr_X4_18.g) dX4_readQuarrel_53 rfl (fun v11 => ?_)
    refine sw_iconst (v := 2) (pc' := 57) ok dX4_readQuarrel_56 rfl cc_iconst_2 ?_
    refine sw_iadd (pc' := 58) ok dX4_readQuarrel_57 rfl ?_
    exact sw_ret ok okr dX4_readQuarrel_58 trivial rfl
  refine sw_aload_n (z := a0) (pc' := 23) ok dX4_readQuarrel_22 rfl rfl ?_
  refine sw_getI (pc' := 26) ok (fr_X4_18.g) dX4_readQuarrel_23 rfl (fun v12 => ?_)
  refine sw_iconst (v := 1) (pc' := 27) ok dX4_readQuarrel_26 rfl cc_iconst_1 ?_
  refine sw_iadd (pc' := 28) ok dX4_readQuarrel_27 rfl ?_
  exact sw_ret ok okr dX4_readQuarrel_28 trivial rfl
theorem S_X4_readQuarrel (a0 : Nat) (a1 : Nat) : Sim 3 yX4_readQuarrel cX4_readQuarrel 4 (some .int) iI [.ref a0, .ref a1] (P_X4_readQuarrel a0 a1) := Sim.intro wd_970 (by decide) (by decide +kernel) (Nat.le_of_ble_eq_true rfl) (fun Γ ok okr => W_X4_readQuarrel ok okr a0 a1)
theorem dX4_skipBlanks_0 : decode cX4_skipBlanks 0 = .ok (.aload_n 0, 1) := by decide +kernel
theorem dX4_skipBlanks_1 : decode cX4_skipBlanks 1 = .ok (.getfield 18, 3) := by decide +kernel
theorem dX4_skipBlanks_4 : decode cX4_skipBlanks 4 = .ok (.aload_n 1, 1) := by decide +kernel
theorem dX4_skipBlanks_5 : decode cX4_skipBlanks 5 = .ok (.getfield 52, 3) := by decide +kernel
theorem dX4_skipBlanks_8 : decode cX4_skipBlanks 8 = .ok (.if_icmp .ge 29, 3) := by decide +kernel
theorem dX4_skipBlanks_11 : decode cX4_skipBlanks 11 = .ok (.aload_n 1, 1) := by decide +kernel
theorem dX4_skipBlanks_12 : decode cX4_skipBlanks 12 = .ok (.aload_n 0, 1) := by decide +kernel
theorem dX4_skipBlanks_13 : decode cX4_skipBlanks 13 = .ok (.getfield 18, 3) := by decide +kernel
theorem dX4_skipBlanks_16 : decode cX4_skipBlanks 16 = .ok (.invokevirtual 39, 3) := by decide +kernel
theorem dX4_skipBlanks_19 : decode cX4_skipBlanks 19 = .ok (.bipush 32, 2) := by decide +kernel
theorem dX4_skipBlanks_21 : decode cX4_skipBlanks 21 = .ok (.if_icmp .ne 16, 3) := by decide +kernel
theorem dX4_skipBlanks_24 : decode cX4_skipBlanks 24 = .ok (.aload_n 0, 1) := by decide +kernel
theorem dX4_skipBlanks_25 : decode cX4_skipBlanks 25 = .ok (.dup, 1) := by decide +kernel
theorem dX4_skipBlanks_26 : decode cX4_skipBlanks 26 = .ok (.getfield 18, 3) := by decide +kernel
theorem dX4_skipBlanks_29 : decode cX4_skipBlanks 29 = .ok (.iconst 1, 1) := by decide +kernel
theorem dX4_skipBlanks_30 : decode cX4_skipBlanks 30 = .ok (.iadd, 1) := by decide +kernel
theorem dX4_skipBlanks_31 : decode cX4_skipBlanks 31 = .ok (.putfield 18, 3) := by decide +kernel
theorem dX4_skipBlanks_34 : decode cX4_skipBlanks 34 = .ok (.goto (-34), 3) := by decide +kernel
theorem dX4_skipBlanks_37 : decode cX4_skipBlanks 37 = .ok (.return_, 1) := by decide +kernel
def P_X4_skipBlanks_0 (p0 : Nat) (p1 : Nat) : Nat → PM Unit
  | 0 => failM
  | n + 1 =>
    getI 4 1 p0 fun v1 =>
    getI 5 2 p1 fun v2 =>
    ifB (decide (v2 ≤ v1)) (
    pureM ()) (
    getI 4 1 p0 fun v3 =>
    cllV 5 p1 (P_X5_get p1 v3) fun v4 =>
    ifB (decide (¬ v4 = 32)) (
    pureM ()) (
    getI 4 1 p0 fun v5 =>
    setI 4 1 p0 (v5 + 1) <|
    P_X4_skipBlanks_0 p0 p1 n))
def P_X4_skipBlanks (a0 : Nat) (a1 : Nat) : PM Unit :=
P_X4_skipBlanks_0 a0 a1 4000
set_option maxHeartbeats 4000000 in
set_option maxRecDepth 100000 in
theorem W_X4_skipBlanks_0 {Γ : Cx} (ok : OKc Γ cX4_skipBlanks RX4 2 "skipBlanks") (okr : OKr Γ cX4_skipBlanks (none)) (p0 : Nat) (p1 : Nat) : ∀ (n : Nat), SW Γ iU 0 [some (.ref p0), some (.ref p1)] [] (P_X4_skipBlanks_0 p0 p1 n) := by
  intro n
  induction n with
  | zero =>
    intros
    exact sw_fail
  | succ n ih =>
    unfold P_X4_skipBlanks_0
    refine sw_aload_n (z := p0) (pc' := 1) ok dX4_skipBlanks_0 rfl rfl ?_
    refine sw_getI (pc' := 4) ok (fr_X4_18.g) dX4_skipBlanks_1 rfl (fun v1 => ?_)
    refine sw_aload_n (z := p1) (pc' := 5) ok dX4_skipBlanks_4 rfl rfl ?_
    refine sw_getI (pc' := 8) ok (fr_X4_52.g) dX4_skipBlanks_5 rfl (fun v2 => ?_)
    refine sw_icmp_ge (tgt := 37) (pc' := 11) ok dX4_skipBlanks_8 (by decide) rfl ?_ ?_
    · exact sw_ret ok okr dX4_skipBlanks_37 trivial rfl
    refine sw_aload_n (z := p1) (pc' := 12) ok dX4_skipBlanks_11 rfl rfl ?_
    refine sw_aload_n (z := p0) (pc' := 13) ok dX4_skipBlanks_12 rfl rfl ?_
    refine sw_getI (pc' := 16) ok (fr_X4_18.g) dX4_skipBlanks_13 rfl (fun v3 => ?_)
    refine sw_cllV_I (st := []) (as := [.int v3]) (pc' := 19) ok (S_X5_get p1 v3) (by decide) lk_X4_39 rfl dX4_skipBlanks_16 rfl (Nat.le_of_ble_eq_true rfl) rfl (fun v4 => ?_)
    refine sw_bipush (v := 32) (pc' := 21) ok dX4_skipBlanks_19 rfl cc_bipush_32 ?_
    refine sw_icmp_ne (tgt := 37) (pc' := 24) ok dX4_skipBlanks_21 (by decide) rfl ?_ ?_
    · exact sw_ret ok okr dX4_skipBlanks_37 trivial rfl
    refine sw_aload_n (z := p0) (pc' := 25) ok dX4_skipBlanks_24 rfl rfl ?_
    refine sw_dup (pc' := 26) ok dX4_skipBlanks_25 rfl rfl ?_
    refine sw_getI (pc' := 29) ok (fr_X4_18.g) dX4_skipBlanks_26 rfl (fun v5 => ?_)
    refine sw_iconst (v := 1) (pc' := 30) ok dX4_skipBlanks_29 rfl cc_iconst_1 ?_
    refine sw_iadd (pc' := 31) ok dX4_skipBlanks_30 rfl ?_
    refine sw_setI (pc' := 34) ok fr_X4_18 dX4_skipBlanks_31 (fun h => by cases h) rfl ?_
    refine sw_goto (tgt := 0) ok dX4_skipBlanks_34 (by decide) ?_
    exact ih
set_option maxHeartbeats 4000000 in
set_option maxRecDepth 100000 in
theorem W_X4_skipBlanks {Γ : Cx} (ok : OKc Γ cX4_skipBlanks RX4 2 "skipBlanks") (okr : OKr Γ cX4_skipBlanks (none)) (a0 : Nat) (a1 : Nat) : SW Γ iU 0 [some (.ref a0), some (.ref a1)] [] (P_X4_skipBlanks a0 a1) := by
  unfold P_X4_skipBlanks
  exact W_X4_skipBlanks_0 ok okr a0 a1 4000
theorem S_X4_skipBlanks (a0 : Nat) (a1 : Nat) : Sim 2 yX4_skipBlanks cX4_skipBlanks 2 (none) iU [.ref a0, .ref a1] (P_X4_skipBlanks a0 a1) := Sim.intro wd_971 (by decide) (by decide +kernel) (Nat.le_of_ble_eq_true rfl) (fun Γ ok okr => W_X4_skipBlanks ok okr a0 a1)
theorem dX4_read_0 : decode cX4_read 0 = .ok (.aload_n 0, 1) := by decide +kernel
theorem dX4_read_1 : decode cX4_read 1 = .ok (.getfield 12, 3) := by decide +kernel
theorem dX4_read_4 : decode cX4_read 4 = .ok (.invokevirtual 22, 3) := by decide +kernel
theorem dX4_read_7 : decode cX4_read 7 = .ok (.aload_n 0, 1) := by decide +kernel
theorem dX4_read_8 : decode cX4_read 8 = .ok (.iconst 0, 1) := by decide +kernel
theorem dX4_read_9 : decode cX4_read 9 = .ok (.putfield 18, 3) := by decide +kernel
theorem dX4_read_12 : decode cX4_read 12 = .ok (.aload_n 0, 1) := by decide +kernel
theorem dX4_read_13 : decode cX4_read 13 = .ok (.aload_n 1, 1) := by decide +kernel
theorem dX4_read_14 : decode cX4_read 14 = .ok (.invokevirtual 25, 3) := by decide +kernel
theorem dX4_read_17 : decode cX4_read 17 = .ok (.aload_n 0, 1) := by decide +kernel
theorem dX4_read_18 : decode cX4_read 18 = .ok (.aload_n 1, 1) := by decide +kernel
theorem dX4_read_19 : decode cX4_read 19 = .ok (.invokevirtual 29, 3) := by decide +kernel
theorem dX4_read_22 : decode cX4_read 22 = .ok (.istore_n 2, 1) := by decide +kernel
theorem dX4_read_23 : decode cX4_read 23 = .ok (.iconst 0, 1) := by decide +kernel
theorem dX4_read_24 : decode cX4_read 24 = .ok (.istore_n 3, 1) := by decide +kernel
theorem dX4_read_25 : decode cX4_read 25 = .ok (.iload_n 3, 1) := by decide +kernel
theorem dX4_read_26 : decode cX4_read 26 = .ok (.bipush 60, 2) := by decide +kernel
theorem dX4_read_28 : decode cX4_read 28 = .ok (.if_icmp .ge 61, 3) := by decide +kernel
theorem dX4_read_31 : decode cX4_read 31 = .ok (.iload_n 2, 1) := by decide +kernel
theorem dX4_read_32 : decode cX4_read 32 = .ok (.bipush (-9), 2) := by decide +kernel
theorem dX4_read_34 : decode cX4_read 34 = .ok (.if_icmp .ne 55, 3) := by decide +kernel
theorem dX4_read_37 : decode cX4_read 37 = .ok (.aload_n 0, 1) := by decide +kernel
theorem dX4_read_38 : decode cX4_read 38 = .ok (.aload_n 1, 1) := by decide +kernel
theorem dX4_read_39 : decode cX4_read 39 = .ok (.invokevirtual 25, 3) := by decide +kernel
theorem dX4_read_42 : decode cX4_read 42 = .ok (.aload_n 1, 1) := by decide +kernel
theorem dX4_read_43 : decode cX4_read 43 = .ok (.aload_n 0, 1) := by decide +kernel
theorem dX4_read_44 : decode cX4_read 44 = .ok (.getfield 18, 3) := by decide +kernel
theorem dX4_read_47 : decode cX4_read 47 = .ok (.invokevirtual 33, 3) := by decide +kernel
theorem dX4_read_50 : decode cX4_read 50 = .ok (.ifCond .ne 6, 3) := by decide +kernel
theorem dX4_read_53 : decode cX4_read 53 = .ok (.goto 36, 3) := by decide +kernel
theorem dX4_read_56 : decode cX4_read 56 = .ok (.aload_n 1, 1) := by decide +kernel
theorem dX4_read_57 : decode cX4_read 57 = .ok (.aload_n 0, 1) := by decide +kernel
theorem dX4_read_58 : decode cX4_read 58 = .ok (.getfield 18, 3) := by decide +kernel
theorem dX4_read_61 : decode cX4_read 61 = .ok (.invokevirtual 39, 3) := by decide +kernel
theorem dX4_read_64 : decode cX4_read 64 = .ok (.bipush 113, 2) := by decide +kernel
theorem dX4_read_66 : decode cX4_read 66 = .ok (.if_icmp .ne 11, 3) := by decide +kernel
theorem dX4_read_69 : decode cX4_read 69 = .ok (.aload_n 0, 1) := by decide +kernel
theorem dX4_read_70 : decode cX4_read 70 = .ok (.aload_n 1, 1) := by decide +kernel
theorem dX4_read_71 : decode cX4_read 71 = .ok (.invokevirtual 43, 3) := by decide +kernel
theorem dX4_read_74 : decode cX4_read 74 = .ok (.goto 8, 3) := by decide +kernel
theorem dX4_read_77 : decode cX4_read 77 = .ok (.aload_n 0, 1) := by decide +kernel
theorem dX4_read_78 : decode cX4_read 78 = .ok (.aload_n 1, 1) := by decide +kernel
theorem dX4_read_79 : decode cX4_read 79 = .ok (.invokevirtual 46, 3) := by decide +kernel
theorem dX4_read_82 : decode cX4_read 82 = .ok (.istore_n 2, 1) := by decide +kernel
theorem dX4_read_83 : decode cX4_read 83 = .ok (.iinc 3 1, 3) := by decide +kernel
theorem dX4_read_86 : decode cX4_read 86 = .ok (.goto (-61), 3) := by decide +kernel
theorem dX4_read_89 : decode cX4_read 89 = .ok (.iload_n 2, 1) := by decide +kernel
theorem dX4_read_90 : decode cX4_read 90 = .ok (.bipush (-9), 2) := by decide +kernel
theorem dX4_read_92 : decode cX4_read 92 = .ok (.if_icmp .ne 21, 3) := by decide +kernel
theorem dX4_read_95 : decode cX4_read 95 = .ok (.aload_n 0, 1) := by decide +kernel
theorem dX4_read_96 : decode cX4_read 96 = .ok (.getfield 12, 3) := by decide +kernel
theorem dX4_read_99 : decode cX4_read 99 = .ok (.getfield 49, 3) := by decide +kernel
theorem dX4_read_102 : decode cX4_read 102 = .ok (.iconst 2, 1) := by decide +kernel
theorem dX4_read_103 : decode cX4_read 103 = .ok (.if_icmp .ge 10, 3) := by decide +kernel
theorem dX4_read_106 : decode cX4_read 106 = .ok (.aload_n 1, 1) := by decide +kernel
theorem dX4_read_107 : decode cX4_read 107 = .ok (.getfield 52, 3) := by decide +kernel
theorem dX4_read_110 : decode cX4_read 110 = .ok (.goto 4, 3) := by decide +kernel
theorem dX4_read_113 : decode cX4_read 113 = .ok (.iload_n 2, 1) := by decide +kernel
theorem dX4_read_114 : decode cX4_read 114 = .ok (.ireturn, 1) := by decide +kernel
def P_X4_read_25 (k_89 : Int32 → PM Int32) (k_53 : Int32 → PM Int32) (p0 : Nat) (p1 : Nat) : Nat → Int32 → Int32 → PM Int32
  | 0, _, _ => failM
  | n + 1, q2, q3 =>
    ifB (decide (60 ≤ q3)) (
    k_89 q2) (
    ifB (decide (¬ q2 = ((-9)))) (
    k_89 q2) (
    cllV 4 p0 (P_X4_skipBlanks p0 p1) fun _ =>
    getI 4 1 p0 fun v11 =>
    cllV 5 p1 (P_X5_holds p1 v11) fun v12 =>
    ifB (decide (¬ v12 = 0)) (
    getI 4 1 p0 fun v13 =>
    cllV 5 p1 (P_X5_get p1 v13) fun v14 =>
    jn (fun (j15 : Int32) =>
    P_X4_read_25 k_89 k_53 p0 p1 n j15 (q3 + 1)) fun k16 =>
    ifB (decide (¬ v14 = 113)) (
    cllV 4 p0 (P_X4_readOne p0 p1) fun v17 =>
    k16 v17) (
    cllV 4 p0 (P_X4_readQuarrel p0 p1) fun v18 =>
    k16 v18)) (
    k_53 q2)))
def P_X4_read (a0 : Nat) (a1 : Nat) : PM Int32 :=
getR 4 0 a0 fun v1 =>
cllV 0 v1 (P_X0_clear v1) fun _ =>
setI 4 1 a0 0 <|
cllV 4 a0 (P_X4_skipBlanks a0 a1) fun _ =>
cllV 4 a0 (P_X4_readHead a0 a1) fun v2 =>
jn (fun (e3 : Int32) =>
jn (
pureM e3) fun k4 =>
ifB (decide (¬ e3 = ((-9)))) (
k4) (
getR 4 0 a0 fun v5 =>
getI 0 4 v5 fun v6 =>
ifB (decide (2 ≤ v6)) (
k4) (
getI 5 2 a1 fun v7 =>
pureM v7))) fun k8 =>
jn (fun (e9 : Int32) =>
k8 e9) fun k10 =>
P_X4_read_25 k8 k10 a0 a1 4000 v2 0
set_option maxHeartbeats 4000000 in
set_option maxRecDepth 100000 in
theorem W_X4_read_25 {Γ : Cx} (ok : OKc Γ cX4_read RX4 4 "read") (okr : OKr Γ cX4_read (some .int)) (k_89 : Int32 → PM Int32) (k_53 : Int32 → PM Int32) (p0 : Nat) (p1 : Nat) (hk_89 : ∀ (y2 : Int32), SW Γ iI 89 [some (.ref p0), some (.ref p1), some (.int y2), none] [] (k_89 y2)) (hk_53 : ∀ (y2 : Int32), SW Γ iI 53 [some (.ref p0), some (.ref p1), some (.int y2), none] [] (k_53 y2)) : ∀ (n : Nat) (q2 : Int32) (q3 : Int32), SW Γ iI 25 [some (.ref p0), some (.ref p1), some (.int q2), some (.int q3)] [] (P_X4_read_25 k_89 k_53 p0 p1 n q2 q3) := by
  intro n
  induction n with
  | zero =>
    intros
    exact sw_fail
  | succ n ih =>
    intro q2 q3
    unfold P_X4_read_25
    refine sw_iload_n (z := q3) (pc' := 26) ok dX4_read_25 rfl rfl ?_
    refine sw_bipush (v := 60) (pc' := 28) ok dX4_read_26 rfl cc_bipush_60 ?_
    refine sw_icmp_ge (tgt := 89) (pc' := 31) ok dX4_read_28 (by decide) rfl ?_ ?_
    · refine sw_fg (l' := [some (.ref p0), some (.ref p1), some (.int q2), none]) [true, true, true, false] rfl ?_
      exact hk_89 q2
    refine sw_iload_n (z := q2) (pc' := 32) ok dX4_read_31 rfl rfl ?_
    refine sw_bipush (v := (-9)) (pc' := 34) ok dX4_read_32 rfl cc_bipush_m9 ?_
    refine sw_icmp_ne (tgt := 89) (pc' := 37) ok dX4_read_34 (by decide) rfl ?_ ?_
    · refine sw_fg (l' := [some (.ref p0), some (.ref p1), some (.int q2), none]) [true, true, true, false] rfl ?_
      exact hk_89 q2
    refine sw_aload_n (z := p0) (pc' := 38) ok dX4_read_37 rfl rfl ?_
    refine sw_aload_n (z := p1) (pc' := 39) ok dX4_read_38 rfl rfl ?_
    refine sw_cllV_U (st := []) (as := [.ref p1]) (pc' := 42) ok (S_X4_skipBlanks p0 p1) (by decide) lk_X4_25 rfl dX4_read_39 rfl (Nat.le_of_ble_eq_true rfl) rfl (fun _ => ?_)
    refine sw_aload_n (z := p1) (pc' := 43) ok dX4_read_42 rfl rfl ?_
    refine sw_aload_n (z := p0) (pc' := 44) ok dX4_read_43 rfl rfl ?_
    refine sw_getI (pc' := 47) ok (fr_X4_18.g) dX4_read_44 rfl (fun v11 => ?_)
    refine sw_cllV_I (st := []) (as := [.int v11]) (pc' := 50) ok (S_X5_holds p1 v11) (by decide) lk_X4_33 rfl dX4_read_47 rfl (Nat.le_of_ble_eq_true rfl) rfl (fun v12 => ?_)
    refine sw_if_ne (tgt := 56) (pc' := 53) ok dX4_read_50 (by decide) rfl ?_ ?_
    · refine sw_aload_n (z := p1) (pc' := 57) ok dX4_read_56 rfl rfl ?_
      refine sw_aload_n (z := p0) (pc' := 58) ok dX4_read_57 rfl rfl ?_
      refine sw_getI (pc' := 61) ok (fr_X4_18.g) dX4_read_58 rfl (fun v13 => ?_)
      refine sw_cllV_I (st := []) (as := [.int v13]) (pc' := 64) ok (S_X5_get p1 v13) (by decide) lk_X4_39 rfl dX4_read_61 rfl (Nat.le_of_ble_eq_true rfl) rfl (fun v14 => ?_)
      refine sw_bipush (v := 113) (pc' := 66) ok dX4_read_64 rfl cc_bipush_113 ?_
      refine sw_jn (fun k16 : Int32 → PM Int32 => ∀ (j15 : Int32), SW Γ iI 82 [some (.ref p0), some (.ref p1), none, some (.int q3)] [.int j15] (k16 j15)) ?_ (fun k16 hk16 => ?_)
      · intro j15
        refine sw_istore_n (pc' := 83) (l' := [some (.ref p0), some (.ref p1), some (.int j15), some (.int q3)]) ok dX4_read_82 rfl (Nat.le_of_ble_eq_true rfl) rfl ?_
        refine sw_iinc (z := q3) (v := q3 + 1) (pc' := 86) (l' := [some (.ref p0), some (.ref p1), some (.int j15), some (.int (q3 + 1))]) ok dX4_read_83 rfl rfl (by rw [cc_iconst_1]) rfl ?_
        refine sw_goto (tgt := 25) ok dX4_read_86 (by decide) ?_
        exact ih j15 (q3 + 1)
      refine sw_icmp_ne (tgt := 77) (pc' := 69) ok dX4_read_66 (by decide) rfl ?_ ?_
      · refine sw_aload_n (z := p0) (pc' := 78) ok dX4_read_77 rfl rfl ?_
        refine sw_aload_n (z := p1) (pc' := 79) ok dX4_read_78 rfl rfl ?_
        refine sw_cllV_I (st := []) (as := [.ref p1]) (pc' := 82) ok (S_X4_readOne p0 p1) (by decide) lk_X4_46 rfl dX4_read_79 rfl (Nat.le_of_ble_eq_true rfl) rfl (fun v17 => ?_)
        refine sw_fg (l' := [some (.ref p0), some (.ref p1), none, some (.int q3)]) [true, true, false, true] rfl ?_
        exact hk16 v17
      refine sw_aload_n (z := p0) (pc' := 70) ok dX4_read_69 rfl rfl ?_
      refine sw_aload_n (z := p1) (pc' := 71) ok dX4_read_70 rfl rfl ?_
      refine sw_cllV_I (st := []) (as := [.ref p1]) (pc' := 74) ok (S_X4_readQuarrel p0 p1) (by decide) lk_X4_43 rfl dX4_read_71 rfl (Nat.le_of_ble_eq_true rfl) rfl (fun v18 => ?_)
      refine sw_goto (tgt := 82) ok dX4_read_74 (by decide) ?_
      refine sw_fg (l' := [some (.ref p0), some (.ref p1), none, some (.int q3)]) [true, true, false, true] rfl ?_
      exact hk16 v18
    refine sw_fg (l' := [some (.ref p0), some (.ref p1), some (.int q2), none]) [true, true, true, false] rfl ?_
    exact hk_53 q2
set_option maxHeartbeats 4000000 in
set_option maxRecDepth 100000 in
theorem W_X4_read {Γ : Cx} (ok : OKc Γ cX4_read RX4 4 "read") (okr : OKr Γ cX4_read (some .int)) (a0 : Nat) (a1 : Nat) : SW Γ iI 0 [some (.ref a0), some (.ref a1), none, none] [] (P_X4_read a0 a1) := by
  unfold P_X4_read
  refine sw_aload_n (z := a0) (pc' := 1) ok dX4_read_0 rfl rfl ?_
  refine sw_getR (pc' := 4) ok (fr_X4_12.g) dX4_read_1 rfl (fun v1 => ?_)
  refine sw_cllV_U (st := []) (as := []) (pc' := 7) ok (S_X0_clear v1) (by decide) lk_X4_22 rfl dX4_read_4 rfl (Nat.le_of_ble_eq_true rfl) rfl (fun _ => ?_)
  refine sw_aload_n (z := a0) (pc' := 8) ok dX4_read_7 rfl rfl ?_
  refine sw_iconst (v := 0) (pc' := 9) ok dX4_read_8 rfl cc_iconst_0 ?_
  refine sw_setI (pc' := 12) ok fr_X4_18 dX4_read_9 (fun h => by cases h) rfl ?_
  refine sw_aload_n (z := a0) (pc' := 13) ok dX4_read_12 rfl rfl ?_
  refine sw_aload_n (z := a1) (pc' := 14) ok dX4_read_13 rfl rfl ?_
  refine sw_cllV_U (st := []) (as := [.ref a1]) (pc' := 17) ok (S_X4_skipBlanks a0 a1) (by decide) lk_X4_25 rfl dX4_read_14 rfl (Nat.le_of_ble_eq_true rfl) rfl (fun _ => ?_)
  refine sw_aload_n (z := a0) (pc' := 18) ok dX4_read_17 rfl rfl ?_
  refine sw_aload_n (z := a1) (pc' := 19) ok dX4_read_18 rfl rfl ?_
  refine sw_cllV_I (st := []) (as := [.ref a1]) (pc' := 22) ok (S_X4_readHead a0 a1) (by decide) lk_X4_29 rfl dX4_read_19 rfl (Nat.le_of_ble_eq_true rfl) rfl (fun v2 => ?_)
  refine sw_istore_n (pc' := 23) (l' := [some (.ref a0), some (.ref a1), some (.int v2), none]) ok dX4_read_22 rfl (Nat.le_of_ble_eq_true rfl) rfl ?_
  refine sw_iconst (v := 0) (pc' := 24) ok dX4_read_23 rfl cc_iconst_0 ?_
  refine sw_istore_n (pc' := 25) (l' := [some (.ref a0), some (.ref a1), some (.int v2), some (.int 0)]) ok dX4_read_24 rfl (Nat.le_of_ble_eq_true rfl) rfl ?_
  refine sw_jn (fun k8 : Int32 → PM Int32 => ∀ (e3 : Int32), SW Γ iI 89 [some (.ref a0), some (.ref a1), some (.int e3), none] [] (k8 e3)) ?_ (fun k8 hk8 => ?_)
  · intro e3
    refine sw_iload_n (z := e3) (pc' := 90) ok dX4_read_89 rfl rfl ?_
    refine sw_bipush (v := (-9)) (pc' := 92) ok dX4_read_90 rfl cc_bipush_m9 ?_
    refine sw_jn (fun k4 : PM Int32 => SW Γ iI 113 [none, none, some (.int e3), none] [] (k4)) ?_ (fun k4 hk4 => ?_)
    · refine sw_iload_n (z := e3) (pc' := 114) ok dX4_read_113 rfl rfl ?_
      exact sw_ret ok okr dX4_read_114 trivial rfl
    refine sw_icmp_ne (tgt := 113) (pc' := 95) ok dX4_read_92 (by decide) rfl ?_ ?_
    · refine sw_fg (l' := [none, none, some (.int e3), none]) [false, false, true, false] rfl ?_
      exact hk4
    refine sw_aload_n (z := a0) (pc' := 96) ok dX4_read_95 rfl rfl ?_
    refine sw_getR (pc' := 99) ok (fr_X4_12.g) dX4_read_96 rfl (fun v5 => ?_)
    refine sw_getI (pc' := 102) ok (fr_X4_49.g) dX4_read_99 rfl (fun v6 => ?_)
    refine sw_iconst (v := 2) (pc' := 103) ok dX4_read_102 rfl cc_iconst_2 ?_
    refine sw_icmp_ge (tgt := 113) (pc' := 106) ok dX4_read_103 (by decide) rfl ?_ ?_
    · refine sw_fg (l' := [none, none, some (.int e3), none]) [false, false, true, false] rfl ?_
      exact hk4
    refine sw_aload_n (z := a1) (pc' := 107) ok dX4_read_106 rfl rfl ?_
    refine sw_getI (pc' := 110) ok (fr_X4_52.g) dX4_read_107 rfl (fun v7 => ?_)
    refine sw_goto (tgt := 114) ok dX4_read_110 (by decide) ?_
    exact sw_ret ok okr dX4_read_114 trivial rfl
  refine sw_jn (fun k10 : Int32 → PM Int32 => ∀ (e9 : Int32), SW Γ iI 53 [some (.ref a0), some (.ref a1), some (.int e9), none] [] (k10 e9)) ?_ (fun k10 hk10 => ?_)
  · intro e9
    refine sw_goto (tgt := 89) ok dX4_read_53 (by decide) ?_
    exact hk8 e9
  exact W_X4_read_25 ok okr k8 k10 a0 a1 hk8 hk10 4000 v2 0
theorem S_X4_read (a0 : Nat) (a1 : Nat) : Sim 4 yX4_read cX4_read 4 (some .int) iI [.ref a0, .ref a1] (P_X4_read a0 a1) := Sim.intro wd_972 (by decide) (by decide +kernel) (Nat.le_of_ble_eq_true rfl) (fun Γ ok okr => W_X4_read ok okr a0 a1)
theorem dX5_init_0 : decode cX5_init 0 = .ok (.aload_n 0, 1) := by decide +kernel
theorem dX5_init_1 : decode cX5_init 1 = .ok (.invokespecial 1, 3) := by decide +kernel
theorem dX5_init_4 : decode cX5_init 4 = .ok (.aload_n 0, 1) := by decide +kernel
theorem dX5_init_5 : decode cX5_init 5 = .ok (.iconst 0, 1) := by decide +kernel
theorem dX5_init_6 : decode cX5_init 6 = .ok (.putfield 7, 3) := by decide +kernel
theorem dX5_init_9 : decode cX5_init 9 = .ok (.aload_n 0, 1) := by decide +kernel
theorem dX5_init_10 : decode cX5_init 10 = .ok (.iconst 0, 1) := by decide +kernel
theorem dX5_init_11 : decode cX5_init 11 = .ok (.putfield 13, 3) := by decide +kernel
theorem dX5_init_14 : decode cX5_init 14 = .ok (.aload_n 0, 1) := by decide +kernel
theorem dX5_init_15 : decode cX5_init 15 = .ok (.iconst 0, 1) := by decide +kernel
theorem dX5_init_16 : decode cX5_init 16 = .ok (.iload_n 1, 1) := by decide +kernel
theorem dX5_init_17 : decode cX5_init 17 = .ok (.invokestatic 17, 3) := by decide +kernel
theorem dX5_init_20 : decode cX5_init 20 = .ok (.newarray .int, 2) := by decide +kernel
theorem dX5_init_22 : decode cX5_init 22 = .ok (.putfield 23, 3) := by decide +kernel
theorem dX5_init_25 : decode cX5_init 25 = .ok (.aload_n 0, 1) := by decide +kernel
theorem dX5_init_26 : decode cX5_init 26 = .ok (.iload_n 2, 1) := by decide +kernel
theorem dX5_init_27 : decode cX5_init 27 = .ok (.putfield 27, 3) := by decide +kernel
theorem dX5_init_30 : decode cX5_init 30 = .ok (.return_, 1) := by decide +kernel
def P_X5_init (a0 : Nat) (x1 : Int32) (x2 : Int32) : PM Unit :=
setI 5 2 a0 0 <|
setZ 5 3 a0 0 <|
cll0 (P_J9_max_7cf53 0 x1) fun v1 =>
newA v1 fun o2 =>
setR 5 0 a0 o2 <|
setI 5 1 a0 x2 <|
pureM ()
set_option maxHeartbeats 4000000 in
set_option maxRecDepth 100000 in
theorem W_X5_init {Γ : Cx} (ok : OKc Γ cX5_init RX5 1 "<init>") (okr : OKr Γ cX5_init (none)) (a0 : Nat) (x1 : Int32) (x2 : Int32) : SW Γ iU 0 [some (.ref a0), some (.int x1), some (.int x2)] [] (P_X5_init a0 x1 x2) := by
  unfold P_X5_init
  refine sw_aload_n (z := a0) (pc' := 1) ok dX5_init_0 rfl rfl ?_
  refine sw_obj (pc' := 4) ok wd_167 wd_1 wd_2 (by decide) dX5_init_1 rfl (Nat.le_of_ble_eq_true rfl) ?_
  refine sw_aload_n (z := a0) (pc' := 5) ok dX5_init_4 rfl rfl ?_
  refine sw_iconst (v := 0) (pc' := 6) ok dX5_init_5 rfl cc_iconst_0 ?_
  refine sw_setI (pc' := 9) ok fr_X5_7 dX5_init_6 (fun h => by cases h) rfl ?_
  refine sw_aload_n (z := a0) (pc' := 10) ok dX5_init_9 rfl rfl ?_
  refine sw_iconst (v := 0) (pc' := 11) ok dX5_init_10 rfl cc_iconst_0 ?_
  refine sw_setZ (pc' := 14) ok fr_X5_13 dX5_init_11 (fun h => by cases h) rfl ?_
  refine sw_aload_n (z := a0) (pc' := 15) ok dX5_init_14 rfl rfl ?_
  refine sw_iconst (v := 0) (pc' := 16) ok dX5_init_15 rfl cc_iconst_0 ?_
  refine sw_iload_n (z := x1) (pc' := 17) ok dX5_init_16 rfl rfl ?_
  refine sw_cll0_I (st := [.ref a0]) (as := [.int 0, .int x1]) (pc' := 20) ok (S_J9_max_7cf53 0 x1) (by decide) lk_X5_17 rfl dX5_init_17 rfl (Nat.le_of_ble_eq_true rfl) rfl (fun v1 => ?_)
  refine sw_newA (pc' := 22) ok wd_3 dX5_init_20 rfl (fun o2 => ?_)
  refine sw_setR (pc' := 25) ok fr_X5_23 (fun _ => ⟨rfl, rfl⟩) dX5_init_22 (fun _ => rfl) rfl ?_
  refine sw_aload_n (z := a0) (pc' := 26) ok dX5_init_25 rfl rfl ?_
  refine sw_iload_n (z := x2) (pc' := 27) ok dX5_init_26 rfl rfl ?_
  refine sw_setI (pc' := 30) ok fr_X5_27 dX5_init_27 (fun _ => rfl) rfl ?_
  exact sw_ret ok okr dX5_init_30 trivial rfl
theorem S_X5_init (a0 : Nat) (x1 : Int32) (x2 : Int32) : Sim 1 yX5_init cX5_init 3 (none) iU [.ref a0, .int x1, .int x2] (P_X5_init a0 x1 x2) := Sim.intro wd_973 (by decide) (by decide +kernel) (Nat.le_of_ble_eq_true rfl) (fun Γ ok okr => W_X5_init ok okr a0 x1 x2)
theorem dX5_begin_0 : decode cX5_begin 0 = .ok (.aload_n 0, 1) := by decide +kernel
theorem dX5_begin_1 : decode cX5_begin 1 = .ok (.iconst 1, 1) := by decide +kernel
theorem dX5_begin_2 : decode cX5_begin 2 = .ok (.putfield 13, 3) := by decide +kernel
theorem dX5_begin_5 : decode cX5_begin 5 = .ok (.aload_n 0, 1) := by decide +kernel
theorem dX5_begin_6 : decode cX5_begin 6 = .ok (.iconst 0, 1) := by decide +kernel
theorem dX5_begin_7 : decode cX5_begin 7 = .ok (.iload_n 1, 1) := by decide +kernel
theorem dX5_begin_8 : decode cX5_begin 8 = .ok (.aload_n 0, 1) := by decide +kernel
theorem dX5_begin_9 : decode cX5_begin 9 = .ok (.getfield 23, 3) := by decide +kernel
theorem dX5_begin_12 : decode cX5_begin 12 = .ok (.arraylength, 1) := by decide +kernel
theorem dX5_begin_13 : decode cX5_begin 13 = .ok (.invokestatic 30, 3) := by decide +kernel
theorem dX5_begin_16 : decode cX5_begin 16 = .ok (.invokestatic 17, 3) := by decide +kernel
theorem dX5_begin_19 : decode cX5_begin 19 = .ok (.putfield 7, 3) := by decide +kernel
theorem dX5_begin_22 : decode cX5_begin 22 = .ok (.aload_n 0, 1) := by decide +kernel
theorem dX5_begin_23 : decode cX5_begin 23 = .ok (.getfield 23, 3) := by decide +kernel
theorem dX5_begin_26 : decode cX5_begin 26 = .ok (.aload_n 0, 1) := by decide +kernel
theorem dX5_begin_27 : decode cX5_begin 27 = .ok (.getfield 27, 3) := by decide +kernel
theorem dX5_begin_30 : decode cX5_begin 30 = .ok (.invokestatic 33, 3) := by decide +kernel
theorem dX5_begin_33 : decode cX5_begin 33 = .ok (.return_, 1) := by decide +kernel
def P_X5_begin (a0 : Nat) (x1 : Int32) : PM Unit :=
setZ 5 3 a0 1 <|
getR 5 0 a0 fun v1 =>
alen v1 fun v2 =>
cll0 (P_J9_min_7cf53 x1 v2) fun v3 =>
cll0 (P_J9_max_7cf53 0 v3) fun v4 =>
setI 5 2 a0 v4 <|
getR 5 0 a0 fun v5 =>
getI 5 1 a0 fun v6 =>
cll0 (P_J7_fill_53178 v5 v6) fun _ =>
pureM ()
set_option maxHeartbeats 4000000 in
set_option maxRecDepth 100000 in
theorem W_X5_begin {Γ : Cx} (ok : OKc Γ cX5_begin RX5 1 "begin") (okr : OKr Γ cX5_begin (none)) (a0 : Nat) (x1 : Int32) : SW Γ iU 0 [some (.ref a0), some (.int x1)] [] (P_X5_begin a0 x1) := by
  unfold P_X5_begin
  refine sw_aload_n (z := a0) (pc' := 1) ok dX5_begin_0 rfl rfl ?_
  refine sw_iconst (v := 1) (pc' := 2) ok dX5_begin_1 rfl cc_iconst_1 ?_
  refine sw_setZ (pc' := 5) ok fr_X5_13 dX5_begin_2 (fun h => by cases h) rfl ?_
  refine sw_aload_n (z := a0) (pc' := 6) ok dX5_begin_5 rfl rfl ?_
  refine sw_iconst (v := 0) (pc' := 7) ok dX5_begin_6 rfl cc_iconst_0 ?_
  refine sw_iload_n (z := x1) (pc' := 8) ok dX5_begin_7 rfl rfl ?_
  refine sw_aload_n (z := a0) (pc' := 9) ok dX5_begin_8 rfl rfl ?_
  refine sw_getR (pc' := 12) ok (fr_X5_23.g) dX5_begin_9 rfl (fun v1 => ?_)
  refine sw_alen (pc' := 13) ok dX5_begin_12 rfl (fun v2 => ?_)
  refine sw_cll0_I (st := [.int 0, .ref a0]) (as := [.int x1, .int v2]) (pc' := 16) ok (S_J9_min_7cf53 x1 v2) (by decide) lk_X5_30 rfl dX5_begin_13 rfl (Nat.le_of_ble_eq_true rfl) rfl (fun v3 => ?_)
  refine sw_cll0_I (st := [.ref a0]) (as := [.int 0, .int v3]) (pc' := 19) ok (S_J9_max_7cf53 0 v3) (by decide) lk_X5_17 rfl dX5_begin_16 rfl (Nat.le_of_ble_eq_true rfl) rfl (fun v4 => ?_)
  refine sw_setI (pc' := 22) ok fr_X5_7 dX5_begin_19 (fun h => by cases h) rfl ?_
  refine sw_aload_n (z := a0) (pc' := 23) ok dX5_begin_22 rfl rfl ?_
  refine sw_getR (pc' := 26) ok (fr_X5_23.g) dX5_begin_23 rfl (fun v5 => ?_)
  refine sw_aload_n (z := a0) (pc' := 27) ok dX5_begin_26 rfl rfl ?_
  refine sw_getI (pc' := 30) ok (fr_X5_27.g) dX5_begin_27 rfl (fun v6 => ?_)
  refine sw_cll0_U (st := []) (as := [.ref v5, .int v6]) (pc' := 33) ok (S_J7_fill_53178 v5 v6) (by decide) lk_X5_33 rfl dX5_begin_30 rfl (Nat.le_of_ble_eq_true rfl) rfl (fun _ => ?_)
  exact sw_ret ok okr dX5_begin_33 trivial rfl
theorem S_X5_begin (a0 : Nat) (x1 : Int32) : Sim 1 yX5_begin cX5_begin 2 (none) iU [.ref a0, .int x1] (P_X5_begin a0 x1) := Sim.intro wd_974 (by decide) (by decide +kernel) (Nat.le_of_ble_eq_true rfl) (fun Γ ok okr => W_X5_begin ok okr a0 x1)
theorem dX5_holdsSpan_0 : decode cX5_holdsSpan 0 = .ok (.iload_n 1, 1) := by decide +kernel
theorem dX5_holdsSpan_1 : decode cX5_holdsSpan 1 = .ok (.ifCond .lt 29, 3) := by decide +kernel
theorem dX5_holdsSpan_4 : decode cX5_holdsSpan 4 = .ok (.iload_n 1, 1) := by decide +kernel
theorem dX5_holdsSpan_5 : decode cX5_holdsSpan 5 = .ok (.aload_n 0, 1) := by decide +kernel
theorem dX5_holdsSpan_6 : decode cX5_holdsSpan 6 = .ok (.getfield 7, 3) := by decide +kernel
theorem dX5_holdsSpan_9 : decode cX5_holdsSpan 9 = .ok (.if_icmp .gt 21, 3) := by decide +kernel
theorem dX5_holdsSpan_12 : decode cX5_holdsSpan 12 = .ok (.iload_n 2, 1) := by decide +kernel
theorem dX5_holdsSpan_13 : decode cX5_holdsSpan 13 = .ok (.ifCond .lt 17, 3) := by decide +kernel
theorem dX5_holdsSpan_16 : decode cX5_holdsSpan 16 = .ok (.iload_n 2, 1) := by decide +kernel
theorem dX5_holdsSpan_17 : decode cX5_holdsSpan 17 = .ok (.aload_n 0, 1) := by decide +kernel
theorem dX5_holdsSpan_18 : decode cX5_holdsSpan 18 = .ok (.getfield 7, 3) := by decide +kernel
theorem dX5_holdsSpan_21 : decode cX5_holdsSpan 21 = .ok (.iload_n 1, 1) := by decide +kernel
theorem dX5_holdsSpan_22 : decode cX5_holdsSpan 22 = .ok (.isub, 1) := by decide +kernel
theorem dX5_holdsSpan_23 : decode cX5_holdsSpan 23 = .ok (.if_icmp .gt 7, 3) := by decide +kernel
theorem dX5_holdsSpan_26 : decode cX5_holdsSpan 26 = .ok (.iconst 1, 1) := by decide +kernel
theorem dX5_holdsSpan_27 : decode cX5_holdsSpan 27 = .ok (.goto 4, 3) := by decide +kernel
theorem dX5_holdsSpan_30 : decode cX5_holdsSpan 30 = .ok (.iconst 0, 1) := by decide +kernel
theorem dX5_holdsSpan_31 : decode cX5_holdsSpan 31 = .ok (.ireturn, 1) := by decide +kernel
def P_X5_holdsSpan (a0 : Nat) (x1 : Int32) (x2 : Int32) : PM Int32 :=
jn (
retZ 0) fun k1 =>
ifB (decide (x1 < 0)) (
k1) (
getI 5 2 a0 fun v2 =>
ifB (decide (v2 < x1)) (
k1) (
ifB (decide (x2 < 0)) (
k1) (
getI 5 2 a0 fun v3 =>
ifB (decide ((v3 - x1) < x2)) (
k1) (
retZ 1))))
set_option maxHeartbeats 4000000 in
set_option maxRecDepth 100000 in
theorem W_X5_holdsSpan {Γ : Cx} (ok : OKc Γ cX5_holdsSpan RX5 0 "holdsSpan") (okr : OKr Γ cX5_holdsSpan (some .boolean)) (a0 : Nat) (x1 : Int32) (x2 : Int32) : SW Γ iI 0 [some (.ref a0), some (.int x1), some (.int x2)] [] (P_X5_holdsSpan a0 x1 x2) := by
  unfold P_X5_holdsSpan
  refine sw_iload_n (z := x1) (pc' := 1) ok dX5_holdsSpan_0 rfl rfl ?_
  refine sw_jn (fun k1 : PM Int32 => SW Γ iI 30 [none, none, none] [] (k1)) ?_ (fun k1 hk1 => ?_)
  · refine sw_iconst (v := 0) (pc' := 31) ok dX5_holdsSpan_30 rfl cc_iconst_0 ?_
    exact sw_retZ ok okr dX5_holdsSpan_31
  refine sw_if_lt (tgt := 30) (pc' := 4) ok dX5_holdsSpan_1 (by decide) rfl ?_ ?_
  · refine sw_fg (l' := [none, none, none]) [false, false, false] rfl ?_
    exact hk1
  refine sw_iload_n (z := x1) (pc' := 5) ok dX5_holdsSpan_4 rfl rfl ?_
  refine sw_aload_n (z := a0) (pc' := 6) ok dX5_holdsSpan_5 rfl rfl ?_
  refine sw_getI (pc' := 9) ok (fr_X5_7.g) dX5_holdsSpan_6 rfl (fun v2 => ?_)
  refine sw_icmp_gt (tgt := 30) (pc' := 12) ok dX5_holdsSpan_9 (by decide) rfl ?_ ?_
  · refine sw_fg (l' := [none, none, none]) [false, false, false] rfl ?_
    exact hk1
  refine sw_iload_n (z := x2) (pc' := 13) ok dX5_holdsSpan_12 rfl rfl ?_
  refine sw_if_lt (tgt := 30) (pc' := 16) ok dX5_holdsSpan_13 (by decide) rfl ?_ ?_
  · refine sw_fg (l' := [none, none, none]) [false, false, false] rfl ?_
    exact hk1
  refine sw_iload_n (z := x2) (pc' := 17) ok dX5_holdsSpan_16 rfl rfl ?_
  refine sw_aload_n (z := a0) (pc' := 18) ok dX5_holdsSpan_17 rfl rfl ?_
  refine sw_getI (pc' := 21) ok (fr_X5_7.g) dX5_holdsSpan_18 rfl (fun v3 => ?_)
  refine sw_iload_n (z := x1) (pc' := 22) ok dX5_holdsSpan_21 rfl rfl ?_
  refine sw_isub (pc' := 23) ok dX5_holdsSpan_22 rfl ?_
  refine sw_icmp_gt (tgt := 30) (pc' := 26) ok dX5_holdsSpan_23 (by decide) rfl ?_ ?_
  · refine sw_fg (l' := [none, none, none]) [false, false, false] rfl ?_
    exact hk1
  refine sw_iconst (v := 1) (pc' := 27) ok dX5_holdsSpan_26 rfl cc_iconst_1 ?_
  refine sw_goto (tgt := 31) ok dX5_holdsSpan_27 (by decide) ?_
  exact sw_retZ ok okr dX5_holdsSpan_31
theorem S_X5_holdsSpan (a0 : Nat) (x1 : Int32) (x2 : Int32) : Sim 0 yX5_holdsSpan cX5_holdsSpan 3 (some .boolean) iI [.ref a0, .int x1, .int x2] (P_X5_holdsSpan a0 x1 x2) := Sim.intro wd_975 (by decide) (by decide +kernel) (Nat.le_of_ble_eq_true rfl) (fun Γ ok okr => W_X5_holdsSpan ok okr a0 x1 x2)
theorem dX5_isWithin_0 : decode cX5_isWithin 0 = .ok (.aload_n 0, 1) := by decide +kernel
theorem dX5_isWithin_1 : decode cX5_isWithin 1 = .ok (.iload_n 1, 1) := by decide +kernel
theorem dX5_isWithin_2 : decode cX5_isWithin 2 = .ok (.invokevirtual 39, 3) := by decide +kernel
theorem dX5_isWithin_5 : decode cX5_isWithin 5 = .ok (.ifCond .lt 16, 3) := by decide +kernel
theorem dX5_isWithin_8 : decode cX5_isWithin 8 = .ok (.aload_n 0, 1) := by decide +kernel
theorem dX5_isWithin_9 : decode cX5_isWithin 9 = .ok (.iload_n 1, 1) := by decide +kernel
theorem dX5_isWithin_10 : decode cX5_isWithin 10 = .ok (.invokevirtual 39, 3) := by decide +kernel
theorem dX5_isWithin_13 : decode cX5_isWithin 13 = .ok (.iload_n 2, 1) := by decide +kernel
theorem dX5_isWithin_14 : decode cX5_isWithin 14 = .ok (.if_icmp .gt 7, 3) := by decide +kernel
theorem dX5_isWithin_17 : decode cX5_isWithin 17 = .ok (.iconst 1, 1) := by decide +kernel
theorem dX5_isWithin_18 : decode cX5_isWithin 18 = .ok (.goto 4, 3) := by decide +kernel
theorem dX5_isWithin_21 : decode cX5_isWithin 21 = .ok (.iconst 0, 1) := by decide +kernel
theorem dX5_isWithin_22 : decode cX5_isWithin 22 = .ok (.ireturn, 1) := by decide +kernel
def P_X5_isWithin (a0 : Nat) (x1 : Int32) (x2 : Int32) : PM Int32 :=
cllV 5 a0 (P_X5_get a0 x1) fun v1 =>
jn (
retZ 0) fun k2 =>
ifB (decide (v1 < 0)) (
k2) (
cllV 5 a0 (P_X5_get a0 x1) fun v3 =>
ifB (decide (x2 < v3)) (
k2) (
retZ 1))
set_option maxHeartbeats 4000000 in
set_option maxRecDepth 100000 in
theorem W_X5_isWithin {Γ : Cx} (ok : OKc Γ cX5_isWithin RX5 2 "isWithin") (okr : OKr Γ cX5_isWithin (some .boolean)) (a0 : Nat) (x1 : Int32) (x2 : Int32) : SW Γ iI 0 [some (.ref a0), some (.int x1), some (.int x2)] [] (P_X5_isWithin a0 x1 x2) := by
  unfold P_X5_isWithin
  refine sw_aload_n (z := a0) (pc' := 1) ok dX5_isWithin_0 rfl rfl ?_
  refine sw_iload_n (z := x1) (pc' := 2) ok dX5_isWithin_1 rfl rfl ?_
  refine sw_cllV_I (st := []) (as := [.int x1]) (pc' := 5) ok (S_X5_get a0 x1) (by decide) lk_X5_39 rfl dX5_isWithin_2 rfl (Nat.le_of_ble_eq_true rfl) rfl (fun v1 => ?_)
  refine sw_jn (fun k2 : PM Int32 => SW Γ iI 21 [none, none, none] [] (k2)) ?_ (fun k2 hk2 => ?_)
  · refine sw_iconst (v := 0) (pc' := 22) ok dX5_isWithin_21 rfl cc_iconst_0 ?_
    exact sw_retZ ok okr dX5_isWithin_22
  refine sw_if_lt (tgt := 21) (pc' := 8) ok dX5_isWithin_5 (by decide) rfl ?_ ?_
  · refine sw_fg (l' := [none, none, none]) [false, false, false] rfl ?_
    exact hk2
  refine sw_aload_n (z := a0) (pc' := 9) ok dX5_isWithin_8 rfl rfl ?_
  refine sw_iload_n (z := x1) (pc' := 10) ok dX5_isWithin_9 rfl rfl ?_
  refine sw_cllV_I (st := []) (as := [.int x1]) (pc' := 13) ok (S_X5_get a0 x1) (by decide) lk_X5_39 rfl dX5_isWithin_10 rfl (Nat.le_of_ble_eq_true rfl) rfl (fun v3 => ?_)
  refine sw_iload_n (z := x2) (pc' := 14) ok dX5_isWithin_13 rfl rfl ?_
  refine sw_icmp_gt (tgt := 21) (pc' := 17) ok dX5_isWithin_14 (by decide) rfl ?_ ?_
  · refine sw_fg (l' := [none, none, none]) [false, false, false] rfl ?_
    exact hk2
  refine sw_iconst (v := 1) (pc' := 18) ok dX5_isWithin_17 rfl cc_iconst_1 ?_
  refine sw_goto (tgt := 22) ok dX5_isWithin_18 (by decide) ?_
  exact sw_retZ ok okr dX5_isWithin_22
theorem S_X5_isWithin (a0 : Nat) (x1 : Int32) (x2 : Int32) : Sim 2 yX5_isWithin cX5_isWithin 3 (some .boolean) iI [.ref a0, .int x1, .int x2] (P_X5_isWithin a0 x1 x2) := Sim.intro wd_976 (by decide) (by decide +kernel) (Nat.le_of_ble_eq_true rfl) (fun Γ ok okr => W_X5_isWithin ok okr a0 x1 x2)
theorem dX5_swap_0 : decode cX5_swap 0 = .ok (.aload_n 0, 1) := by decide +kernel
theorem dX5_swap_1 : decode cX5_swap 1 = .ok (.iload_n 1, 1) := by decide +kernel
theorem dX5_swap_2 : decode cX5_swap 2 = .ok (.invokevirtual 39, 3) := by decide +kernel
theorem dX5_swap_5 : decode cX5_swap 5 = .ok (.istore_n 3, 1) := by decide +kernel
theorem dX5_swap_6 : decode cX5_swap 6 = .ok (.aload_n 0, 1) := by decide +kernel
theorem dX5_swap_7 : decode cX5_swap 7 = .ok (.iload_n 1, 1) := by decide +kernel
theorem dX5_swap_8 : decode cX5_swap 8 = .ok (.invokevirtual 43, 3) := by decide +kernel
theorem dX5_swap_11 : decode cX5_swap 11 = .ok (.ifCond .eq 10, 3) := by decide +kernel
theorem dX5_swap_14 : decode cX5_swap 14 = .ok (.aload_n 0, 1) := by decide +kernel
theorem dX5_swap_15 : decode cX5_swap 15 = .ok (.getfield 23, 3) := by decide +kernel
theorem dX5_swap_18 : decode cX5_swap 18 = .ok (.iload_n 1, 1) := by decide +kernel
theorem dX5_swap_19 : decode cX5_swap 19 = .ok (.iload_n 2, 1) := by decide +kernel
theorem dX5_swap_20 : decode cX5_swap 20 = .ok (.iastore, 1) := by decide +kernel
theorem dX5_swap_21 : decode cX5_swap 21 = .ok (.iload_n 3, 1) := by decide +kernel
theorem dX5_swap_22 : decode cX5_swap 22 = .ok (.ireturn, 1) := by decide +kernel
def P_X5_swap (a0 : Nat) (x1 : Int32) (x2 : Int32) : PM Int32 :=
cllV 5 a0 (P_X5_get a0 x1) fun v1 =>
cllV 5 a0 (P_X5_holds a0 x1) fun v2 =>
ifB (decide (v2 = 0)) (
pureM v1) (
getR 5 0 a0 fun v3 =>
ast v3 x1 x2 <|
pureM v1)
set_option maxHeartbeats 4000000 in
set_option maxRecDepth 100000 in
theorem W_X5_swap {Γ : Cx} (ok : OKc Γ cX5_swap RX5 2 "swap") (okr : OKr Γ cX5_swap (some .int)) (a0 : Nat) (x1 : Int32) (x2 : Int32) : SW Γ iI 0 [some (.ref a0), some (.int x1), some (.int x2), none] [] (P_X5_swap a0 x1 x2) := by
  unfold P_X5_swap
  refine sw_aload_n (z := a0) (pc' := 1) ok dX5_swap_0 rfl rfl ?_
  refine sw_iload_n (z := x1) (pc' := 2) ok dX5_swap_1 rfl rfl ?_
  refine sw_cllV_I (st := []) (as := [.int x1]) (pc' := 5) ok (S_X5_get a0 x1) (by decide) lk_X5_39 rfl dX5_swap_2 rfl (Nat.le_of_ble_eq_true rfl) rfl (fun v1 => ?_)
  refine sw_istore_n (pc' := 6) (l' := [some (.ref a0), some (.int x1), some (.int x2), some (.int v1)]) ok dX5_swap_5 rfl (Nat.le_of_ble_eq_true rfl) rfl ?_
  refine sw_aload_n (z := a0) (pc' := 7) ok dX5_swap_6 rfl rfl ?_
  refine sw_iload_n (z := x1) (pc' := 8) ok dX5_swap_7 rfl rfl ?_
  refine sw_cllV_I (st := []) (as := [.int x1]) (pc' := 11) ok (S_X5_holds a0 x1) (by decide) lk_X5_43 rfl dX5_swap_8 rfl (Nat.le_of_ble_eq_true rfl) rfl (fun v2 => ?_)
  refine sw_if_eq (tgt := 21) (pc' := 14) ok dX5_swap_11 (by decide) rfl ?_ ?_
  · refine sw_iload_n (z := v1) (pc' := 22) ok dX5_swap_21 rfl rfl ?_
    exact sw_ret ok okr dX5_swap_22 trivial rfl
  refine sw_aload_n (z := a0) (pc' := 15) ok dX5_swap_14 rfl rfl ?_
  refine sw_getR (pc' := 18) ok (fr_X5_23.g) dX5_swap_15 rfl (fun v3 => ?_)
  refine sw_iload_n (z := x1) (pc' := 19) ok dX5_swap_18 rfl rfl ?_
  refine sw_iload_n (z := x2) (pc' := 20) ok dX5_swap_19 rfl rfl ?_
  refine sw_ast (pc' := 21) ok dX5_swap_20 rfl ?_
  refine sw_iload_n (z := v1) (pc' := 22) ok dX5_swap_21 rfl rfl ?_
  exact sw_ret ok okr dX5_swap_22 trivial rfl
theorem S_X5_swap (a0 : Nat) (x1 : Int32) (x2 : Int32) : Sim 2 yX5_swap cX5_swap 4 (some .int) iI [.ref a0, .int x1, .int x2] (P_X5_swap a0 x1 x2) := Sim.intro wd_977 (by decide) (by decide +kernel) (Nat.le_of_ble_eq_true rfl) (fun Γ ok okr => W_X5_swap ok okr a0 x1 x2)
theorem dX5_sum_0 : decode cX5_sum 0 = .ok (.lconst 0, 1) := by decide +kernel
theorem dX5_sum_1 : decode cX5_sum 1 = .ok (.lstore_n 1, 1) := by decide +kernel
theorem dX5_sum_2 : decode cX5_sum 2 = .ok (.iconst 0, 1) := by decide +kernel
theorem dX5_sum_3 : decode cX5_sum 3 = .ok (.istore_n 3, 1) := by decide +kernel
theorem dX5_sum_4 : decode cX5_sum 4 = .ok (.iload_n 3, 1) := by decide +kernel
theorem dX5_sum_5 : decode cX5_sum 5 = .ok (.aload_n 0, 1) := by decide +kernel
theorem dX5_sum_6 : decode cX5_sum 6 = .ok (.getfield 7, 3) := by decide +kernel
theorem dX5_sum_9 : decode cX5_sum 9 = .ok (.if_icmp .ge 19, 3) := by decide +kernel
theorem dX5_sum_12 : decode cX5_sum 12 = .ok (.lload_n 1, 1) := by decide +kernel
theorem dX5_sum_13 : decode cX5_sum 13 = .ok (.aload_n 0, 1) := by decide +kernel
theorem dX5_sum_14 : decode cX5_sum 14 = .ok (.getfield 23, 3) := by decide +kernel
theorem dX5_sum_17 : decode cX5_sum 17 = .ok (.iload_n 3, 1) := by decide +kernel
theorem dX5_sum_18 : decode cX5_sum 18 = .ok (.iaload, 1) := by decide +kernel
theorem dX5_sum_19 : decode cX5_sum 19 = .ok (.i2l, 1) := by decide +kernel
theorem dX5_sum_20 : decode cX5_sum 20 = .ok (.ladd, 1) := by decide +kernel
theorem dX5_sum_21 : decode cX5_sum 21 = .ok (.lstore_n 1, 1) := by decide +kernel
theorem dX5_sum_22 : decode cX5_sum 22 = .ok (.iinc 3 1, 3) := by decide +kernel
theorem dX5_sum_25 : decode cX5_sum 25 = .ok (.goto (-21), 3) := by decide +kernel
theorem dX5_sum_28 : decode cX5_sum 28 = .ok (.lload_n 1, 1) := by decide +kernel
theorem dX5_sum_29 : decode cX5_sum 29 = .ok (.lreturn, 1) := by decide +kernel
def P_X5_sum_4 (p0 : Nat) : Nat → Int64 → Int32 → PM Int64
  | 0, _, _ => failM
  | n + 1, q1, q3 =>
    getI 5 2 p0 fun v1 =>
    ifB (decide (v1 ≤ q3)) (
    pureM q1) (
    getR 5 0 p0 fun v2 =>
    ald v2 q3 fun v3 =>
    P_X5_sum_4 p0 n (q1 + (Int32.toInt64 v3)) (q3 + 1))
def P_X5_sum (a0 : Nat) : PM Int64 :=
P_X5_sum_4 a0 4000 0 0
set_option maxHeartbeats 4000000 in
set_option maxRecDepth 100000 in
theorem W_X5_sum_4 {Γ : Cx} (ok : OKc Γ cX5_sum RX5 0 "sum") (okr : OKr Γ cX5_sum (some .long)) (p0 : Nat) : ∀ (n : Nat) (q1 : Int64) (q3 : Int32), SW Γ iL 4 [some (.ref p0), some (.long q1), none, some (.int q3)] [] (P_X5_sum_4 p0 n q1 q3) := by
  intro n
  induction n with
  | zero =>
    intros
    exact sw_fail
  | succ n ih =>
    intro q1 q3
    unfold P_X5_sum_4
    refine sw_iload_n (z := q3) (pc' := 5) ok dX5_sum_4 rfl rfl ?_
    refine sw_aload_n (z := p0) (pc' := 6) ok dX5_sum_5 rfl rfl ?_
    refine sw_getI (pc' := 9) ok (fr_X5_7.g) dX5_sum_6 rfl (fun v1 => ?_)
    refine sw_icmp_ge (tgt := 28) (pc' := 12) ok dX5_sum_9 (by decide) rfl ?_ ?_
    · refine sw_lload_n (z := q1) (pc' := 29) ok dX5_sum_28 rfl rfl ?_
      exact sw_ret ok okr dX5_sum_29 trivial rfl
    refine sw_lload_n (z := q1) (pc' := 13) ok dX5_sum_12 rfl rfl ?_
    refine sw_aload_n (z := p0) (pc' := 14) ok dX5_sum_13 rfl rfl ?_
    refine sw_getR (pc' := 17) ok (fr_X5_23.g) dX5_sum_14 rfl (fun v2 => ?_)
    refine sw_iload_n (z := q3) (pc' := 18) ok dX5_sum_17 rfl rfl ?_
    refine sw_ald (pc' := 19) ok dX5_sum_18 rfl (fun v3 => ?_)
    refine sw_i2l (pc' := 20) ok dX5_sum_19 rfl ?_
    refine sw_ladd (pc' := 21) ok dX5_sum_20 rfl ?_
    refine sw_lstore_n (pc' := 22) (l' := [some (.ref p0), some (.long (q1 + (Int32.toInt64 v3))), none, some (.int q3)]) ok dX5_sum_21 rfl (Nat.le_of_ble_eq_true rfl) rfl ?_
    refine sw_iinc (z := q3) (v := q3 + 1) (pc' := 25) (l' := [some (.ref p0), some (.long (q1 + (Int32.toInt64 v3))), none, some (.int (q3 + 1))]) ok dX5_sum_22 rfl rfl (by rw [cc_iconst_1]) rfl ?_
    refine sw_goto (tgt := 4) ok dX5_sum_25 (by decide) ?_
    exact ih (q1 + (Int32.toInt64 v3)) (q3 + 1)
set_option maxHeartbeats 4000000 in
set_option maxRecDepth 100000 in
theorem W_X5_sum {Γ : Cx} (ok : OKc Γ cX5_sum RX5 0 "sum") (okr : OKr Γ cX5_sum (some .long)) (a0 : Nat) : SW Γ iL 0 [some (.ref a0), none, none, none] [] (P_X5_sum a0) := by
  unfold P_X5_sum
  refine sw_lconst (v := 0) (pc' := 1) ok dX5_sum_0 rfl cc_lconst_0 ?_
  refine sw_lstore_n (pc' := 2) (l' := [some (.ref a0), some (.long 0), none, none]) ok dX5_sum_1 rfl (Nat.le_of_ble_eq_true rfl) rfl ?_
  refine sw_iconst (v := 0) (pc' := 3) ok dX5_sum_2 rfl cc_iconst_0 ?_
  refine sw_istore_n (pc' := 4) (l' := [some (.ref a0), some (.long 0), none, some (.int 0)]) ok dX5_sum_3 rfl (Nat.le_of_ble_eq_true rfl) rfl ?_
  exact W_X5_sum_4 ok okr a0 4000 0 0
theorem S_X5_sum (a0 : Nat) : Sim 0 yX5_sum cX5_sum 4 (some .long) iL [.ref a0] (P_X5_sum a0) := Sim.intro wd_978 (by decide) (by decide +kernel) (Nat.le_of_ble_eq_true rfl) (fun Γ ok okr => W_X5_sum ok okr a0)
