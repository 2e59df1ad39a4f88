/-! Programs and walks, printed by program (gen.py). -/
theorem dX7_agrees_0 : decode cX7_agrees 0 = .ok (.iconst 0, 1) := by decide +kernel
theorem dX7_agrees_1 : decode cX7_agrees 1 = .ok (.istore 4, 2) := by decide +kernel
theorem dX7_agrees_3 : decode cX7_agrees 3 = .ok (.iload 4, 2) := by decide +kernel
theorem dX7_agrees_5 : decode cX7_agrees 5 = .ok (.aload_n 0, 1) := by decide +kernel
theorem dX7_agrees_6 : decode cX7_agrees 6 = .ok (.getfield 121, 3) := by decide +kernel
theorem dX7_agrees_9 : decode cX7_agrees 9 = .ok (.if_icmp .ge 46, 3) := by decide +kernel
theorem dX7_agrees_12 : decode cX7_agrees 12 = .ok (.iload_n 1, 1) := by decide +kernel
theorem dX7_agrees_13 : decode cX7_agrees 13 = .ok (.iload_n 2, 1) := by decide +kernel
theorem dX7_agrees_14 : decode cX7_agrees 14 = .ok (.iload_n 3, 1) := by decide +kernel
theorem dX7_agrees_15 : decode cX7_agrees 15 = .ok (.aload_n 0, 1) := by decide +kernel
theorem dX7_agrees_16 : decode cX7_agrees 16 = .ok (.iload 4, 2) := by decide +kernel
theorem dX7_agrees_18 : decode cX7_agrees 18 = .ok (.invokevirtual 101, 3) := by decide +kernel
theorem dX7_agrees_21 : decode cX7_agrees 21 = .ok (.aload_n 0, 1) := by decide +kernel
theorem dX7_agrees_22 : decode cX7_agrees 22 = .ok (.iload 4, 2) := by decide +kernel
theorem dX7_agrees_24 : decode cX7_agrees 24 = .ok (.iconst 1, 1) := by decide +kernel
theorem dX7_agrees_25 : decode cX7_agrees 25 = .ok (.iadd, 1) := by decide +kernel
theorem dX7_agrees_26 : decode cX7_agrees 26 = .ok (.invokevirtual 101, 3) := by decide +kernel
theorem dX7_agrees_29 : decode cX7_agrees 29 = .ok (.invokestatic 392, 3) := by decide +kernel
theorem dX7_agrees_32 : decode cX7_agrees 32 = .ok (.istore 5, 2) := by decide +kernel
theorem dX7_agrees_34 : decode cX7_agrees 34 = .ok (.iload 5, 2) := by decide +kernel
theorem dX7_agrees_36 : decode cX7_agrees 36 = .ok (.aload_n 0, 1) := by decide +kernel
theorem dX7_agrees_37 : decode cX7_agrees 37 = .ok (.iload 4, 2) := by decide +kernel
theorem dX7_agrees_39 : decode cX7_agrees 39 = .ok (.iconst 2, 1) := by decide +kernel
theorem dX7_agrees_40 : decode cX7_agrees 40 = .ok (.iadd, 1) := by decide +kernel
theorem dX7_agrees_41 : decode cX7_agrees 41 = .ok (.invokevirtual 101, 3) := by decide +kernel
theorem dX7_agrees_44 : decode cX7_agrees 44 = .ok (.if_icmp .eq 5, 3) := by decide +kernel
theorem dX7_agrees_47 : decode cX7_agrees 47 = .ok (.iconst 0, 1) := by decide +kernel
theorem dX7_agrees_48 : decode cX7_agrees 48 = .ok (.ireturn, 1) := by decide +kernel
theorem dX7_agrees_49 : decode cX7_agrees 49 = .ok (.iinc 4 3, 3) := by decide +kernel
theorem dX7_agrees_52 : decode cX7_agrees 52 = .ok (.goto (-49), 3) := by decide +kernel
theorem dX7_agrees_55 : decode cX7_agrees 55 = .ok (.iconst 1, 1) := by decide +kernel
theorem dX7_agrees_56 : decode cX7_agrees 56 = .ok (.ireturn, 1) := by decide +kernel
def P_X7_agrees_3 (p0 : Nat) (p1 : Int32) (p2 : Int32) (p3 : Int32) : Nat → Int32 → PM Int32
  | 0, _ => failM
  | n + 1, q4 =>
    getI 5 2 p0 fun v1 =>
    ifB (decide (v1 ≤ q4)) (
    retZ 1) (
    cllV 5 p0 (P_X5_get p0 q4) fun v2 =>
    cllV 5 p0 (P_X5_get p0 (q4 + 1)) fun v3 =>
    cll0 (P_X0_tells p1 p2 p3 v2 v3) fun v4 =>
    cllV 5 p0 (P_X5_get p0 (q4 + 2)) fun v5 =>
    ifB (decide (v4 = v5)) (
    P_X7_agrees_3 p0 p1 p2 p3 n (q4 + 3)) (
    retZ 0))
def P_X7_agrees (a0 : Nat) (x1 : Int32) (x2 : Int32) (x3 : Int32) : PM Int32 :=
P_X7_agrees_3 a0 x1 x2 x3 4000 0
set_option maxHeartbeats 4000000 in
set_option maxRecDepth 100000 in
theorem W_X7_agrees_3 {Γ : Cx} (ok : OKc Γ cX7_agrees RX7 2 "agrees") (okr : OKr Γ cX7_agrees (some .boolean)) (p0 : Nat) (p1 : Int32) (p2 : Int32) (p3 : Int32) : ∀ (n : Nat) (q4 : Int32), SW Γ iI 3 [some (.ref p0), some (.int p1), some (.int p2), some (.int p3), some (.int q4), none] [] (P_X7_agrees_3 p0 p1 p2 p3 n q4) := by
  intro n
  induction n with
  | zero =>
    intros
    exact sw_fail
  | succ n ih =>
    intro q4
    unfold P_X7_agrees_3
    refine sw_iload (z := q4) (pc' := 5) ok dX7_agrees_3 rfl rfl ?_
    refine sw_aload_n (z := p0) (pc' := 6) ok dX7_agrees_5 rfl rfl ?_
    refine sw_getI (pc' := 9) ok (fr_X7_121.g) dX7_agrees_6 rfl (fun v1 => ?_)
    refine sw_icmp_ge (tgt := 55) (pc' := 12) ok dX7_agrees_9 (by decide) rfl ?_ ?_
    · refine sw_iconst (v := 1) (pc' := 56) ok dX7_agrees_55 rfl cc_iconst_1 ?_
      exact sw_retZ ok okr dX7_agrees_56
    refine sw_iload_n (z := p1) (pc' := 13) ok dX7_agrees_12 rfl rfl ?_
    refine sw_iload_n (z := p2) (pc' := 14) ok dX7_agrees_13 rfl rfl ?_
    refine sw_iload_n (z := p3) (pc' := 15) ok dX7_agrees_14 rfl rfl ?_
    refine sw_aload_n (z := p0) (pc' := 16) ok dX7_agrees_15 rfl rfl ?_
    refine sw_iload (z := q4) (pc' := 18) ok dX7_agrees_16 rfl rfl ?_
    refine sw_cllV_I (st := [.int p3, .int p2, .int p1]) (as := [.int q4]) (pc' := 21) ok (S_X5_get p0 q4) (by decide) lk_X7_101 rfl dX7_agrees_18 rfl (Nat.le_of_ble_eq_true rfl) rfl (fun v2 => ?_)
    refine sw_aload_n (z := p0) (pc' := 22) ok dX7_agrees_21 rfl rfl ?_
    refine sw_iload (z := q4) (pc' := 24) ok dX7_agrees_22 rfl rfl ?_
    refine sw_iconst (v := 1) (pc' := 25) ok dX7_agrees_24 rfl cc_iconst_1 ?_
    refine sw_iadd (pc' := 26) ok dX7_agrees_25 rfl ?_
    refine sw_cllV_I (st := [.int v2, .int p3, .int p2, .int p1]) (as := [.int (q4 + 1)]) (pc' := 29) ok (S_X5_get p0 (q4 + 1)) (by decide) lk_X7_101 rfl dX7_agrees_26 rfl (Nat.le_of_ble_eq_true rfl) rfl (fun v3 => ?_)
    refine sw_cll0_I (st := []) (as := [.int p1, .int p2, .int p3, .int v2, .int v3]) (pc' := 32) ok (S_X0_tells p1 p2 p3 v2 v3) (by decide) lk_X7_392 rfl dX7_agrees_29 rfl (Nat.le_of_ble_eq_true rfl) rfl (fun v4 => ?_)
    refine sw_istore (pc' := 34) (l' := [some (.ref p0), some (.int p1), some (.int p2), some (.int p3), some (.int q4), some (.int v4)]) ok dX7_agrees_32 rfl (Nat.le_of_ble_eq_true rfl) rfl ?_
    refine sw_iload (z := v4) (pc' := 36) ok dX7_agrees_34 rfl rfl ?_
    refine sw_aload_n (z := p0) (pc' := 37) ok dX7_agrees_36 rfl rfl ?_
    refine sw_iload (z := q4) (pc' := 39) ok dX7_agrees_37 rfl rfl ?_
    refine sw_iconst (v := 2) (pc' := 40) ok dX7_agrees_39 rfl cc_iconst_2 ?_
    refine sw_iadd (pc' := 41) ok dX7_agrees_40 rfl ?_
    refine sw_cllV_I (st := [.int v4]) (as := [.int (q4 + 2)]) (pc' := 44) ok (S_X5_get p0 (q4 + 2)) (by decide) lk_X7_101 rfl dX7_agrees_41 rfl (Nat.le_of_ble_eq_true rfl) rfl (fun v5 => ?_)
    refine sw_icmp_eq (tgt := 49) (pc' := 47) ok dX7_agrees_44 (by decide) rfl ?_ ?_
    · refine sw_iinc (z := q4) (v := q4 + 3) (pc' := 52) (l' := [some (.ref p0), some (.int p1), some (.int p2), some (.int p3), some (.int (q4 + 3)), some (.int v4)]) ok dX7_agrees_49 rfl rfl (by rw [cc_iconst_3]) rfl ?_
      refine sw_goto (tgt := 3) ok dX7_agrees_52 (by decide) ?_
      refine sw_fg (l' := [some (.ref p0), some (.int p1), some (.int p2), some (.int p3), some (.int (q4 + 3)), none]) [true, true, true, true, true, false] rfl ?_
      exact ih (q4 + 3)
    refine sw_iconst (v := 0) (pc' := 48) ok dX7_agrees_47 rfl cc_iconst_0 ?_
    exact sw_retZ ok okr dX7_agrees_48
set_option maxHeartbeats 4000000 in
set_option maxRecDepth 100000 in
theorem W_X7_agrees {Γ : Cx} (ok : OKc Γ cX7_agrees RX7 2 "agrees") (okr : OKr Γ cX7_agrees (some .boolean)) (a0 : Nat) (x1 : Int32) (x2 : Int32) (x3 : Int32) : SW Γ iI 0 [some (.ref a0), some (.int x1), some (.int x2), some (.int x3), none, none] [] (P_X7_agrees a0 x1 x2 x3) := by
  unfold P_X7_agrees
  refine sw_iconst (v := 0) (pc' := 1) ok dX7_agrees_0 rfl cc_iconst_0 ?_
  refine sw_istore (pc' := 3) (l' := [some (.ref a0), some (.int x1), some (.int x2), some (.int x3), some (.int 0), none]) ok dX7_agrees_1 rfl (Nat.le_of_ble_eq_true rfl) rfl ?_
  exact W_X7_agrees_3 ok okr a0 x1 x2 x3 4000 0
theorem S_X7_agrees (a0 : Nat) (x1 : Int32) (x2 : Int32) (x3 : Int32) : Sim 2 yX7_agrees cX7_agrees 6 (some .boolean) iI [.ref a0, .int x1, .int x2, .int x3] (P_X7_agrees a0 x1 x2 x3) := Sim.intro wd_1034 (by decide) (by decide +kernel) (Nat.le_of_ble_eq_true rfl) (fun Γ ok okr => W_X7_agrees ok okr a0 x1 x2 x3)
theorem dX7_refuseTriples_0 : decode cX7_refuseTriples 0 = .ok (.aload_n 0, 1) := by decide +kernel
theorem dX7_refuseTriples_1 : decode cX7_refuseTriples 1 = .ok (.getfield 27, 3) := by decide +kernel
theorem dX7_refuseTriples_4 : decode cX7_refuseTriples 4 = .ok (.iload_n 1, 1) := by decide +kernel
theorem dX7_refuseTriples_5 : decode cX7_refuseTriples 5 = .ok (.invokevirtual 144, 3) := by decide +kernel
theorem dX7_refuseTriples_8 : decode cX7_refuseTriples 8 = .ok (.ifCond .eq 10, 3) := by decide +kernel
theorem dX7_refuseTriples_11 : decode cX7_refuseTriples 11 = .ok (.iload_n 2, 1) := by decide +kernel
theorem dX7_refuseTriples_12 : decode cX7_refuseTriples 12 = .ok (.invokestatic 78, 3) := by decide +kernel
theorem dX7_refuseTriples_15 : decode cX7_refuseTriples 15 = .ok (.ifCond .ne 5, 3) := by decide +kernel
theorem dX7_refuseTriples_18 : decode cX7_refuseTriples 18 = .ok (.iconst (-1), 1) := by decide +kernel
theorem dX7_refuseTriples_19 : decode cX7_refuseTriples 19 = .ok (.ireturn, 1) := by decide +kernel
theorem dX7_refuseTriples_20 : decode cX7_refuseTriples 20 = .ok (.aload_n 0, 1) := by decide +kernel
theorem dX7_refuseTriples_21 : decode cX7_refuseTriples 21 = .ok (.getfield 11, 3) := by decide +kernel
theorem dX7_refuseTriples_24 : decode cX7_refuseTriples 24 = .ok (.iload_n 2, 1) := by decide +kernel
theorem dX7_refuseTriples_25 : decode cX7_refuseTriples 25 = .ok (.aaload, 1) := by decide +kernel
theorem dX7_refuseTriples_26 : decode cX7_refuseTriples 26 = .ok (.astore_n 3, 1) := by decide +kernel
theorem dX7_refuseTriples_27 : decode cX7_refuseTriples 27 = .ok (.aload_n 3, 1) := by decide +kernel
theorem dX7_refuseTriples_28 : decode cX7_refuseTriples 28 = .ok (.getfield 104, 3) := by decide +kernel
theorem dX7_refuseTriples_31 : decode cX7_refuseTriples 31 = .ok (.ifCond .ne 9, 3) := by decide +kernel
theorem dX7_refuseTriples_34 : decode cX7_refuseTriples 34 = .ok (.aload_n 0, 1) := by decide +kernel
theorem dX7_refuseTriples_35 : decode cX7_refuseTriples 35 = .ok (.iconst 1, 1) := by decide +kernel
theorem dX7_refuseTriples_36 : decode cX7_refuseTriples 36 = .ok (.invokevirtual 82, 3) := by decide +kernel
theorem dX7_refuseTriples_39 : decode cX7_refuseTriples 39 = .ok (.ireturn, 1) := by decide +kernel
theorem dX7_refuseTriples_40 : decode cX7_refuseTriples 40 = .ok (.aload_n 3, 1) := by decide +kernel
theorem dX7_refuseTriples_41 : decode cX7_refuseTriples 41 = .ok (.getfield 121, 3) := by decide +kernel
theorem dX7_refuseTriples_44 : decode cX7_refuseTriples 44 = .ok (.iconst 3, 1) := by decide +kernel
theorem dX7_refuseTriples_45 : decode cX7_refuseTriples 45 = .ok (.irem, 1) := by decide +kernel
theorem dX7_refuseTriples_46 : decode cX7_refuseTriples 46 = .ok (.ifCond .eq 9, 3) := by decide +kernel
theorem dX7_refuseTriples_49 : decode cX7_refuseTriples 49 = .ok (.aload_n 0, 1) := by decide +kernel
theorem dX7_refuseTriples_50 : decode cX7_refuseTriples 50 = .ok (.iconst 5, 1) := by decide +kernel
theorem dX7_refuseTriples_51 : decode cX7_refuseTriples 51 = .ok (.invokevirtual 82, 3) := by decide +kernel
theorem dX7_refuseTriples_54 : decode cX7_refuseTriples 54 = .ok (.ireturn, 1) := by decide +kernel
theorem dX7_refuseTriples_55 : decode cX7_refuseTriples 55 = .ok (.iconst 0, 1) := by decide +kernel
theorem dX7_refuseTriples_56 : decode cX7_refuseTriples 56 = .ok (.istore 4, 2) := by decide +kernel
theorem dX7_refuseTriples_58 : decode cX7_refuseTriples 58 = .ok (.iload 4, 2) := by decide +kernel
theorem dX7_refuseTriples_60 : decode cX7_refuseTriples 60 = .ok (.aload_n 3, 1) := by decide +kernel
theorem dX7_refuseTriples_61 : decode cX7_refuseTriples 61 = .ok (.getfield 121, 3) := by decide +kernel
theorem dX7_refuseTriples_64 : decode cX7_refuseTriples 64 = .ok (.if_icmp .ge 52, 3) := by decide +kernel
theorem dX7_refuseTriples_67 : decode cX7_refuseTriples 67 = .ok (.aload_n 3, 1) := by decide +kernel
theorem dX7_refuseTriples_68 : decode cX7_refuseTriples 68 = .ok (.iload 4, 2) := by decide +kernel
theorem dX7_refuseTriples_70 : decode cX7_refuseTriples 70 = .ok (.bipush 30, 2) := by decide +kernel
theorem dX7_refuseTriples_72 : decode cX7_refuseTriples 72 = .ok (.invokevirtual 372, 3) := by decide +kernel
theorem dX7_refuseTriples_75 : decode cX7_refuseTriples 75 = .ok (.ifCond .eq 29, 3) := by decide +kernel
theorem dX7_refuseTriples_78 : decode cX7_refuseTriples 78 = .ok (.aload_n 3, 1) := by decide +kernel
theorem dX7_refuseTriples_79 : decode cX7_refuseTriples 79 = .ok (.iload 4, 2) := by decide +kernel
theorem dX7_refuseTriples_81 : decode cX7_refuseTriples 81 = .ok (.iconst 1, 1) := by decide +kernel
theorem dX7_refuseTriples_82 : decode cX7_refuseTriples 82 = .ok (.iadd, 1) := by decide +kernel
theorem dX7_refuseTriples_83 : decode cX7_refuseTriples 83 = .ok (.bipush 11, 2) := by decide +kernel
theorem dX7_refuseTriples_85 : decode cX7_refuseTriples 85 = .ok (.invokevirtual 372, 3) := by decide +kernel
theorem dX7_refuseTriples_88 : decode cX7_refuseTriples 88 = .ok (.ifCond .eq 16, 3) := by decide +kernel
theorem dX7_refuseTriples_91 : decode cX7_refuseTriples 91 = .ok (.aload_n 3, 1) := by decide +kernel
theorem dX7_refuseTriples_92 : decode cX7_refuseTriples 92 = .ok (.iload 4, 2) := by decide +kernel
theorem dX7_refuseTriples_94 : decode cX7_refuseTriples 94 = .ok (.iconst 2, 1) := by decide +kernel
theorem dX7_refuseTriples_95 : decode cX7_refuseTriples 95 = .ok (.iadd, 1) := by decide +kernel
theorem dX7_refuseTriples_96 : decode cX7_refuseTriples 96 = .ok (.bipush 15, 2) := by decide +kernel
theorem dX7_refuseTriples_98 : decode cX7_refuseTriples 98 = .ok (.invokevirtual 372, 3) := by decide +kernel
theorem dX7_refuseTriples_101 : decode cX7_refuseTriples 101 = .ok (.ifCond .ne 9, 3) := by decide +kernel
theorem dX7_refuseTriples_104 : decode cX7_refuseTriples 104 = .ok (.aload_n 0, 1) := by decide +kernel
theorem dX7_refuseTriples_105 : decode cX7_refuseTriples 105 = .ok (.iconst 3, 1) := by decide +kernel
theorem dX7_refuseTriples_106 : decode cX7_refuseTriples 106 = .ok (.invokevirtual 82, 3) := by decide +kernel
theorem dX7_refuseTriples_109 : decode cX7_refuseTriples 109 = .ok (.ireturn, 1) := by decide +kernel
theorem dX7_refuseTriples_110 : decode cX7_refuseTriples 110 = .ok (.iinc 4 3, 3) := by decide +kernel
theorem dX7_refuseTriples_113 : decode cX7_refuseTriples 113 = .ok (.goto (-55), 3) := by decide +kernel
theorem dX7_refuseTriples_116 : decode cX7_refuseTriples 116 = .ok (.iconst 0, 1) := by decide +kernel
theorem dX7_refuseTriples_117 : decode cX7_refuseTriples 117 = .ok (.ireturn, 1) := by decide +kernel
def P_X7_refuseTriples_58 (k_104 : PM Int32) (p0 : Nat) (p3 : Nat) : Nat → Int32 → PM Int32
  | 0, _ => failM
  | n + 1, q4 =>
    getI 5 2 p3 fun v11 =>
    ifB (decide (v11 ≤ q4)) (
    pureM 0) (
    cllV 5 p3 (P_X5_isWithin p3 q4 30) fun v12 =>
    ifB (decide (v12 = 0)) (
    k_104) (
    cllV 5 p3 (P_X5_isWithin p3 (q4 + 1) 11) fun v13 =>
    ifB (decide (v13 = 0)) (
    k_104) (
    cllV 5 p3 (P_X5_isWithin p3 (q4 + 2) 15) fun v14 =>
    ifB (decide (¬ v14 = 0)) (
    P_X7_refuseTriples_58 k_104 p0 p3 n (q4 + 3)) (
    k_104))))
def P_X7_refuseTriples (a0 : Nat) (x1 : Int32) (x2 : Int32) : PM Int32 :=
getR 7 3 a0 fun v1 =>
cllV 0 v1 (P_X0_has v1 x1) fun v2 =>
ifB (decide (v2 = 0)) (
pureM ((-1))) (
cll0 (P_X7_isRow x2) fun v3 =>
ifB (decide (¬ v3 = 0)) (
getR 7 0 a0 fun v4 =>
aldR v4 x2 fun v5 =>
getI 5 3 v5 fun v6 =>
ifB (decide (¬ v6 = 0)) (
getI 5 2 v5 fun v7 =>
remI v7 3 fun v8 =>
ifB (decide (v8 = 0)) (
jn (
cllV 7 a0 (P_X7_found a0 3) fun v9 =>
pureM v9) fun k10 =>
P_X7_refuseTriples_58 k10 a0 v5 4000 0) (
cllV 7 a0 (P_X7_found a0 5) fun v15 =>
pureM v15)) (
cllV 7 a0 (P_X7_found a0 1) fun v16 =>
pureM v16)) (
pureM ((-1))))
set_option maxHeartbeats 4000000 in
set_option maxRecDepth 100000 in
theorem W_X7_refuseTriples_58 {Γ : Cx} (ok : OKc Γ cX7_refuseTriples RX7 3 "refuseTriples") (okr : OKr Γ cX7_refuseTriples (some .int)) (k_104 : PM Int32) (p0 : Nat) (p3 : Nat) (hk_104 : SW Γ iI 104 [some (.ref p0), none, none, none, none] [] (k_104)) : ∀ (n : Nat) (q4 : Int32), SW Γ iI 58 [some (.ref p0), none, none, some (.ref p3), some (.int q4)] [] (P_X7_refuseTriples_58 k_104 p0 p3 n q4) := by
  intro n
  induction n with
  | zero =>
    intros
    exact sw_fail
  | succ n ih =>
    intro q4
    unfold P_X7_refuseTriples_58
    refine sw_iload (z := q4) (pc' := 60) ok dX7_refuseTriples_58 rfl rfl ?_
    refine sw_aload_n (z := p3) (pc' := 61) ok dX7_refuseTriples_60 rfl rfl ?_
    refine sw_getI (pc' := 64) ok (fr_X7_121.g) dX7_refuseTriples_61 rfl (fun v11 => ?_)
    refine sw_icmp_ge (tgt := 116) (pc' := 67) ok dX7_refuseTriples_64 (by decide) rfl ?_ ?_
    · refine sw_iconst (v := 0) (pc' := 117) ok dX7_refuseTriples_116 rfl cc_iconst_0 ?_
      exact sw_ret ok okr dX7_refuseTriples_117 trivial rfl
    refine sw_aload_n (z := p3) (pc' := 68) ok dX7_refuseTriples_67 rfl rfl ?_
    refine sw_iload (z := q4) (pc' := 70) ok dX7_refuseTriples_68 rfl rfl ?_
    refine sw_bipush (v := 30) (pc' := 72) ok dX7_refuseTriples_70 rfl cc_bipush_30 ?_
    refine sw_cllV_I (st := []) (as := [.int q4, .int 30]) (pc' := 75) ok (S_X5_isWithin p3 q4 30) (by decide) lk_X7_372 rfl dX7_refuseTriples_72 rfl (Nat.le_of_ble_eq_true rfl) rfl (fun v12 => ?_)
    refine sw_if_eq (tgt := 104) (pc' := 78) ok dX7_refuseTriples_75 (by decide) rfl ?_ ?_
    · refine sw_fg (l' := [some (.ref p0), none, none, none, none]) [true, false, false, false, false] rfl ?_
      exact hk_104
    refine sw_aload_n (z := p3) (pc' := 79) ok dX7_refuseTriples_78 rfl rfl ?_
    refine sw_iload (z := q4) (pc' := 81) ok dX7_refuseTriples_79 rfl rfl ?_
    refine sw_iconst (v := 1) (pc' := 82) ok dX7_refuseTriples_81 rfl cc_iconst_1 ?_
    refine sw_iadd (pc' := 83) ok dX7_refuseTriples_82 rfl ?_
    refine sw_bipush (v := 11) (pc' := 85) ok dX7_refuseTriples_83 rfl cc_bipush_11 ?_
    refine sw_cllV_I (st := []) (as := [.int (q4 + 1), .int 11]) (pc' := 88) ok (S_X5_isWithin p3 (q4 + 1) 11) (by decide) lk_X7_372 rfl dX7_refuseTriples_85 rfl (Nat.le_of_ble_eq_true rfl) rfl (fun v13 => ?_)
    refine sw_if_eq (tgt := 104) (pc' := 91) ok dX7_refuseTriples_88 (by decide) rfl ?_ ?_
    · refine sw_fg (l' := [some (.ref p0), none, none, none, none]) [true, false, false, false, false] rfl ?_
      exact hk_104
    refine sw_aload_n (z := p3) (pc' := 92) ok dX7_refuseTriples_91 rfl rfl ?_
    refine sw_iload (z := q4) (pc' := 94) ok dX7_refuseTriples_92 rfl rfl ?_
    refine sw_iconst (v := 2) (pc' := 95) ok dX7_refuseTriples_94 rfl cc_iconst_2 ?_
    refine sw_iadd (pc' := 96) ok dX7_refuseTriples_95 rfl ?_
    refine sw_bipush (v := 15) (pc' := 98) ok dX7_refuseTriples_96 rfl cc_bipush_15 ?_
    refine sw_cllV_I (st := []) (as := [.int (q4 + 2), .int 15]) (pc' := 101) ok (S_X5_isWithin p3 (q4 + 2) 15) (by decide) lk_X7_372 rfl dX7_refuseTriples_98 rfl (Nat.le_of_ble_eq_true rfl) rfl (fun v14 => ?_)
    refine sw_if_ne (tgt := 110) (pc' := 104) ok dX7_refuseTriples_101 (by decide) rfl ?_ ?_
    · refine sw_iinc (z := q4) (v := q4 + 3) (pc' := 113) (l' := [some (.ref p0), none, none, some (.ref p3), some (.int (q4 + 3))]) ok dX7_refuseTriples_110 rfl rfl (by rw [cc_iconst_3]) rfl ?_
      refine sw_goto (tgt := 58) ok dX7_refuseTriples_113 (by decide) ?_
      exact ih (q4 + 3)
    refine sw_fg (l' := [some (.ref p0), none, none, none, none]) [true, false, false, false, false] rfl ?_
    exact hk_104
set_option maxHeartbeats 4000000 in
set_option maxRecDepth 100000 in
theorem W_X7_refuseTriples {Γ : Cx} (ok : OKc Γ cX7_refuseTriples RX7 3 "refuseTriples") (okr : OKr Γ cX7_refuseTriples (some .int)) (a0 : Nat) (x1 : Int32) (x2 : Int32) : SW Γ iI 0 [some (.ref a0), some (.int x1), some (.int x2), none, none] [] (P_X7_refuseTriples a0 x1 x2) := by
  unfold P_X7_refuseTriples
  refine sw_aload_n (z := a0) (pc' := 1) ok dX7_refuseTriples_0 rfl rfl ?_
  refine sw_getR (pc' := 4) ok (fr_X7_27.g) dX7_refuseTriples_1 rfl (fun v1 => ?_)
  refine sw_iload_n (z := x1) (pc' := 5) ok dX7_refuseTriples_4 rfl rfl ?_
  refine sw_cllV_I (st := []) (as := [.int x1]) (pc' := 8) ok (S_X0_has v1 x1) (by decide) lk_X7_144 rfl dX7_refuseTriples_5 rfl (Nat.le_of_ble_eq_true rfl) rfl (fun v2 => ?_)
  refine sw_if_eq (tgt := 18) (pc' := 11) ok dX7_refuseTriples_8 (by decide) rfl ?_ ?_
  · refine sw_iconst (v := (-1)) (pc' := 19) ok dX7_refuseTriples_18 rfl cc_iconst_m1 ?_
    exact sw_ret ok okr dX7_refuseTriples_19 trivial rfl
  refine sw_iload_n (z := x2) (pc' := 12) ok dX7_refuseTriples_11 rfl rfl ?_
  refine sw_cll0_I (st := []) (as := [.int x2]) (pc' := 15) ok (S_X7_isRow x2) (by decide) lk_X7_78 rfl dX7_refuseTriples_12 rfl (Nat.le_of_ble_eq_true rfl) rfl (fun v3 => ?_)
  refine sw_if_ne (tgt := 20) (pc' := 18) ok dX7_refuseTriples_15 (by decide) rfl ?_ ?_
  · refine sw_aload_n (z := a0) (pc' := 21) ok dX7_refuseTriples_20 rfl rfl ?_
    refine sw_getR (pc' := 24) ok (fr_X7_11.g) dX7_refuseTriples_21 rfl (fun v4 => ?_)
    refine sw_iload_n (z := x2) (pc' := 25) ok dX7_refuseTriples_24 rfl rfl ?_
    refine sw_aldR (pc' := 26) ok dX7_refuseTriples_25 rfl (fun v5 => ?_)
    refine sw_astore_n (pc' := 27) (l' := [some (.ref a0), some (.int x1), some (.int x2), some (.ref v5), none]) ok dX7_refuseTriples_26 rfl (Nat.le_of_ble_eq_true rfl) rfl ?_
    refine sw_aload_n (z := v5) (pc' := 28) ok dX7_refuseTriples_27 rfl rfl ?_
    refine sw_getI (pc' := 31) ok (fr_X7_104.g) dX7_refuseTriples_28 rfl (fun v6 => ?_)
    refine sw_if_ne (tgt := 40) (pc' := 34) ok dX7_refuseTriples_31 (by decide) rfl ?_ ?_
    · refine sw_aload_n (z := v5) (pc' := 41) ok dX7_refuseTriples_40 rfl rfl ?_
      refine sw_getI (pc' := 44) ok (fr_X7_121.g) dX7_refuseTriples_41 rfl (fun v7 => ?_)
      refine sw_iconst (v := 3) (pc' := 45) ok dX7_refuseTriples_44 rfl cc_iconst_3 ?_
      refine sw_remI (pc' := 46) ok dX7_refuseTriples_45 rfl (fun v8 => ?_)
      refine sw_if_eq (tgt := 55) (pc' := 49) ok dX7_refuseTriples_46 (by decide) rfl ?_ ?_
      · refine sw_iconst (v := 0) (pc' := 56) ok dX7_refuseTriples_55 rfl cc_iconst_0 ?_
        refine sw_istore (pc' := 58) (l' := [some (.ref a0), some (.int x1), some (.int x2), some (.ref v5), some (.int 0)]) ok dX7_refuseTriples_56 rfl (Nat.le_of_ble_eq_true rfl) rfl ?_
        refine sw_jn (fun k10 : PM Int32 => SW Γ iI 104 [some (.ref a0), none, none, none, none] [] (k10)) ?_ (fun k10 hk10 => ?_)
        · refine sw_aload_n (z := a0) (pc' := 105) ok dX7_refuseTriples_104 rfl rfl ?_
          refine sw_iconst (v := 3) (pc' := 106) ok dX7_refuseTriples_105 rfl cc_iconst_3 ?_
          refine sw_cllV_I (st := []) (as := [.int 3]) (pc' := 109) ok (S_X7_found a0 3) (by decide) lk_X7_82 rfl dX7_refuseTriples_106 rfl (Nat.le_of_ble_eq_true rfl) rfl (fun v9 => ?_)
          exact sw_ret ok okr dX7_refuseTriples_109 trivial rfl
        refine sw_fg (l' := [some (.ref a0), none, none, some (.ref v5), some (.int 0)]) [true, false, false, true, true] rfl ?_
        exact W_X7_refuseTriples_58 ok okr k10 a0 v5 hk10 4000 0
      refine sw_aload_n (z := a0) (pc' := 50) ok dX7_refuseTriples_49 rfl rfl ?_
      refine sw_iconst (v := 5) (pc' := 51) ok dX7_refuseTriples_50 rfl cc_iconst_5 ?_
      refine sw_cllV_I (st := []) (as := [.int 5]) (pc' := 54) ok (S_X7_found a0 5) (by decide) lk_X7_82 rfl dX7_refuseTriples_51 rfl (Nat.le_of_ble_eq_true rfl) rfl (fun v15 => ?_)
      exact sw_ret ok okr dX7_refuseTriples_54 trivial rfl
    refine sw_aload_n (z := a0) (pc' := 35) ok dX7_refuseTriples_34 rfl rfl ?_
    refine sw_iconst (v := 1) (pc' := 36) ok dX7_refuseTriples_35 rfl cc_iconst_1 ?_
    refine sw_cllV_I (st := []) (as := [.int 1]) (pc' := 39) ok (S_X7_found a0 1) (by decide) lk_X7_82 rfl dX7_refuseTriples_36 rfl (Nat.le_of_ble_eq_true rfl) rfl (fun v16 => ?_)
    exact sw_ret ok okr dX7_refuseTriples_39 trivial rfl
  refine sw_iconst (v := (-1)) (pc' := 19) ok dX7_refuseTriples_18 rfl cc_iconst_m1 ?_
  exact sw_ret ok okr dX7_refuseTriples_19 trivial rfl
theorem S_X7_refuseTriples (a0 : Nat) (x1 : Int32) (x2 : Int32) : Sim 3 yX7_refuseTriples cX7_refuseTriples 5 (some .int) iI [.ref a0, .int x1, .int x2] (P_X7_refuseTriples a0 x1 x2) := Sim.intro wd_1035 (by decide) (by decide +kernel) (Nat.le_of_ble_eq_true rfl) (fun Γ ok okr => W_X7_refuseTriples ok okr a0 x1 x2)
theorem dX7_lasts_0 : decode cX7_lasts 0 = .ok (.aload_n 0, 1) := by decide +kernel
theorem dX7_lasts_1 : decode cX7_lasts 1 = .ok (.iload_n 1, 1) := by decide +kernel
theorem dX7_lasts_2 : decode cX7_lasts 2 = .ok (.iload_n 2, 1) := by decide +kernel
theorem dX7_lasts_3 : decode cX7_lasts 3 = .ok (.invokevirtual 288, 3) := by decide +kernel
theorem dX7_lasts_6 : decode cX7_lasts 6 = .ok (.istore_n 3, 1) := by decide +kernel
theorem dX7_lasts_7 : decode cX7_lasts 7 = .ok (.iload_n 3, 1) := by decide +kernel
theorem dX7_lasts_8 : decode cX7_lasts 8 = .ok (.ifCond .ge 5, 3) := by decide +kernel
theorem dX7_lasts_11 : decode cX7_lasts 11 = .ok (.iload_n 3, 1) := by decide +kernel
theorem dX7_lasts_12 : decode cX7_lasts 12 = .ok (.ireturn, 1) := by decide +kernel
theorem dX7_lasts_13 : decode cX7_lasts 13 = .ok (.iconst 0, 1) := by decide +kernel
theorem dX7_lasts_14 : decode cX7_lasts 14 = .ok (.istore 4, 2) := by decide +kernel
theorem dX7_lasts_16 : decode cX7_lasts 16 = .ok (.iconst 0, 1) := by decide +kernel
theorem dX7_lasts_17 : decode cX7_lasts 17 = .ok (.istore 5, 2) := by decide +kernel
theorem dX7_lasts_19 : decode cX7_lasts 19 = .ok (.iload 5, 2) := by decide +kernel
theorem dX7_lasts_21 : decode cX7_lasts 21 = .ok (.bipush 10, 2) := by decide +kernel
theorem dX7_lasts_23 : decode cX7_lasts 23 = .ok (.if_icmp .ge 50, 3) := by decide +kernel
theorem dX7_lasts_26 : decode cX7_lasts 26 = .ok (.aload_n 0, 1) := by decide +kernel
theorem dX7_lasts_27 : decode cX7_lasts 27 = .ok (.getfield 11, 3) := by decide +kernel
theorem dX7_lasts_30 : decode cX7_lasts 30 = .ok (.iload_n 2, 1) := by decide +kernel
theorem dX7_lasts_31 : decode cX7_lasts 31 = .ok (.aaload, 1) := by decide +kernel
theorem dX7_lasts_32 : decode cX7_lasts 32 = .ok (.aload_n 0, 1) := by decide +kernel
theorem dX7_lasts_33 : decode cX7_lasts 33 = .ok (.getfield 27, 3) := by decide +kernel
theorem dX7_lasts_36 : decode cX7_lasts 36 = .ok (.getfield 150, 3) := by decide +kernel
theorem dX7_lasts_39 : decode cX7_lasts 39 = .ok (.iload_n 1, 1) := by decide +kernel
theorem dX7_lasts_40 : decode cX7_lasts 40 = .ok (.iaload, 1) := by decide +kernel
theorem dX7_lasts_41 : decode cX7_lasts 41 = .ok (.aload_n 0, 1) := by decide +kernel
theorem dX7_lasts_42 : decode cX7_lasts 42 = .ok (.getfield 27, 3) := by decide +kernel
theorem dX7_lasts_45 : decode cX7_lasts 45 = .ok (.getfield 291, 3) := by decide +kernel
theorem dX7_lasts_48 : decode cX7_lasts 48 = .ok (.iload_n 1, 1) := by decide +kernel
theorem dX7_lasts_49 : decode cX7_lasts 49 = .ok (.iaload, 1) := by decide +kernel
theorem dX7_lasts_50 : decode cX7_lasts 50 = .ok (.iload 5, 2) := by decide +kernel
theorem dX7_lasts_52 : decode cX7_lasts 52 = .ok (.invokestatic 294, 3) := by decide +kernel
theorem dX7_lasts_55 : decode cX7_lasts 55 = .ok (.ifCond .eq 12, 3) := by decide +kernel
theorem dX7_lasts_58 : decode cX7_lasts 58 = .ok (.iload 4, 2) := by decide +kernel
theorem dX7_lasts_60 : decode cX7_lasts 60 = .ok (.iconst 1, 1) := by decide +kernel
theorem dX7_lasts_61 : decode cX7_lasts 61 = .ok (.iload 5, 2) := by decide +kernel
theorem dX7_lasts_63 : decode cX7_lasts 63 = .ok (.ishl, 1) := by decide +kernel
theorem dX7_lasts_64 : decode cX7_lasts 64 = .ok (.ior, 1) := by decide +kernel
theorem dX7_lasts_65 : decode cX7_lasts 65 = .ok (.istore 4, 2) := by decide +kernel
theorem dX7_lasts_67 : decode cX7_lasts 67 = .ok (.iinc 5 1, 3) := by decide +kernel
theorem dX7_lasts_70 : decode cX7_lasts 70 = .ok (.goto (-51), 3) := by decide +kernel
theorem dX7_lasts_73 : decode cX7_lasts 73 = .ok (.iload 4, 2) := by decide +kernel
theorem dX7_lasts_75 : decode cX7_lasts 75 = .ok (.ireturn, 1) := by decide +kernel
def P_X7_lasts_19 (p0 : Nat) (p1 : Int32) (p2 : Int32) : Nat → Int32 → Int32 → PM Int32
  | 0, _, _ => failM
  | n + 1, q4, q5 =>
    ifB (decide (10 ≤ q5)) (
    pureM q4) (
    getR 7 0 p0 fun v2 =>
    aldR v2 p2 fun v3 =>
    getR 7 3 p0 fun v4 =>
    getR 0 0 v4 fun v5 =>
    ald v5 p1 fun v6 =>
    getR 7 3 p0 fun v7 =>
    getR 0 1 v7 fun v8 =>
    ald v8 p1 fun v9 =>
    cll0 (P_X7_agrees v3 v6 v9 q5) fun v10 =>
    jn (fun (j11 : Int32) =>
    P_X7_lasts_19 p0 p1 p2 n j11 (q5 + 1)) fun k12 =>
    ifB (decide (v10 = 0)) (
    k12 q4) (
    k12 (q4 ||| (1 <<< (q5 &&& 31)))))
def P_X7_lasts (a0 : Nat) (x1 : Int32) (x2 : Int32) : PM Int32 :=
cllV 7 a0 (P_X7_refuseTriples a0 x1 x2) fun v1 =>
ifB (decide (0 ≤ v1)) (
P_X7_lasts_19 a0 x1 x2 4000 0 0) (
pureM v1)
set_option maxHeartbeats 4000000 in
set_option maxRecDepth 100000 in
theorem W_X7_lasts_19 {Γ : Cx} (ok : OKc Γ cX7_lasts RX7 4 "lasts") (okr : OKr Γ cX7_lasts (some .int)) (p0 : Nat) (p1 : Int32) (p2 : Int32) : ∀ (n : Nat) (q4 : Int32) (q5 : Int32), SW Γ iI 19 [some (.ref p0), some (.int p1), some (.int p2), none, some (.int q4), some (.int q5)] [] (P_X7_lasts_19 p0 p1 p2 n q4 q5) := by
  intro n
  induction n with
  | zero =>
    intros
    exact sw_fail
  | succ n ih =>
    intro q4 q5
    unfold P_X7_lasts_19
    refine sw_iload (z := q5) (pc' := 21) ok dX7_lasts_19 rfl rfl ?_
    refine sw_bipush (v := 10) (pc' := 23) ok dX7_lasts_21 rfl cc_bipush_10 ?_
    refine sw_icmp_ge (tgt := 73) (pc' := 26) ok dX7_lasts_23 (by decide) rfl ?_ ?_
    · refine sw_iload (z := q4) (pc' := 75) ok dX7_lasts_73 rfl rfl ?_
      exact sw_ret ok okr dX7_lasts_75 trivial rfl
    refine sw_aload_n (z := p0) (pc' := 27) ok dX7_lasts_26 rfl rfl ?_
    refine sw_getR (pc' := 30) ok (fr_X7_11.g) dX7_lasts_27 rfl (fun v2 => ?_)
    refine sw_iload_n (z := p2) (pc' := 31) ok dX7_lasts_30 rfl rfl ?_
    refine sw_aldR (pc' := 32) ok dX7_lasts_31 rfl (fun v3 => ?_)
    refine sw_aload_n (z := p0) (pc' := 33) ok dX7_lasts_32 rfl rfl ?_
    refine sw_getR (pc' := 36) ok (fr_X7_27.g) dX7_lasts_33 rfl (fun v4 => ?_)
    refine sw_getR (pc' := 39) ok (fr_X7_150) dX7_lasts_36 rfl (fun v5 => ?_)
    refine sw_iload_n (z := p1) (pc' := 40) ok dX7_lasts_39 rfl rfl ?_
    refine sw_ald (pc' := 41) ok dX7_lasts_40 rfl (fun v6 => ?_)
    refine sw_aload_n (z := p0) (pc' := 42) ok dX7_lasts_41 rfl rfl ?_
    refine sw_getR (pc' := 45) ok (fr_X7_27.g) dX7_lasts_42 rfl (fun v7 => ?_)
    refine sw_getR (pc' := 48) ok (fr_X7_291) dX7_lasts_45 rfl (fun v8 => ?_)
    refine sw_iload_n (z := p1) (pc' := 49) ok dX7_lasts_48 rfl rfl ?_
    refine sw_ald (pc' := 50) ok dX7_lasts_49 rfl (fun v9 => ?_)
    refine sw_iload (z := q5) (pc' := 52) ok dX7_lasts_50 rfl rfl ?_
    refine sw_cll0_I (st := []) (as := [.ref v3, .int v6, .int v9, .int q5]) (pc' := 55) ok (S_X7_agrees v3 v6 v9 q5) (by decide) lk_X7_294 rfl dX7_lasts_52 rfl (Nat.le_of_ble_eq_true rfl) rfl (fun v10 => ?_)
    refine sw_jn (fun k12 : Int32 → PM Int32 => ∀ (j11 : Int32), SW Γ iI 67 [some (.ref p0), some (.int p1), some (.int p2), none, some (.int j11), some (.int q5)] [] (k12 j11)) ?_ (fun k12 hk12 => ?_)
    · intro j11
      refine sw_iinc (z := q5) (v := q5 + 1) (pc' := 70) (l' := [some (.ref p0), some (.int p1), some (.int p2), none, some (.int j11), some (.int (q5 + 1))]) ok dX7_lasts_67 rfl rfl (by rw [cc_iconst_1]) rfl ?_
      refine sw_goto (tgt := 19) ok dX7_lasts_70 (by decide) ?_
      exact ih j11 (q5 + 1)
    refine sw_if_eq (tgt := 67) (pc' := 58) ok dX7_lasts_55 (by decide) rfl ?_ ?_
    · exact hk12 q4
    refine sw_iload (z := q4) (pc' := 60) ok dX7_lasts_58 rfl rfl ?_
    refine sw_iconst (v := 1) (pc' := 61) ok dX7_lasts_60 rfl cc_iconst_1 ?_
    refine sw_iload (z := q5) (pc' := 63) ok dX7_lasts_61 rfl rfl ?_
    refine sw_ishl (pc' := 64) ok dX7_lasts_63 rfl ?_
    refine sw_ior (pc' := 65) ok dX7_lasts_64 rfl ?_
    refine sw_istore (pc' := 67) (l' := [some (.ref p0), some (.int p1), some (.int p2), none, some (.int (q4 ||| (1 <<< (q5 &&& 31)))), some (.int q5)]) ok dX7_lasts_65 rfl (Nat.le_of_ble_eq_true rfl) rfl ?_
    exact hk12 (q4 ||| (1 <<< (q5 &&& 31)))
set_option maxHeartbeats 4000000 in
set_option maxRecDepth 100000 in
theorem W_X7_lasts {Γ : Cx} (ok : OKc Γ cX7_lasts RX7 4 "lasts") (okr : OKr Γ cX7_lasts (some .int)) (a0 : Nat) (x1 : Int32) (x2 : Int32) : SW Γ iI 0 [some (.ref a0), some (.int x1), some (.int x2), none, none, none] [] (P_X7_lasts a0 x1 x2) := by
  unfold P_X7_lasts
  refine sw_aload_n (z := a0) (pc' := 1) ok dX7_lasts_0 rfl rfl ?_
  refine sw_iload_n (z := x1) (pc' := 2) ok dX7_lasts_1 rfl rfl ?_
  refine sw_iload_n (z := x2) (pc' := 3) ok dX7_lasts_2 rfl rfl ?_
  refine sw_cllV_I (st := []) (as := [.int x1, .int x2]) (pc' := 6) ok (S_X7_refuseTriples a0 x1 x2) (by decide) lk_X7_288 rfl dX7_lasts_3 rfl (Nat.le_of_ble_eq_true rfl) rfl (fun v1 => ?_)
  refine sw_istore_n (pc' := 7) (l' := [some (.ref a0), some (.int x1), some (.int x2), some (.int v1), none, none]) ok dX7_lasts_6 rfl (Nat.le_of_ble_eq_true rfl) rfl ?_
  refine sw_iload_n (z := v1) (pc' := 8) ok dX7_lasts_7 rfl rfl ?_
  refine sw_if_ge (tgt := 13) (pc' := 11) ok dX7_lasts_8 (by decide) rfl ?_ ?_
  · refine sw_iconst (v := 0) (pc' := 14) ok dX7_lasts_13 rfl cc_iconst_0 ?_
    refine sw_istore (pc' := 16) (l' := [some (.ref a0), some (.int x1), some (.int x2), some (.int v1), some (.int 0), none]) ok dX7_lasts_14 rfl (Nat.le_of_ble_eq_true rfl) rfl ?_
    refine sw_iconst (v := 0) (pc' := 17) ok dX7_lasts_16 rfl cc_iconst_0 ?_
    refine sw_istore (pc' := 19) (l' := [some (.ref a0), some (.int x1), some (.int x2), some (.int v1), some (.int 0), some (.int 0)]) ok dX7_lasts_17 rfl (Nat.le_of_ble_eq_true rfl) rfl ?_
    refine sw_fg (l' := [some (.ref a0), some (.int x1), some (.int x2), none, some (.int 0), some (.int 0)]) [true, true, true, false, true, true] rfl ?_
    exact W_X7_lasts_19 ok okr a0 x1 x2 4000 0 0
  refine sw_iload_n (z := v1) (pc' := 12) ok dX7_lasts_11 rfl rfl ?_
  exact sw_ret ok okr dX7_lasts_12 trivial rfl
theorem S_X7_lasts (a0 : Nat) (x1 : Int32) (x2 : Int32) : Sim 4 yX7_lasts cX7_lasts 6 (some .int) iI [.ref a0, .int x1, .int x2] (P_X7_lasts a0 x1 x2) := Sim.intro wd_1036 (by decide) (by decide +kernel) (Nat.le_of_ble_eq_true rfl) (fun Γ ok okr => W_X7_lasts ok okr a0 x1 x2)
theorem dX7_possibleKinds_0 : decode cX7_possibleKinds 0 = .ok (.iconst 0, 1) := by decide +kernel
theorem dX7_possibleKinds_1 : decode cX7_possibleKinds 1 = .ok (.istore_n 3, 1) := by decide +kernel
theorem dX7_possibleKinds_2 : decode cX7_possibleKinds 2 = .ok (.aload_n 0, 1) := by decide +kernel
theorem dX7_possibleKinds_3 : decode cX7_possibleKinds 3 = .ok (.getfield 27, 3) := by decide +kernel
theorem dX7_possibleKinds_6 : decode cX7_possibleKinds 6 = .ok (.iload_n 1, 1) := by decide +kernel
theorem dX7_possibleKinds_7 : decode cX7_possibleKinds 7 = .ok (.invokevirtual 144, 3) := by decide +kernel
theorem dX7_possibleKinds_10 : decode cX7_possibleKinds 10 = .ok (.ifCond .eq 53, 3) := by decide +kernel
theorem dX7_possibleKinds_13 : decode cX7_possibleKinds 13 = .ok (.iconst 0, 1) := by decide +kernel
theorem dX7_possibleKinds_14 : decode cX7_possibleKinds 14 = .ok (.istore 4, 2) := by decide +kernel
theorem dX7_possibleKinds_16 : decode cX7_possibleKinds 16 = .ok (.iload 4, 2) := by decide +kernel
theorem dX7_possibleKinds_18 : decode cX7_possibleKinds 18 = .ok (.bipush 6, 2) := by decide +kernel
theorem dX7_possibleKinds_20 : decode cX7_possibleKinds 20 = .ok (.if_icmp .ge 43, 3) := by decide +kernel
theorem dX7_possibleKinds_23 : decode cX7_possibleKinds 23 = .ok (.aload_n 2, 1) := by decide +kernel
theorem dX7_possibleKinds_24 : decode cX7_possibleKinds 24 = .ok (.iload 4, 2) := by decide +kernel
theorem dX7_possibleKinds_26 : decode cX7_possibleKinds 26 = .ok (.aload_n 0, 1) := by decide +kernel
theorem dX7_possibleKinds_27 : decode cX7_possibleKinds 27 = .ok (.getfield 27, 3) := by decide +kernel
theorem dX7_possibleKinds_30 : decode cX7_possibleKinds 30 = .ok (.getfield 291, 3) := by decide +kernel
theorem dX7_possibleKinds_33 : decode cX7_possibleKinds 33 = .ok (.iload_n 1, 1) := by decide +kernel
theorem dX7_possibleKinds_34 : decode cX7_possibleKinds 34 = .ok (.iaload, 1) := by decide +kernel
theorem dX7_possibleKinds_35 : decode cX7_possibleKinds 35 = .ok (.aload_n 0, 1) := by decide +kernel
theorem dX7_possibleKinds_36 : decode cX7_possibleKinds 36 = .ok (.getfield 27, 3) := by decide +kernel
theorem dX7_possibleKinds_39 : decode cX7_possibleKinds 39 = .ok (.getfield 383, 3) := by decide +kernel
theorem dX7_possibleKinds_42 : decode cX7_possibleKinds 42 = .ok (.iload_n 1, 1) := by decide +kernel
theorem dX7_possibleKinds_43 : decode cX7_possibleKinds 43 = .ok (.iaload, 1) := by decide +kernel
theorem dX7_possibleKinds_44 : decode cX7_possibleKinds 44 = .ok (.invokestatic 294, 3) := by decide +kernel
theorem dX7_possibleKinds_47 : decode cX7_possibleKinds 47 = .ok (.ifCond .eq 10, 3) := by decide +kernel
theorem dX7_possibleKinds_50 : decode cX7_possibleKinds 50 = .ok (.iload_n 3, 1) := by decide +kernel
theorem dX7_possibleKinds_51 : decode cX7_possibleKinds 51 = .ok (.iconst 1, 1) := by decide +kernel
theorem dX7_possibleKinds_52 : decode cX7_possibleKinds 52 = .ok (.iload 4, 2) := by decide +kernel
theorem dX7_possibleKinds_54 : decode cX7_possibleKinds 54 = .ok (.ishl, 1) := by decide +kernel
theorem dX7_possibleKinds_55 : decode cX7_possibleKinds 55 = .ok (.ior, 1) := by decide +kernel
theorem dX7_possibleKinds_56 : decode cX7_possibleKinds 56 = .ok (.istore_n 3, 1) := by decide +kernel
theorem dX7_possibleKinds_57 : decode cX7_possibleKinds 57 = .ok (.iinc 4 1, 3) := by decide +kernel
theorem dX7_possibleKinds_60 : decode cX7_possibleKinds 60 = .ok (.goto (-44), 3) := by decide +kernel
theorem dX7_possibleKinds_63 : decode cX7_possibleKinds 63 = .ok (.iload_n 3, 1) := by decide +kernel
theorem dX7_possibleKinds_64 : decode cX7_possibleKinds 64 = .ok (.ireturn, 1) := by decide +kernel
def P_X7_possibleKinds_16 (p0 : Nat) (p1 : Int32) (p2 : Nat) : Nat → Int32 → Int32 → PM Int32
  | 0, _, _ => failM
  | n + 1, q3, q4 =>
    ifB (decide (6 ≤ q4)) (
    pureM q3) (
    getR 7 3 p0 fun v3 =>
    getR 0 1 v3 fun v4 =>
    ald v4 p1 fun v5 =>
    getR 7 3 p0 fun v6 =>
    getR 0 2 v6 fun v7 =>
    ald v7 p1 fun v8 =>
    cll0 (P_X7_agrees p2 q4 v5 v8) fun v9 =>
    jn (fun (j10 : Int32) =>
    P_X7_possibleKinds_16 p0 p1 p2 n j10 (q4 + 1)) fun k11 =>
    ifB (decide (v9 = 0)) (
    k11 q3) (
    k11 (q3 ||| (1 <<< (q4 &&& 31)))))
def P_X7_possibleKinds (a0 : Nat) (x1 : Int32) (a2 : Nat) : PM Int32 :=
getR 7 3 a0 fun v1 =>
cllV 0 v1 (P_X0_has v1 x1) fun v2 =>
ifB (decide (v2 = 0)) (
pureM 0) (
P_X7_possibleKinds_16 a0 x1 a2 4000 0 0)
set_option maxHeartbeats 4000000 in
set_option maxRecDepth 100000 in
theorem W_X7_possibleKinds_16 {Γ : Cx} (ok : OKc Γ cX7_possibleKinds RX7 3 "possibleKinds") (okr : OKr Γ cX7_possibleKinds (some .int)) (p0 : Nat) (p1 : Int32) (p2 : Nat) : ∀ (n : Nat) (q3 : Int32) (q4 : Int32), SW Γ iI 16 [some (.ref p0), some (.int p1), some (.ref p2), some (.int q3), some (.int q4)] [] (P_X7_possibleKinds_16 p0 p1 p2 n q3 q4) := by
  intro n
  induction n with
  | zero =>
    intros
    exact sw_fail
  | succ n ih =>
    intro q3 q4
    unfold P_X7_possibleKinds_16
    refine sw_iload (z := q4) (pc' := 18) ok dX7_possibleKinds_16 rfl rfl ?_
    refine sw_bipush (v := 6) (pc' := 20) ok dX7_possibleKinds_18 rfl cc_bipush_6 ?_
    refine sw_icmp_ge (tgt := 63) (pc' := 23) ok dX7_possibleKinds_20 (by decide) rfl ?_ ?_
    · refine sw_iload_n (z := q3) (pc' := 64) ok dX7_possibleKinds_63 rfl rfl ?_
      exact sw_ret ok okr dX7_possibleKinds_64 trivial rfl
    refine sw_aload_n (z := p2) (pc' := 24) ok dX7_possibleKinds_23 rfl rfl ?_
    refine sw_iload (z := q4) (pc' := 26) ok dX7_possibleKinds_24 rfl rfl ?_
    refine sw_aload_n (z := p0) (pc' := 27) ok dX7_possibleKinds_26 rfl rfl ?_
    refine sw_getR (pc' := 30) ok (fr_X7_27.g) dX7_possibleKinds_27 rfl (fun v3 => ?_)
    refine sw_getR (pc' := 33) ok (fr_X7_291) dX7_possibleKinds_30 rfl (fun v4 => ?_)
    refine sw_iload_n (z := p1) (pc' := 34) ok dX7_possibleKinds_33 rfl rfl ?_
    refine sw_ald (pc' := 35) ok dX7_possibleKinds_34 rfl (fun v5 => ?_)
    refine sw_aload_n (z := p0) (pc' := 36) ok dX7_possibleKinds_35 rfl rfl ?_
    refine sw_getR (pc' := 39) ok (fr_X7_27.g) dX7_possibleKinds_36 rfl (fun v6 => ?_)
    refine sw_getR (pc' := 42) ok (fr_X7_383) dX7_possibleKinds_39 rfl (fun v7 => ?_)
    refine sw_iload_n (z := p1) (pc' := 43) ok dX7_possibleKinds_42 rfl rfl ?_
    refine sw_ald (pc' := 44) ok dX7_possibleKinds_43 rfl (fun v8 => ?_)
    refine sw_cll0_I (st := []) (as := [.ref p2, .int q4, .int v5, .int v8]) (pc' := 47) ok (S_X7_agrees p2 q4 v5 v8) (by decide) lk_X7_294 rfl dX7_possibleKinds_44 rfl (Nat.le_of_ble_eq_true rfl) rfl (fun v9 => ?_)
    refine sw_jn (fun k11 : Int32 → PM Int32 => ∀ (j10 : Int32), SW Γ iI 57 [some (.ref p0), some (.int p1), some (.ref p2), some (.int j10), some (.int q4)] [] (k11 j10)) ?_ (fun k11 hk11 => ?_)
    · intro j10
      refine sw_iinc (z := q4) (v := q4 + 1) (pc' := 60) (l' := [some (.ref p0), some (.int p1), some (.ref p2), some (.int j10), some (.int (q4 + 1))]) ok dX7_possibleKinds_57 rfl rfl (by rw [cc_iconst_1]) rfl ?_
      refine sw_goto (tgt := 16) ok dX7_possibleKinds_60 (by decide) ?_
      exact ih j10 (q4 + 1)
    refine sw_if_eq (tgt := 57) (pc' := 50) ok dX7_possibleKinds_47 (by decide) rfl ?_ ?_
    · exact hk11 q3
    refine sw_iload_n (z := q3) (pc' := 51) ok dX7_possibleKinds_50 rfl rfl ?_
    refine sw_iconst (v := 1) (pc' := 52) ok dX7_possibleKinds_51 rfl cc_iconst_1 ?_
    refine sw_iload (z := q4) (pc' := 54) ok dX7_possibleKinds_52 rfl rfl ?_
    refine sw_ishl (pc' := 55) ok dX7_possibleKinds_54 rfl ?_
    refine sw_ior (pc' := 56) ok dX7_possibleKinds_55 rfl ?_
    refine sw_istore_n (pc' := 57) (l' := [some (.ref p0), some (.int p1), some (.ref p2), some (.int (q3 ||| (1 <<< (q4 &&& 31)))), some (.int q4)]) ok dX7_possibleKinds_56 rfl (Nat.le_of_ble_eq_true rfl) rfl ?_
    exact hk11 (q3 ||| (1 <<< (q4 &&& 31)))
set_option maxHeartbeats 4000000 in
set_option maxRecDepth 100000 in
theorem W_X7_possibleKinds {Γ : Cx} (ok : OKc Γ cX7_possibleKinds RX7 3 "possibleKinds") (okr : OKr Γ cX7_possibleKinds (some .int)) (a0 : Nat) (x1 : Int32) (a2 : Nat) : SW Γ iI 0 [some (.ref a0), some (.int x1), some (.ref a2), none, none] [] (P_X7_possibleKinds a0 x1 a2) := by
  unfold P_X7_possibleKinds
  refine sw_iconst (v := 0) (pc' := 1) ok dX7_possibleKinds_0 rfl cc_iconst_0 ?_
  refine sw_istore_n (pc' := 2) (l' := [some (.ref a0), some (.int x1), some (.ref a2), some (.int 0), none]) ok dX7_possibleKinds_1 rfl (Nat.le_of_ble_eq_true rfl) rfl ?_
  refine sw_aload_n (z := a0) (pc' := 3) ok dX7_possibleKinds_2 rfl rfl ?_
  refine sw_getR (pc' := 6) ok (fr_X7_27.g) dX7_possibleKinds_3 rfl (fun v1 => ?_)
  refine sw_iload_n (z := x1) (pc' := 7) ok dX7_possibleKinds_6 rfl rfl ?_
  refine sw_cllV_I (st := []) (as := [.int x1]) (pc' := 10) ok (S_X0_has v1 x1) (by decide) lk_X7_144 rfl dX7_possibleKinds_7 rfl (Nat.le_of_ble_eq_true rfl) rfl (fun v2 => ?_)
  refine sw_if_eq (tgt := 63) (pc' := 13) ok dX7_possibleKinds_10 (by decide) rfl ?_ ?_
  · refine sw_iload_n (z := 0) (pc' := 64) ok dX7_possibleKinds_63 rfl rfl ?_
    exact sw_ret ok okr dX7_possibleKinds_64 trivial rfl
  refine sw_iconst (v := 0) (pc' := 14) ok dX7_possibleKinds_13 rfl cc_iconst_0 ?_
  refine sw_istore (pc' := 16) (l' := [some (.ref a0), some (.int x1), some (.ref a2), some (.int 0), some (.int 0)]) ok dX7_possibleKinds_14 rfl (Nat.le_of_ble_eq_true rfl) rfl ?_
  exact W_X7_possibleKinds_16 ok okr a0 x1 a2 4000 0 0
theorem S_X7_possibleKinds (a0 : Nat) (x1 : Int32) (a2 : Nat) : Sim 3 yX7_possibleKinds cX7_possibleKinds 5 (some .int) iI [.ref a0, .int x1, .ref a2] (P_X7_possibleKinds a0 x1 a2) := Sim.intro wd_1037 (by decide) (by decide +kernel) (Nat.le_of_ble_eq_true rfl) (fun Γ ok okr => W_X7_possibleKinds ok okr a0 x1 a2)
theorem dX7_kinds_0 : decode cX7_kinds 0 = .ok (.aload_n 0, 1) := by decide +kernel
theorem dX7_kinds_1 : decode cX7_kinds 1 = .ok (.iload_n 1, 1) := by decide +kernel
theorem dX7_kinds_2 : decode cX7_kinds 2 = .ok (.iload_n 2, 1) := by decide +kernel
theorem dX7_kinds_3 : decode cX7_kinds 3 = .ok (.invokevirtual 288, 3) := by decide +kernel
theorem dX7_kinds_6 : decode cX7_kinds 6 = .ok (.istore_n 3, 1) := by decide +kernel
theorem dX7_kinds_7 : decode cX7_kinds 7 = .ok (.iload_n 3, 1) := by decide +kernel
theorem dX7_kinds_8 : decode cX7_kinds 8 = .ok (.ifCond .ge 7, 3) := by decide +kernel
theorem dX7_kinds_11 : decode cX7_kinds 11 = .ok (.iload_n 3, 1) := by decide +kernel
theorem dX7_kinds_12 : decode cX7_kinds 12 = .ok (.goto 14, 3) := by decide +kernel
theorem dX7_kinds_15 : decode cX7_kinds 15 = .ok (.aload_n 0, 1) := by decide +kernel
theorem dX7_kinds_16 : decode cX7_kinds 16 = .ok (.iload_n 1, 1) := by decide +kernel
theorem dX7_kinds_17 : decode cX7_kinds 17 = .ok (.aload_n 0, 1) := by decide +kernel
theorem dX7_kinds_18 : decode cX7_kinds 18 = .ok (.getfield 11, 3) := by decide +kernel
theorem dX7_kinds_21 : decode cX7_kinds 21 = .ok (.iload_n 2, 1) := by decide +kernel
theorem dX7_kinds_22 : decode cX7_kinds 22 = .ok (.aaload, 1) := by decide +kernel
theorem dX7_kinds_23 : decode cX7_kinds 23 = .ok (.invokevirtual 298, 3) := by decide +kernel
theorem dX7_kinds_26 : decode cX7_kinds 26 = .ok (.ireturn, 1) := by decide +kernel
def P_X7_kinds (a0 : Nat) (x1 : Int32) (x2 : Int32) : PM Int32 :=
cllV 7 a0 (P_X7_refuseTriples a0 x1 x2) fun v1 =>
ifB (decide (0 ≤ v1)) (
getR 7 0 a0 fun v2 =>
aldR v2 x2 fun v3 =>
cllV 7 a0 (P_X7_possibleKinds a0 x1 v3) fun v4 =>
pureM v4) (
pureM v1)
set_option maxHeartbeats 4000000 in
set_option maxRecDepth 100000 in
theorem W_X7_kinds {Γ : Cx} (ok : OKc Γ cX7_kinds RX7 4 "kinds") (okr : OKr Γ cX7_kinds (some .int)) (a0 : Nat) (x1 : Int32) (x2 : Int32) : SW Γ iI 0 [some (.ref a0), some (.int x1), some (.int x2), none] [] (P_X7_kinds a0 x1 x2) := by
  unfold P_X7_kinds
  refine sw_aload_n (z := a0) (pc' := 1) ok dX7_kinds_0 rfl rfl ?_
  refine sw_iload_n (z := x1) (pc' := 2) ok dX7_kinds_1 rfl rfl ?_
  refine sw_iload_n (z := x2) (pc' := 3) ok dX7_kinds_2 rfl rfl ?_
  refine sw_cllV_I (st := []) (as := [.int x1, .int x2]) (pc' := 6) ok (S_X7_refuseTriples a0 x1 x2) (by decide) lk_X7_288 rfl dX7_kinds_3 rfl (Nat.le_of_ble_eq_true rfl) rfl (fun v1 => ?_)
  refine sw_istore_n (pc' := 7) (l' := [some (.ref a0), some (.int x1), some (.int x2), some (.int v1)]) ok dX7_kinds_6 rfl (Nat.le_of_ble_eq_true rfl) rfl ?_
  refine sw_iload_n (z := v1) (pc' := 8) ok dX7_kinds_7 rfl rfl ?_
  refine sw_if_ge (tgt := 15) (pc' := 11) ok dX7_kinds_8 (by decide) rfl ?_ ?_
  · refine sw_aload_n (z := a0) (pc' := 16) ok dX7_kinds_15 rfl rfl ?_
    refine sw_iload_n (z := x1) (pc' := 17) ok dX7_kinds_16 rfl rfl ?_
    refine sw_aload_n (z := a0) (pc' := 18) ok dX7_kinds_17 rfl rfl ?_
    refine sw_getR (pc' := 21) ok (fr_X7_11.g) dX7_kinds_18 rfl (fun v2 => ?_)
    refine sw_iload_n (z := x2) (pc' := 22) ok dX7_kinds_21 rfl rfl ?_
    refine sw_aldR (pc' := 23) ok dX7_kinds_22 rfl (fun v3 => ?_)
    refine sw_cllV_I (st := []) (as := [.int x1, .ref v3]) (pc' := 26) ok (S_X7_possibleKinds a0 x1 v3) (by decide) lk_X7_298 rfl dX7_kinds_23 rfl (Nat.le_of_ble_eq_true rfl) rfl (fun v4 => ?_)
    exact sw_ret ok okr dX7_kinds_26 trivial rfl
  refine sw_iload_n (z := v1) (pc' := 12) ok dX7_kinds_11 rfl rfl ?_
  refine sw_goto (tgt := 26) ok dX7_kinds_12 (by decide) ?_
  exact sw_ret ok okr dX7_kinds_26 trivial rfl
theorem S_X7_kinds (a0 : Nat) (x1 : Int32) (x2 : Int32) : Sim 4 yX7_kinds cX7_kinds 4 (some .int) iI [.ref a0, .int x1, .int x2] (P_X7_kinds a0 x1 x2) := Sim.intro wd_1038 (by decide) (by decide +kernel) (Nat.le_of_ble_eq_true rfl) (fun Γ ok okr => W_X7_kinds ok okr a0 x1 x2)
theorem dX7_toldAs_0 : decode cX7_toldAs 0 = .ok (.aload_n 0, 1) := by decide +kernel
theorem dX7_toldAs_1 : decode cX7_toldAs 1 = .ok (.getfield 27, 3) := by decide +kernel
theorem dX7_toldAs_4 : decode cX7_toldAs 4 = .ok (.iload_n 1, 1) := by decide +kernel
theorem dX7_toldAs_5 : decode cX7_toldAs 5 = .ok (.invokevirtual 144, 3) := by decide +kernel
theorem dX7_toldAs_8 : decode cX7_toldAs 8 = .ok (.ifCond .eq 28, 3) := by decide +kernel
theorem dX7_toldAs_11 : decode cX7_toldAs 11 = .ok (.aload_n 0, 1) := by decide +kernel
theorem dX7_toldAs_12 : decode cX7_toldAs 12 = .ok (.getfield 27, 3) := by decide +kernel
theorem dX7_toldAs_15 : decode cX7_toldAs 15 = .ok (.iload_n 1, 1) := by decide +kernel
theorem dX7_toldAs_16 : decode cX7_toldAs 16 = .ok (.iload_n 2, 1) := by decide +kernel
theorem dX7_toldAs_17 : decode cX7_toldAs 17 = .ok (.aload_n 0, 1) := by decide +kernel
theorem dX7_toldAs_18 : decode cX7_toldAs 18 = .ok (.getfield 39, 3) := by decide +kernel
theorem dX7_toldAs_21 : decode cX7_toldAs 21 = .ok (.getfield 156, 3) := by decide +kernel
theorem dX7_toldAs_24 : decode cX7_toldAs 24 = .ok (.getfield 166, 3) := by decide +kernel
theorem dX7_toldAs_27 : decode cX7_toldAs 27 = .ok (.iload_n 1, 1) := by decide +kernel
theorem dX7_toldAs_28 : decode cX7_toldAs 28 = .ok (.iaload, 1) := by decide +kernel
theorem dX7_toldAs_29 : decode cX7_toldAs 29 = .ok (.iload_n 3, 1) := by decide +kernel
theorem dX7_toldAs_30 : decode cX7_toldAs 30 = .ok (.invokevirtual 169, 3) := by decide +kernel
theorem dX7_toldAs_33 : decode cX7_toldAs 33 = .ok (.goto 4, 3) := by decide +kernel
theorem dX7_toldAs_36 : decode cX7_toldAs 36 = .ok (.iconst 0, 1) := by decide +kernel
theorem dX7_toldAs_37 : decode cX7_toldAs 37 = .ok (.ireturn, 1) := by decide +kernel
def P_X7_toldAs (a0 : Nat) (x1 : Int32) (x2 : Int32) (x3 : Int32) : PM Int32 :=
getR 7 3 a0 fun v1 =>
cllV 0 v1 (P_X0_has v1 x1) fun v2 =>
ifB (decide (v2 = 0)) (
pureM 0) (
getR 7 3 a0 fun v3 =>
getR 7 5 a0 fun v4 =>
getR 3 0 v4 fun v5 =>
getR 1 0 v5 fun v6 =>
ald v6 x1 fun v7 =>
cllV 0 v3 (P_X0_tellsAs v3 x1 x2 v7 x3) fun v8 =>
pureM v8)
set_option maxHeartbeats 4000000 in
set_option maxRecDepth 100000 in
theorem W_X7_toldAs {Γ : Cx} (ok : OKc Γ cX7_toldAs RX7 3 "toldAs") (okr : OKr Γ cX7_toldAs (some .int)) (a0 : Nat) (x1 : Int32) (x2 : Int32) (x3 : Int32) : SW Γ iI 0 [some (.ref a0), some (.int x1), some (.int x2), some (.int x3)] [] (P_X7_toldAs a0 x1 x2 x3) := by
  unfold P_X7_toldAs
  refine sw_aload_n (z := a0) (pc' := 1) ok dX7_toldAs_0 rfl rfl ?_
  refine sw_getR (pc' := 4) ok (fr_X7_27.g) dX7_toldAs_1 rfl (fun v1 => ?_)
  refine sw_iload_n (z := x1) (pc' := 5) ok dX7_toldAs_4 rfl rfl ?_
  refine sw_cllV_I (st := []) (as := [.int x1]) (pc' := 8) ok (S_X0_has v1 x1) (by decide) lk_X7_144 rfl dX7_toldAs_5 rfl (Nat.le_of_ble_eq_true rfl) rfl (fun v2 => ?_)
  refine sw_if_eq (tgt := 36) (pc' := 11) ok dX7_toldAs_8 (by decide) rfl ?_ ?_
  · refine sw_iconst (v := 0) (pc' := 37) ok dX7_toldAs_36 rfl cc_iconst_0 ?_
    exact sw_ret ok okr dX7_toldAs_37 trivial rfl
  refine sw_aload_n (z := a0) (pc' := 12) ok dX7_toldAs_11 rfl rfl ?_
  refine sw_getR (pc' := 15) ok (fr_X7_27.g) dX7_toldAs_12 rfl (fun v3 => ?_)
  refine sw_iload_n (z := x1) (pc' := 16) ok dX7_toldAs_15 rfl rfl ?_
  refine sw_iload_n (z := x2) (pc' := 17) ok dX7_toldAs_16 rfl rfl ?_
  refine sw_aload_n (z := a0) (pc' := 18) ok dX7_toldAs_17 rfl rfl ?_
  refine sw_getR (pc' := 21) ok (fr_X7_39.g) dX7_toldAs_18 rfl (fun v4 => ?_)
  refine sw_getR (pc' := 24) ok (fr_X7_156) dX7_toldAs_21 rfl (fun v5 => ?_)
  refine sw_getR (pc' := 27) ok (fr_X7_166) dX7_toldAs_24 rfl (fun v6 => ?_)
  refine sw_iload_n (z := x1) (pc' := 28) ok dX7_toldAs_27 rfl rfl ?_
  refine sw_ald (pc' := 29) ok dX7_toldAs_28 rfl (fun v7 => ?_)
  refine sw_iload_n (z := x3) (pc' := 30) ok dX7_toldAs_29 rfl rfl ?_
  refine sw_cllV_I (st := []) (as := [.int x1, .int x2, .int v7, .int x3]) (pc' := 33) ok (S_X0_tellsAs v3 x1 x2 v7 x3) (by decide) lk_X7_169 rfl dX7_toldAs_30 rfl (Nat.le_of_ble_eq_true rfl) rfl (fun v8 => ?_)
  refine sw_goto (tgt := 37) ok dX7_toldAs_33 (by decide) ?_
  exact sw_ret ok okr dX7_toldAs_37 trivial rfl
theorem S_X7_toldAs (a0 : Nat) (x1 : Int32) (x2 : Int32) (x3 : Int32) : Sim 3 yX7_toldAs cX7_toldAs 4 (some .int) iI [.ref a0, .int x1, .int x2, .int x3] (P_X7_toldAs a0 x1 x2 x3) := Sim.intro wd_1039 (by decide) (by decide +kernel) (Nat.le_of_ble_eq_true rfl) (fun Γ ok okr => W_X7_toldAs ok okr a0 x1 x2 x3)
theorem dX7_greatestPartAlike_0 : decode cX7_greatestPartAlike 0 = .ok (.iconst 0, 1) := by decide +kernel
theorem dX7_greatestPartAlike_1 : decode cX7_greatestPartAlike 1 = .ok (.istore 4, 2) := by decide +kernel
theorem dX7_greatestPartAlike_3 : decode cX7_greatestPartAlike 3 = .ok (.iconst 0, 1) := by decide +kernel
theorem dX7_greatestPartAlike_4 : decode cX7_greatestPartAlike 4 = .ok (.istore 5, 2) := by decide +kernel
theorem dX7_greatestPartAlike_6 : decode cX7_greatestPartAlike 6 = .ok (.iload 5, 2) := by decide +kernel
theorem dX7_greatestPartAlike_8 : decode cX7_greatestPartAlike 8 = .ok (.bipush 6, 2) := by decide +kernel
theorem dX7_greatestPartAlike_10 : decode cX7_greatestPartAlike 10 = .ok (.if_icmp .ge 83, 3) := by decide +kernel
theorem dX7_greatestPartAlike_13 : decode cX7_greatestPartAlike 13 = .ok (.iconst 0, 1) := by decide +kernel
theorem dX7_greatestPartAlike_14 : decode cX7_greatestPartAlike 14 = .ok (.istore 6, 2) := by decide +kernel
theorem dX7_greatestPartAlike_16 : decode cX7_greatestPartAlike 16 = .ok (.aload_n 0, 1) := by decide +kernel
theorem dX7_greatestPartAlike_17 : decode cX7_greatestPartAlike 17 = .ok (.iload_n 1, 1) := by decide +kernel
theorem dX7_greatestPartAlike_18 : decode cX7_greatestPartAlike 18 = .ok (.iload 5, 2) := by decide +kernel
theorem dX7_greatestPartAlike_20 : decode cX7_greatestPartAlike 20 = .ok (.iload_n 3, 1) := by decide +kernel
theorem dX7_greatestPartAlike_21 : decode cX7_greatestPartAlike 21 = .ok (.invokevirtual 396, 3) := by decide +kernel
theorem dX7_greatestPartAlike_24 : decode cX7_greatestPartAlike 24 = .ok (.istore 7, 2) := by decide +kernel
theorem dX7_greatestPartAlike_26 : decode cX7_greatestPartAlike 26 = .ok (.iconst 0, 1) := by decide +kernel
theorem dX7_greatestPartAlike_27 : decode cX7_greatestPartAlike 27 = .ok (.istore 8, 2) := by decide +kernel
theorem dX7_greatestPartAlike_29 : decode cX7_greatestPartAlike 29 = .ok (.iload 8, 2) := by decide +kernel
theorem dX7_greatestPartAlike_31 : decode cX7_greatestPartAlike 31 = .ok (.bipush 6, 2) := by decide +kernel
theorem dX7_greatestPartAlike_33 : decode cX7_greatestPartAlike 33 = .ok (.if_icmp .ge 35, 3) := by decide +kernel
theorem dX7_greatestPartAlike_36 : decode cX7_greatestPartAlike 36 = .ok (.iload_n 2, 1) := by decide +kernel
theorem dX7_greatestPartAlike_37 : decode cX7_greatestPartAlike 37 = .ok (.iload 8, 2) := by decide +kernel
theorem dX7_greatestPartAlike_39 : decode cX7_greatestPartAlike 39 = .ok (.ishr, 1) := by decide +kernel
theorem dX7_greatestPartAlike_40 : decode cX7_greatestPartAlike 40 = .ok (.iconst 1, 1) := by decide +kernel
theorem dX7_greatestPartAlike_41 : decode cX7_greatestPartAlike 41 = .ok (.iand, 1) := by decide +kernel
theorem dX7_greatestPartAlike_42 : decode cX7_greatestPartAlike 42 = .ok (.iconst 1, 1) := by decide +kernel
theorem dX7_greatestPartAlike_43 : decode cX7_greatestPartAlike 43 = .ok (.if_icmp .ne 19, 3) := by decide +kernel
theorem dX7_greatestPartAlike_46 : decode cX7_greatestPartAlike 46 = .ok (.aload_n 0, 1) := by decide +kernel
theorem dX7_greatestPartAlike_47 : decode cX7_greatestPartAlike 47 = .ok (.iload_n 1, 1) := by decide +kernel
theorem dX7_greatestPartAlike_48 : decode cX7_greatestPartAlike 48 = .ok (.iload 8, 2) := by decide +kernel
theorem dX7_greatestPartAlike_50 : decode cX7_greatestPartAlike 50 = .ok (.iload_n 3, 1) := by decide +kernel
theorem dX7_greatestPartAlike_51 : decode cX7_greatestPartAlike 51 = .ok (.invokevirtual 396, 3) := by decide +kernel
theorem dX7_greatestPartAlike_54 : decode cX7_greatestPartAlike 54 = .ok (.iload 7, 2) := by decide +kernel
theorem dX7_greatestPartAlike_56 : decode cX7_greatestPartAlike 56 = .ok (.if_icmp .ne 6, 3) := by decide +kernel
theorem dX7_greatestPartAlike_59 : decode cX7_greatestPartAlike 59 = .ok (.iinc 6 1, 3) := by decide +kernel
theorem dX7_greatestPartAlike_62 : decode cX7_greatestPartAlike 62 = .ok (.iinc 8 1, 3) := by decide +kernel
theorem dX7_greatestPartAlike_65 : decode cX7_greatestPartAlike 65 = .ok (.goto (-36), 3) := by decide +kernel
theorem dX7_greatestPartAlike_68 : decode cX7_greatestPartAlike 68 = .ok (.iload_n 2, 1) := by decide +kernel
theorem dX7_greatestPartAlike_69 : decode cX7_greatestPartAlike 69 = .ok (.iload 5, 2) := by decide +kernel
theorem dX7_greatestPartAlike_71 : decode cX7_greatestPartAlike 71 = .ok (.ishr, 1) := by decide +kernel
theorem dX7_greatestPartAlike_72 : decode cX7_greatestPartAlike 72 = .ok (.iconst 1, 1) := by decide +kernel
theorem dX7_greatestPartAlike_73 : decode cX7_greatestPartAlike 73 = .ok (.iand, 1) := by decide +kernel
theorem dX7_greatestPartAlike_74 : decode cX7_greatestPartAlike 74 = .ok (.iconst 1, 1) := by decide +kernel
theorem dX7_greatestPartAlike_75 : decode cX7_greatestPartAlike 75 = .ok (.if_icmp .ne 12, 3) := by decide +kernel
theorem dX7_greatestPartAlike_78 : decode cX7_greatestPartAlike 78 = .ok (.iload 4, 2) := by decide +kernel
theorem dX7_greatestPartAlike_80 : decode cX7_greatestPartAlike 80 = .ok (.iload 6, 2) := by decide +kernel
theorem dX7_greatestPartAlike_82 : decode cX7_greatestPartAlike 82 = .ok (.invokestatic 176, 3) := by decide +kernel
theorem dX7_greatestPartAlike_85 : decode cX7_greatestPartAlike 85 = .ok (.istore 4, 2) := by decide +kernel
theorem dX7_greatestPartAlike_87 : decode cX7_greatestPartAlike 87 = .ok (.iinc 5 1, 3) := by decide +kernel
theorem dX7_greatestPartAlike_90 : decode cX7_greatestPartAlike 90 = .ok (.goto (-84), 3) := by decide +kernel
theorem dX7_greatestPartAlike_93 : decode cX7_greatestPartAlike 93 = .ok (.iload 4, 2) := by decide +kernel
theorem dX7_greatestPartAlike_95 : decode cX7_greatestPartAlike 95 = .ok (.ireturn, 1) := by decide +kernel
def P_X7_greatestPartAlike_29 (k_68 : Int32 → PM Int32) (p0 : Nat) (p1 : Int32) (p2 : Int32) (p3 : Int32) (p4 : Int32) (p5 : Int32) (p7 : Int32) : Nat → Int32 → Int32 → PM Int32
  | 0, _, _ => failM
  | n + 1, q6, q8 =>
    ifB (decide (6 ≤ q8)) (
    k_68 q6) (
    jn (fun (j7 : Int32) =>
    P_X7_greatestPartAlike_29 k_68 p0 p1 p2 p3 p4 p5 p7 n j7 (q8 + 1)) fun k8 =>
    ifB (decide (¬ ((p2 >>> (q8 &&& 31)) &&& 1) = 1)) (
    k8 q6) (
    cllV 7 p0 (P_X7_toldAs p0 p1 q8 p3) fun v9 =>
    ifB (decide (¬ v9 = p7)) (
    k8 q6) (
    k8 (q6 + 1))))
def P_X7_greatestPartAlike_6 (p0 : Nat) (p1 : Int32) (p2 : Int32) (p3 : Int32) : Nat → Int32 → Int32 → PM Int32
  | 0, _, _ => failM
  | n + 1, q4, q5 =>
    ifB (decide (6 ≤ q5)) (
    pureM q4) (
    cllV 7 p0 (P_X7_toldAs p0 p1 q5 p3) fun v1 =>
    jn (fun (e2 : Int32) =>
    jn (fun (j3 : Int32) =>
    P_X7_greatestPartAlike_6 p0 p1 p2 p3 n j3 (q5 + 1)) fun k4 =>
    ifB (decide (¬ ((p2 >>> (q5 &&& 31)) &&& 1) = 1)) (
    k4 q4) (
    cll0 (P_J9_max_7cf53 q4 e2) fun v5 =>
    k4 v5)) fun k6 =>
    P_X7_greatestPartAlike_29 k6 p0 p1 p2 p3 q4 q5 v1 4000 0 0)
def P_X7_greatestPartAlike (a0 : Nat) (x1 : Int32) (x2 : Int32) (x3 : Int32) : PM Int32 :=
P_X7_greatestPartAlike_6 a0 x1 x2 x3 4000 0 0
set_option maxHeartbeats 4000000 in
set_option maxRecDepth 100000 in
theorem W_X7_greatestPartAlike_29 {Γ : Cx} (ok : OKc Γ cX7_greatestPartAlike RX7 4 "greatestPartAlike") (okr : OKr Γ cX7_greatestPartAlike (some .int)) (k_68 : Int32 → PM Int32) (p0 : Nat) (p1 : Int32) (p2 : Int32) (p3 : Int32) (p4 : Int32) (p5 : Int32) (p7 : Int32) (hk_68 : ∀ (y6 : Int32), SW Γ iI 68 [some (.ref p0), some (.int p1), some (.int p2), some (.int p3), some (.int p4), some (.int p5), some (.int y6), none, none] [] (k_68 y6)) : ∀ (n : Nat) (q6 : Int32) (q8 : Int32), SW Γ iI 29 [some (.ref p0), some (.int p1), some (.int p2), some (.int p3), some (.int p4), some (.int p5), some (.int q6), some (.int p7), some (.int q8)] [] (P_X7_greatestPartAlike_29 k_68 p0 p1 p2 p3 p4 p5 p7 n q6 q8) := by
  intro n
  induction n with
  | zero =>
    intros
    exact sw_fail
  | succ n ih =>
    intro q6 q8
    unfold P_X7_greatestPartAlike_29
    refine sw_iload (z := q8) (pc' := 31) ok dX7_greatestPartAlike_29 rfl rfl ?_
    refine sw_bipush (v := 6) (pc' := 33) ok dX7_greatestPartAlike_31 rfl cc_bipush_6 ?_
    refine sw_icmp_ge (tgt := 68) (pc' := 36) ok dX7_greatestPartAlike_33 (by decide) rfl ?_ ?_
    · refine sw_fg (l' := [some (.ref p0), some (.int p1), some (.int p2), some (.int p3), some (.int p4), some (.int p5), some (.int q6), none, none]) [true, true, true, true, true, true, true, false, false] rfl ?_
      exact hk_68 q6
    refine sw_iload_n (z := p2) (pc' := 37) ok dX7_greatestPartAlike_36 rfl rfl ?_
    refine sw_iload (z := q8) (pc' := 39) ok dX7_greatestPartAlike_37 rfl rfl ?_
    refine sw_ishr (pc' := 40) ok dX7_greatestPartAlike_39 rfl ?_
    refine sw_iconst (v := 1) (pc' := 41) ok dX7_greatestPartAlike_40 rfl cc_iconst_1 ?_
    refine sw_iand (pc' := 42) ok dX7_greatestPartAlike_41 rfl ?_
    refine sw_iconst (v := 1) (pc' := 43) ok dX7_greatestPartAlike_42 rfl cc_iconst_1 ?_
    refine sw_jn (fun k8 : Int32 → PM Int32 => ∀ (j7 : Int32), SW Γ iI 62 [some (.ref p0), some (.int p1), some (.int p2), some (.int p3), some (.int p4), some (.int p5), some (.int j7), some (.int p7), some (.int q8)] [] (k8 j7)) ?_ (fun k8 hk8 => ?_)
    · intro j7
      refine sw_iinc (z := q8) (v := q8 + 1) (pc' := 65) (l' := [some (.ref p0), some (.int p1), some (.int p2), some (.int p3), some (.int p4), some (.int p5), some (.int j7), some (.int p7), some (.int (q8 + 1))]) ok dX7_greatestPartAlike_62 rfl rfl (by rw [cc_iconst_1]) rfl ?_
      refine sw_goto (tgt := 29) ok dX7_greatestPartAlike_65 (by decide) ?_
      exact ih j7 (q8 + 1)
    refine sw_icmp_ne (tgt := 62) (pc' := 46) ok dX7_greatestPartAlike_43 (by decide) rfl ?_ ?_
    · exact hk8 q6
    refine sw_aload_n (z := p0) (pc' := 47) ok dX7_greatestPartAlike_46 rfl rfl ?_
    refine sw_iload_n (z := p1) (pc' := 48) ok dX7_greatestPartAlike_47 rfl rfl ?_
    refine sw_iload (z := q8) (pc' := 50) ok dX7_greatestPartAlike_48 rfl rfl ?_
    refine sw_iload_n (z := p3) (pc' := 51) ok dX7_greatestPartAlike_50 rfl rfl ?_
    refine sw_cllV_I (st := []) (as := [.int p1, .int q8, .int p3]) (pc' := 54) ok (S_X7_toldAs p0 p1 q8 p3) (by decide) lk_X7_396 rfl dX7_greatestPartAlike_51 rfl (Nat.le_of_ble_eq_true rfl) rfl (fun v9 => ?_)
    refine sw_iload (z := p7) (pc' := 56) ok dX7_greatestPartAlike_54 rfl rfl ?_
    refine sw_icmp_ne (tgt := 62) (pc' := 59) ok dX7_greatestPartAlike_56 (by decide) rfl ?_ ?_
    · exact hk8 q6
    refine sw_iinc (z := q6) (v := q6 + 1) (pc' := 62) (l' := [some (.ref p0), some (.int p1), some (.int p2), some (.int p3), some (.int p4), some (.int p5), some (.int (q6 + 1)), some (.int p7), some (.int q8)]) ok dX7_greatestPartAlike_59 rfl rfl (by rw [cc_iconst_1]) rfl ?_
    exact hk8 (q6 + 1)
set_option maxHeartbeats 4000000 in
set_option maxRecDepth 100000 in
theorem W_X7_greatestPartAlike_6 {Γ : Cx} (ok : OKc Γ cX7_greatestPartAlike RX7 4 "greatestPartAlike") (okr : OKr Γ cX7_greatestPartAlike (some .int)) (p0 : Nat) (p1 : Int32) (p2 : Int32) (p3 : Int32) : ∀ (n : Nat) (q4 : Int32) (q5 : Int32), SW Γ iI 6 [some (.ref p0), some (.int p1), some (.int p2), some (.int p3), some (.int q4), some (.int q5), none, none, none] [] (P_X7_greatestPartAlike_6 p0 p1 p2 p3 n q4 q5) := by
  intro n
  induction n with
  | zero =>
    intros
    exact sw_fail
  | succ n ih =>
    intro q4 q5
    unfold P_X7_greatestPartAlike_6
    refine sw_iload (z := q5) (pc' := 8) ok dX7_greatestPartAlike_6 rfl rfl ?_
    refine sw_bipush (v := 6) (pc' := 10) ok dX7_greatestPartAlike_8 rfl cc_bipush_6 ?_
    refine sw_icmp_ge (tgt := 93) (pc' := 13) ok dX7_greatestPartAlike_10 (by decide) rfl ?_ ?_
    · refine sw_iload (z := q4) (pc' := 95) ok dX7_greatestPartAlike_93 rfl rfl ?_
      exact sw_ret ok okr dX7_greatestPartAlike_95 trivial rfl
    refine sw_iconst (v := 0) (pc' := 14) ok dX7_greatestPartAlike_13 rfl cc_iconst_0 ?_
    refine sw_istore (pc' := 16) (l' := [some (.ref p0), some (.int p1), some (.int p2), some (.int p3), some (.int q4), some (.int q5), some (.int 0), none, none]) ok dX7_greatestPartAlike_14 rfl (Nat.le_of_ble_eq_true rfl) rfl ?_
    refine sw_aload_n (z := p0) (pc' := 17) ok dX7_greatestPartAlike_16 rfl rfl ?_
    refine sw_iload_n (z := p1) (pc' := 18) ok dX7_greatestPartAlike_17 rfl rfl ?_
    refine sw_iload (z := q5) (pc' := 20) ok dX7_greatestPartAlike_18 rfl rfl ?_
    refine sw_iload_n (z := p3) (pc' := 21) ok dX7_greatestPartAlike_20 rfl rfl ?_
    refine sw_cllV_I (st := []) (as := [.int p1, .int q5, .int p3]) (pc' := 24) ok (S_X7_toldAs p0 p1 q5 p3) (by decide) lk_X7_396 rfl dX7_greatestPartAlike_21 rfl (Nat.le_of_ble_eq_true rfl) rfl (fun v1 => ?_)
    refine sw_istore (pc' := 26) (l' := [some (.ref p0), some (.int p1), some (.int p2), some (.int p3), some (.int q4), some (.int q5), some (.int 0), some (.int v1), none]) ok dX7_greatestPartAlike_24 rfl (Nat.le_of_ble_eq_true rfl) rfl ?_
    refine sw_iconst (v := 0) (pc' := 27) ok dX7_greatestPartAlike_26 rfl cc_iconst_0 ?_
    refine sw_istore (pc' := 29) (l' := [some (.ref p0), some (.int p1), some (.int p2), some (.int p3), some (.int q4), some (.int q5), some (.int 0), some (.int v1), some (.int 0)]) ok dX7_greatestPartAlike_27 rfl (Nat.le_of_ble_eq_true rfl) rfl ?_
    refine sw_jn (fun k6 : Int32 → PM Int32 => ∀ (e2 : Int32), SW Γ iI 68 [some (.ref p0), some (.int p1), some (.int p2), some (.int p3), some (.int q4), some (.int q5), some (.int e2), none, none] [] (k6 e2)) ?_ (fun k6 hk6 => ?_)
    · intro e2
      refine sw_iload_n (z := p2) (pc' := 69) ok dX7_greatestPartAlike_68 rfl rfl ?_
      refine sw_iload (z := q5) (pc' := 71) ok dX7_greatestPartAlike_69 rfl rfl ?_
      refine sw_ishr (pc' := 72) ok dX7_greatestPartAlike_71 rfl ?_
      refine sw_iconst (v := 1) (pc' := 73) ok dX7_greatestPartAlike_72 rfl cc_iconst_1 ?_
      refine sw_iand (pc' := 74) ok dX7_greatestPartAlike_73 rfl ?_
      refine sw_iconst (v := 1) (pc' := 75) ok dX7_greatestPartAlike_74 rfl cc_iconst_1 ?_
      refine sw_jn (fun k4 : Int32 → PM Int32 => ∀ (j3 : Int32), SW Γ iI 87 [some (.ref p0), some (.int p1), some (.int p2), some (.int p3), some (.int j3), some (.int q5), none, none, none] [] (k4 j3)) ?_ (fun k4 hk4 => ?_)
      · intro j3
        refine sw_iinc (z := q5) (v := q5 + 1) (pc' := 90) (l' := [some (.ref p0), some (.int p1), some (.int p2), some (.int p3), some (.int j3), some (.int (q5 + 1)), none, none, none]) ok dX7_greatestPartAlike_87 rfl rfl (by rw [cc_iconst_1]) rfl ?_
        refine sw_goto (tgt := 6) ok dX7_greatestPartAlike_90 (by decide) ?_
        exact ih j3 (q5 + 1)
      refine sw_icmp_ne (tgt := 87) (pc' := 78) ok dX7_greatestPartAlike_75 (by decide) rfl ?_ ?_
      · refine sw_fg (l' := [some (.ref p0), some (.int p1), some (.int p2), some (.int p3), some (.int q4), some (.int q5), none, none, none]) [true, true, true, true, true, true, false, false, false] rfl ?_
        exact hk4 q4
      refine sw_iload (z := q4) (pc' := 80) ok dX7_greatestPartAlike_78 rfl rfl ?_
      refine sw_iload (z := e2) (pc' := 82) ok dX7_greatestPartAlike_80 rfl rfl ?_
      refine sw_cll0_I (st := []) (as := [.int q4, .int e2]) (pc' := 85) ok (S_J9_max_7cf53 q4 e2) (by decide) lk_X7_176 rfl dX7_greatestPartAlike_82 rfl (Nat.le_of_ble_eq_true rfl) rfl (fun v5 => ?_)
      refine sw_istore (pc' := 87) (l' := [some (.ref p0), some (.int p1), some (.int p2), some (.int p3), some (.int v5), some (.int q5), some (.int e2), none, none]) ok dX7_greatestPartAlike_85 rfl (Nat.le_of_ble_eq_true rfl) rfl ?_
      refine sw_fg (l' := [some (.ref p0), some (.int p1), some (.int p2), some (.int p3), some (.int v5), some (.int q5), none, none, none]) [true, true, true, true, true, true, false, false, false] rfl ?_
      exact hk4 v5
    exact W_X7_greatestPartAlike_29 ok okr k6 p0 p1 p2 p3 q4 q5 v1 hk6 4000 0 0
set_option maxHeartbeats 4000000 in
set_option maxRecDepth 100000 in
theorem W_X7_greatestPartAlike {Γ : Cx} (ok : OKc Γ cX7_greatestPartAlike RX7 4 "greatestPartAlike") (okr : OKr Γ cX7_greatestPartAlike (some .int)) (a0 : Nat) (x1 : Int32) (x2 : Int32) (x3 : Int32) : SW Γ iI 0 [some (.ref a0), some (.int x1), some (.int x2), some (.int x3), none, none, none, none, none] [] (P_X7_greatestPartAlike a0 x1 x2 x3) := by
  unfold P_X7_greatestPartAlike
  refine sw_iconst (v := 0) (pc' := 1) ok dX7_greatestPartAlike_0 rfl cc_iconst_0 ?_
  refine sw_istore (pc' := 3) (l' := [some (.ref a0), some (.int x1), some (.int x2), some (.int x3), some (.int 0), none, none, none, none]) ok dX7_greatestPartAlike_1 rfl (Nat.le_of_ble_eq_true rfl) rfl ?_
  refine sw_iconst (v := 0) (pc' := 4) ok dX7_greatestPartAlike_3 rfl cc_iconst_0 ?_
  refine sw_istore (pc' := 6) (l' := [some (.ref a0), some (.int x1), some (.int x2), some (.int x3), some (.int 0), some (.int 0), none, none, none]) ok dX7_greatestPartAlike_4 rfl (Nat.le_of_ble_eq_true rfl) rfl ?_
  exact W_X7_greatestPartAlike_6 ok okr a0 x1 x2 x3 4000 0 0
theorem S_X7_greatestPartAlike (a0 : Nat) (x1 : Int32) (x2 : Int32) (x3 : Int32) : Sim 4 yX7_greatestPartAlike cX7_greatestPartAlike 9 (some .int) iI [.ref a0, .int x1, .int x2, .int x3] (P_X7_greatestPartAlike a0 x1 x2 x3) := Sim.intro wd_1040 (by decide) (by decide +kernel) (Nat.le_of_ble_eq_true rfl) (fun Γ ok okr => W_X7_greatestPartAlike ok okr a0 x1 x2 x3)
theorem dX7_test_0 : decode cX7_test 0 = .ok (.aload_n 0, 1) := by decide +kernel
theorem dX7_test_1 : decode cX7_test 1 = .ok (.iload_n 1, 1) := by decide +kernel
theorem dX7_test_2 : decode cX7_test 2 = .ok (.iload_n 2, 1) := by decide +kernel
theorem dX7_test_3 : decode cX7_test 3 = .ok (.invokevirtual 288, 3) := by decide +kernel
theorem dX7_test_6 : decode cX7_test 6 = .ok (.istore_n 3, 1) := by decide +kernel
theorem dX7_test_7 : decode cX7_test 7 = .ok (.iload_n 3, 1) := by decide +kernel
theorem dX7_test_8 : decode cX7_test 8 = .ok (.ifCond .ge 5, 3) := by decide +kernel
theorem dX7_test_11 : decode cX7_test 11 = .ok (.iload_n 3, 1) := by decide +kernel
theorem dX7_test_12 : decode cX7_test 12 = .ok (.ireturn, 1) := by decide +kernel
theorem dX7_test_13 : decode cX7_test 13 = .ok (.aload_n 0, 1) := by decide +kernel
theorem dX7_test_14 : decode cX7_test 14 = .ok (.iload_n 1, 1) := by decide +kernel
theorem dX7_test_15 : decode cX7_test 15 = .ok (.aload_n 0, 1) := by decide +kernel
theorem dX7_test_16 : decode cX7_test 16 = .ok (.getfield 11, 3) := by decide +kernel
theorem dX7_test_19 : decode cX7_test 19 = .ok (.iload_n 2, 1) := by decide +kernel
theorem dX7_test_20 : decode cX7_test 20 = .ok (.aaload, 1) := by decide +kernel
theorem dX7_test_21 : decode cX7_test 21 = .ok (.invokevirtual 298, 3) := by decide +kernel
theorem dX7_test_24 : decode cX7_test 24 = .ok (.istore 4, 2) := by decide +kernel
theorem dX7_test_26 : decode cX7_test 26 = .ok (.iload 4, 2) := by decide +kernel
theorem dX7_test_28 : decode cX7_test 28 = .ok (.ifCond .ne 6, 3) := by decide +kernel
theorem dX7_test_31 : decode cX7_test 31 = .ok (.bipush (-9), 2) := by decide +kernel
theorem dX7_test_33 : decode cX7_test 33 = .ok (.ireturn, 1) := by decide +kernel
theorem dX7_test_34 : decode cX7_test 34 = .ok (.iconst 0, 1) := by decide +kernel
theorem dX7_test_35 : decode cX7_test 35 = .ok (.istore 5, 2) := by decide +kernel
theorem dX7_test_37 : decode cX7_test 37 = .ok (.bipush 7, 2) := by decide +kernel
theorem dX7_test_39 : decode cX7_test 39 = .ok (.istore 6, 2) := by decide +kernel
theorem dX7_test_41 : decode cX7_test 41 = .ok (.iconst 0, 1) := by decide +kernel
theorem dX7_test_42 : decode cX7_test 42 = .ok (.istore 7, 2) := by decide +kernel
theorem dX7_test_44 : decode cX7_test 44 = .ok (.iload 7, 2) := by decide +kernel
theorem dX7_test_46 : decode cX7_test 46 = .ok (.bipush 12, 2) := by decide +kernel
theorem dX7_test_48 : decode cX7_test 48 = .ok (.if_icmp .ge 35, 3) := by decide +kernel
theorem dX7_test_51 : decode cX7_test 51 = .ok (.aload_n 0, 1) := by decide +kernel
theorem dX7_test_52 : decode cX7_test 52 = .ok (.iload_n 1, 1) := by decide +kernel
theorem dX7_test_53 : decode cX7_test 53 = .ok (.iload 4, 2) := by decide +kernel
theorem dX7_test_55 : decode cX7_test 55 = .ok (.iload 7, 2) := by decide +kernel
theorem dX7_test_57 : decode cX7_test 57 = .ok (.invokevirtual 302, 3) := by decide +kernel
theorem dX7_test_60 : decode cX7_test 60 = .ok (.istore 8, 2) := by decide +kernel
theorem dX7_test_62 : decode cX7_test 62 = .ok (.iload 8, 2) := by decide +kernel
theorem dX7_test_64 : decode cX7_test 64 = .ok (.iload 6, 2) := by decide +kernel
theorem dX7_test_66 : decode cX7_test 66 = .ok (.if_icmp .ge 11, 3) := by decide +kernel
theorem dX7_test_69 : decode cX7_test 69 = .ok (.iload 8, 2) := by decide +kernel
theorem dX7_test_71 : decode cX7_test 71 = .ok (.istore 6, 2) := by decide +kernel
theorem dX7_test_73 : decode cX7_test 73 = .ok (.iload 7, 2) := by decide +kernel
theorem dX7_test_75 : decode cX7_test 75 = .ok (.istore 5, 2) := by decide +kernel
theorem dX7_test_77 : decode cX7_test 77 = .ok (.iinc 7 1, 3) := by decide +kernel
theorem dX7_test_80 : decode cX7_test 80 = .ok (.goto (-36), 3) := by decide +kernel
theorem dX7_test_83 : decode cX7_test 83 = .ok (.aload_n 0, 1) := by decide +kernel
theorem dX7_test_84 : decode cX7_test 84 = .ok (.iload 6, 2) := by decide +kernel
theorem dX7_test_86 : decode cX7_test 86 = .ok (.invokevirtual 98, 3) := by decide +kernel
theorem dX7_test_89 : decode cX7_test 89 = .ok (.pop, 1) := by decide +kernel
theorem dX7_test_90 : decode cX7_test 90 = .ok (.iload 5, 2) := by decide +kernel
theorem dX7_test_92 : decode cX7_test 92 = .ok (.ireturn, 1) := by decide +kernel
def P_X7_test_44 (k_83 : Int32 → Int32 → PM Int32) (p0 : Nat) (p1 : Int32) (p4 : Int32) : Nat → Int32 → Int32 → Int32 → PM Int32
  | 0, _, _, _ => failM
  | n + 1, q5, q6, q7 =>
    ifB (decide (12 ≤ q7)) (
    k_83 q5 q6) (
    cllV 7 p0 (P_X7_greatestPartAlike p0 p1 p4 q7) fun v9 =>
    jn (fun (j10 : Int32) (j11 : Int32) =>
    P_X7_test_44 k_83 p0 p1 p4 n j10 j11 (q7 + 1)) fun k12 =>
    ifB (decide (q6 ≤ v9)) (
    k12 q5 q6) (
    k12 q7 v9))
def P_X7_test (a0 : Nat) (x1 : Int32) (x2 : Int32) : PM Int32 :=
cllV 7 a0 (P_X7_refuseTriples a0 x1 x2) fun v1 =>
ifB (decide (0 ≤ v1)) (
getR 7 0 a0 fun v2 =>
aldR v2 x2 fun v3 =>
cllV 7 a0 (P_X7_possibleKinds a0 x1 v3) fun v4 =>
ifB (decide (¬ v4 = 0)) (
jn (fun (e5 : Int32) (e6 : Int32) =>
cllV 7 a0 (P_X7_tellAsked a0 e6) fun v7 =>
pureM e5) fun k8 =>
P_X7_test_44 k8 a0 x1 v4 4000 0 7 0) (
pureM ((-9)))) (
pureM v1)
set_option maxHeartbeats 4000000 in
set_option maxRecDepth 100000 in
theorem W_X7_test_44 {Γ : Cx} (ok : OKc Γ cX7_test RX7 5 "test") (okr : OKr Γ cX7_test (some .int)) (k_83 : Int32 → Int32 → PM Int32) (p0 : Nat) (p1 : Int32) (p4 : Int32) (hk_83 : ∀ (y5 : Int32) (y6 : Int32), SW Γ iI 83 [some (.ref p0), none, none, none, none, some (.int y5), some (.int y6), none, none] [] (k_83 y5 y6)) : ∀ (n : Nat) (q5 : Int32) (q6 : Int32) (q7 : Int32), SW Γ iI 44 [some (.ref p0), some (.int p1), none, none, some (.int p4), some (.int q5), some (.int q6), some (.int q7), none] [] (P_X7_test_44 k_83 p0 p1 p4 n q5 q6 q7) := by
  intro n
  induction n with
  | zero =>
    intros
    exact sw_fail
  | succ n ih =>
    intro q5 q6 q7
    unfold P_X7_test_44
    refine sw_iload (z := q7) (pc' := 46) ok dX7_test_44 rfl rfl ?_
    refine sw_bipush (v := 12) (pc' := 48) ok dX7_test_46 rfl cc_bipush_12 ?_
    refine sw_icmp_ge (tgt := 83) (pc' := 51) ok dX7_test_48 (by decide) rfl ?_ ?_
    · refine sw_fg (l' := [some (.ref p0), none, none, none, none, some (.int q5), some (.int q6), none, none]) [true, false, false, false, false, true, true, false, false] rfl ?_
      exact hk_83 q5 q6
    refine sw_aload_n (z := p0) (pc' := 52) ok dX7_test_51 rfl rfl ?_
    refine sw_iload_n (z := p1) (pc' := 53) ok dX7_test_52 rfl rfl ?_
    refine sw_iload (z := p4) (pc' := 55) ok dX7_test_53 rfl rfl ?_
    refine sw_iload (z := q7) (pc' := 57) ok dX7_test_55 rfl rfl ?_
    refine sw_cllV_I (st := []) (as := [.int p1, .int p4, .int q7]) (pc' := 60) ok (S_X7_greatestPartAlike p0 p1 p4 q7) (by decide) lk_X7_302 rfl dX7_test_57 rfl (Nat.le_of_ble_eq_true rfl) rfl (fun v9 => ?_)
    refine sw_istore (pc' := 62) (l' := [some (.ref p0), some (.int p1), none, none, some (.int p4), some (.int q5), some (.int q6), some (.int q7), some (.int v9)]) ok dX7_test_60 rfl (Nat.le_of_ble_eq_true rfl) rfl ?_
    refine sw_iload (z := v9) (pc' := 64) ok dX7_test_62 rfl rfl ?_
    refine sw_iload (z := q6) (pc' := 66) ok dX7_test_64 rfl rfl ?_
    refine sw_jn (fun k12 : Int32 → Int32 → PM Int32 => ∀ (j10 : Int32) (j11 : Int32), SW Γ iI 77 [some (.ref p0), some (.int p1), none, none, some (.int p4), some (.int j10), some (.int j11), some (.int q7), none] [] (k12 j10 j11)) ?_ (fun k12 hk12 => ?_)
    · intro j10 j11
      refine sw_iinc (z := q7) (v := q7 + 1) (pc' := 80) (l' := [some (.ref p0), some (.int p1), none, none, some (.int p4), some (.int j10), some (.int j11), some (.int (q7 + 1)), none]) ok dX7_test_77 rfl rfl (by rw [cc_iconst_1]) rfl ?_
      refine sw_goto (tgt := 44) ok dX7_test_80 (by decide) ?_
      exact ih j10 j11 (q7 + 1)
    refine sw_icmp_ge (tgt := 77) (pc' := 69) ok dX7_test_66 (by decide) rfl ?_ ?_
    · refine sw_fg (l' := [some (.ref p0), some (.int p1), none, none, some (.int p4), some (.int q5), some (.int q6), some (.int q7), none]) [true, true, false, false, true, true, true, true, false] rfl ?_
      exact hk12 q5 q6
    refine sw_iload (z := v9) (pc' := 71) ok dX7_test_69 rfl rfl ?_
    refine sw_istore (pc' := 73) (l' := [some (.ref p0), some (.int p1), none, none, some (.int p4), some (.int q5), some (.int v9), some (.int q7), some (.int v9)]) ok dX7_test_71 rfl (Nat.le_of_ble_eq_true rfl) rfl ?_
    refine sw_iload (z := q7) (pc' := 75) ok dX7_test_73 rfl rfl ?_
    refine sw_istore (pc' := 77) (l' := [some (.ref p0), some (.int p1), none, none, some (.int p4), some (.int q7), some (.int v9), some (.int q7), some (.int v9)]) ok dX7_test_75 rfl (Nat.le_of_ble_eq_true rfl) rfl ?_
    refine sw_fg (l' := [some (.ref p0), some (.int p1), none, none, some (.int p4), some (.int q7), some (.int v9), some (.int q7), none]) [true, true, false, false, true, true, true, true, false] rfl ?_
    exact hk12 q7 v9
set_option maxHeartbeats 4000000 in
set_option maxRecDepth 100000 in
theorem W_X7_test {Γ : Cx} (ok : OKc Γ cX7_test RX7 5 "test") (okr : OKr Γ cX7_test (some .int)) (a0 : Nat) (x1 : Int32) (x2 : Int32) : SW Γ iI 0 [some (.ref a0), some (.int x1), some (.int x2), none, none, none, none, none, none] [] (P_X7_test a0 x1 x2) := by
  unfold P_X7_test
  refine sw_aload_n (z := a0) (pc' := 1) ok dX7_test_0 rfl rfl ?_
  refine sw_iload_n (z := x1) (pc' := 2) ok dX7_test_1 rfl rfl ?_
  refine sw_iload_n (z := x2) (pc' := 3) ok dX7_test_2 rfl rfl ?_
  refine sw_cllV_I (st := []) (as := [.int x1, .int x2]) (pc' := 6) ok (S_X7_refuseTriples a0 x1 x2) (by decide) lk_X7_288 rfl dX7_test_3 rfl (Nat.le_of_ble_eq_true rfl) rfl (fun v1 => ?_)
  refine sw_istore_n (pc' := 7) (l' := [some (.ref a0), some (.int x1), some (.int x2), some (.int v1), none, none, none, none, none]) ok dX7_test_6 rfl (Nat.le_of_ble_eq_true rfl) rfl ?_
  refine sw_iload_n (z := v1) (pc' := 8) ok dX7_test_7 rfl rfl ?_
  refine sw_if_ge (tgt := 13) (pc' := 11) ok dX7_test_8 (by decide) rfl ?_ ?_
  · refine sw_aload_n (z := a0) (pc' := 14) ok dX7_test_13 rfl rfl ?_
    refine sw_iload_n (z := x1) (pc' := 15) ok dX7_test_14 rfl rfl ?_
    refine sw_aload_n (z := a0) (pc' := 16) ok dX7_test_15 rfl rfl ?_
    refine sw_getR (pc' := 19) ok (fr_X7_11.g) dX7_test_16 rfl (fun v2 => ?_)
    refine sw_iload_n (z := x2) (pc' := 20) ok dX7_test_19 rfl rfl ?_
    refine sw_aldR (pc' := 21) ok dX7_test_20 rfl (fun v3 => ?_)
    refine sw_cllV_I (st := []) (as := [.int x1, .ref v3]) (pc' := 24) ok (S_X7_possibleKinds a0 x1 v3) (by decide) lk_X7_298 rfl dX7_test_21 rfl (Nat.le_of_ble_eq_true rfl) rfl (fun v4 => ?_)
    refine sw_istore (pc' := 26) (l' := [some (.ref a0), some (.int x1), some (.int x2), some (.int v1), some (.int v4), none, none, none, none]) ok dX7_test_24 rfl (Nat.le_of_ble_eq_true rfl) rfl ?_
    refine sw_iload (z := v4) (pc' := 28) ok dX7_test_26 rfl rfl ?_
    refine sw_if_ne (tgt := 34) (pc' := 31) ok dX7_test_28 (by decide) rfl ?_ ?_
    · refine sw_iconst (v := 0) (pc' := 35) ok dX7_test_34 rfl cc_iconst_0 ?_
      refine sw_istore (pc' := 37) (l' := [some (.ref a0), some (.int x1), some (.int x2), some (.int v1), some (.int v4), some (.int 0), none, none, none]) ok dX7_test_35 rfl (Nat.le_of_ble_eq_true rfl) rfl ?_
      refine sw_bipush (v := 7) (pc' := 39) ok dX7_test_37 rfl cc_bipush_7 ?_
      refine sw_istore (pc' := 41) (l' := [some (.ref a0), some (.int x1), some (.int x2), some (.int v1), some (.int v4), some (.int 0), some (.int 7), none, none]) ok dX7_test_39 rfl (Nat.le_of_ble_eq_true rfl) rfl ?_
      refine sw_iconst (v := 0) (pc' := 42) ok dX7_test_41 rfl cc_iconst_0 ?_
      refine sw_istore (pc' := 44) (l' := [some (.ref a0), some (.int x1), some (.int x2), some (.int v1), some (.int v4), some (.int 0), some (.int 7), some (.int 0), none]) ok dX7_test_42 rfl (Nat.le_of_ble_eq_true rfl) rfl ?_
      refine sw_jn (fun k8 : Int32 → Int32 → PM Int32 => ∀ (e5 : Int32) (e6 : Int32), SW Γ iI 83 [some (.ref a0), none, none, none, none, some (.int e5), some (.int e6), none, none] [] (k8 e5 e6)) ?_ (fun k8 hk8 => ?_)
      · intro e5 e6
        refine sw_aload_n (z := a0) (pc' := 84) ok dX7_test_83 rfl rfl ?_
        refine sw_iload (z := e6) (pc' := 86) ok dX7_test_84 rfl rfl ?_
        refine sw_cllV_I (st := []) (as := [.int e6]) (pc' := 89) ok (S_X7_tellAsked a0 e6) (by decide) lk_X7_98 rfl dX7_test_86 rfl (Nat.le_of_ble_eq_true rfl) rfl (fun v7 => ?_)
        refine sw_pop (pc' := 90) ok dX7_test_89 rfl rfl ?_
        refine sw_iload (z := e5) (pc' := 92) ok dX7_test_90 rfl rfl ?_
        exact sw_ret ok okr dX7_test_92 trivial rfl
      refine sw_fg (l' := [some (.ref a0), some (.int x1), none, none, some (.int v4), some (.int 0), some (.int 7), some (.int 0), none]) [true, true, false, false, true, true, true, true, false] rfl ?_
      exact W_X7_test_44 ok okr k8 a0 x1 v4 hk8 4000 0 7 0
    refine sw_bipush (v := (-9)) (pc' := 33) ok dX7_test_31 rfl cc_bipush_m9 ?_
    exact sw_ret ok okr dX7_test_33 trivial rfl
  refine sw_iload_n (z := v1) (pc' := 12) ok dX7_test_11 rfl rfl ?_
  exact sw_ret ok okr dX7_test_12 trivial rfl
theorem S_X7_test (a0 : Nat) (x1 : Int32) (x2 : Int32) : Sim 5 yX7_test cX7_test 9 (some .int) iI [.ref a0, .int x1, .int x2] (P_X7_test a0 x1 x2) := Sim.intro wd_1041 (by decide) (by decide +kernel) (Nat.le_of_ble_eq_true rfl) (fun Γ ok okr => W_X7_test ok okr a0 x1 x2)
theorem dX7_pairs_0 : decode cX7_pairs 0 = .ok (.iload_n 1, 1) := by decide +kernel
theorem dX7_pairs_1 : decode cX7_pairs 1 = .ok (.invokestatic 78, 3) := by decide +kernel
theorem dX7_pairs_4 : decode cX7_pairs 4 = .ok (.ifCond .ne 5, 3) := by decide +kernel
theorem dX7_pairs_7 : decode cX7_pairs 7 = .ok (.iconst (-1), 1) := by decide +kernel
theorem dX7_pairs_8 : decode cX7_pairs 8 = .ok (.ireturn, 1) := by decide +kernel
theorem dX7_pairs_9 : decode cX7_pairs 9 = .ok (.aload_n 0, 1) := by decide +kernel
theorem dX7_pairs_10 : decode cX7_pairs 10 = .ok (.getfield 27, 3) := by decide +kernel
theorem dX7_pairs_13 : decode cX7_pairs 13 = .ok (.invokevirtual 200, 3) := by decide +kernel
theorem dX7_pairs_16 : decode cX7_pairs 16 = .ok (.ifCond .eq 6, 3) := by decide +kernel
theorem dX7_pairs_19 : decode cX7_pairs 19 = .ok (.bipush (-4), 2) := by decide +kernel
theorem dX7_pairs_21 : decode cX7_pairs 21 = .ok (.ireturn, 1) := by decide +kernel
theorem dX7_pairs_22 : decode cX7_pairs 22 = .ok (.aload_n 0, 1) := by decide +kernel
theorem dX7_pairs_23 : decode cX7_pairs 23 = .ok (.getfield 53, 3) := by decide +kernel
theorem dX7_pairs_26 : decode cX7_pairs 26 = .ok (.aload_n 0, 1) := by decide +kernel
theorem dX7_pairs_27 : decode cX7_pairs 27 = .ok (.getfield 27, 3) := by decide +kernel
theorem dX7_pairs_30 : decode cX7_pairs 30 = .ok (.aload_n 0, 1) := by decide +kernel
theorem dX7_pairs_31 : decode cX7_pairs 31 = .ok (.getfield 39, 3) := by decide +kernel
theorem dX7_pairs_34 : decode cX7_pairs 34 = .ok (.getfield 156, 3) := by decide +kernel
theorem dX7_pairs_37 : decode cX7_pairs 37 = .ok (.invokevirtual 306, 3) := by decide +kernel
theorem dX7_pairs_40 : decode cX7_pairs 40 = .ok (.istore_n 2, 1) := by decide +kernel
theorem dX7_pairs_41 : decode cX7_pairs 41 = .ok (.aload_n 0, 1) := by decide +kernel
theorem dX7_pairs_42 : decode cX7_pairs 42 = .ok (.getfield 11, 3) := by decide +kernel
theorem dX7_pairs_45 : decode cX7_pairs 45 = .ok (.iload_n 1, 1) := by decide +kernel
theorem dX7_pairs_46 : decode cX7_pairs 46 = .ok (.aaload, 1) := by decide +kernel
theorem dX7_pairs_47 : decode cX7_pairs 47 = .ok (.aload_n 0, 1) := by decide +kernel
theorem dX7_pairs_48 : decode cX7_pairs 48 = .ok (.getfield 27, 3) := by decide +kernel
theorem dX7_pairs_51 : decode cX7_pairs 51 = .ok (.getfield 143, 3) := by decide +kernel
theorem dX7_pairs_54 : decode cX7_pairs 54 = .ok (.invokevirtual 86, 3) := by decide +kernel
theorem dX7_pairs_57 : decode cX7_pairs 57 = .ok (.iconst 0, 1) := by decide +kernel
theorem dX7_pairs_58 : decode cX7_pairs 58 = .ok (.istore_n 3, 1) := by decide +kernel
theorem dX7_pairs_59 : decode cX7_pairs 59 = .ok (.iload_n 3, 1) := by decide +kernel
theorem dX7_pairs_60 : decode cX7_pairs 60 = .ok (.aload_n 0, 1) := by decide +kernel
theorem dX7_pairs_61 : decode cX7_pairs 61 = .ok (.getfield 27, 3) := by decide +kernel
theorem dX7_pairs_64 : decode cX7_pairs 64 = .ok (.getfield 143, 3) := by decide +kernel
theorem dX7_pairs_67 : decode cX7_pairs 67 = .ok (.if_icmp .ge 29, 3) := by decide +kernel
theorem dX7_pairs_70 : decode cX7_pairs 70 = .ok (.aload_n 0, 1) := by decide +kernel
theorem dX7_pairs_71 : decode cX7_pairs 71 = .ok (.getfield 11, 3) := by decide +kernel
theorem dX7_pairs_74 : decode cX7_pairs 74 = .ok (.iload_n 1, 1) := by decide +kernel
theorem dX7_pairs_75 : decode cX7_pairs 75 = .ok (.aaload, 1) := by decide +kernel
theorem dX7_pairs_76 : decode cX7_pairs 76 = .ok (.iload_n 3, 1) := by decide +kernel
theorem dX7_pairs_77 : decode cX7_pairs 77 = .ok (.aload_n 0, 1) := by decide +kernel
theorem dX7_pairs_78 : decode cX7_pairs 78 = .ok (.getfield 53, 3) := by decide +kernel
theorem dX7_pairs_81 : decode cX7_pairs 81 = .ok (.getfield 310, 3) := by decide +kernel
theorem dX7_pairs_84 : decode cX7_pairs 84 = .ok (.iload_n 3, 1) := by decide +kernel
theorem dX7_pairs_85 : decode cX7_pairs 85 = .ok (.iaload, 1) := by decide +kernel
theorem dX7_pairs_86 : decode cX7_pairs 86 = .ok (.invokevirtual 94, 3) := by decide +kernel
theorem dX7_pairs_89 : decode cX7_pairs 89 = .ok (.pop, 1) := by decide +kernel
theorem dX7_pairs_90 : decode cX7_pairs 90 = .ok (.iinc 3 1, 3) := by decide +kernel
theorem dX7_pairs_93 : decode cX7_pairs 93 = .ok (.goto (-34), 3) := by decide +kernel
theorem dX7_pairs_96 : decode cX7_pairs 96 = .ok (.iload_n 2, 1) := by decide +kernel
theorem dX7_pairs_97 : decode cX7_pairs 97 = .ok (.ireturn, 1) := by decide +kernel
def P_X7_pairs_59 (p0 : Nat) (p1 : Int32) (p2 : Int32) : Nat → Int32 → PM Int32
  | 0, _ => failM
  | n + 1, q3 =>
    getR 7 3 p0 fun v13 =>
    getI 0 4 v13 fun v14 =>
    ifB (decide (v14 ≤ q3)) (
    pureM p2) (
    getR 7 0 p0 fun v15 =>
    aldR v15 p1 fun v16 =>
    getR 7 7 p0 fun v17 =>
    getR 2 1 v17 fun v18 =>
    ald v18 q3 fun v19 =>
    cllV 5 v16 (P_X5_swap v16 q3 v19) fun v20 =>
    P_X7_pairs_59 p0 p1 p2 n (q3 + 1))
def P_X7_pairs (a0 : Nat) (x1 : Int32) : PM Int32 :=
cll0 (P_X7_isRow x1) fun v1 =>
ifB (decide (¬ v1 = 0)) (
getR 7 3 a0 fun v2 =>
cllV 0 v2 (P_X0_isNobody v2) fun v3 =>
ifB (decide (v3 = 0)) (
getR 7 7 a0 fun v4 =>
getR 7 3 a0 fun v5 =>
getR 7 5 a0 fun v6 =>
getR 3 0 v6 fun v7 =>
cllV 2 v4 (P_X2_pairAll v4 v5 v7) fun v8 =>
getR 7 0 a0 fun v9 =>
aldR v9 x1 fun v10 =>
getR 7 3 a0 fun v11 =>
getI 0 4 v11 fun v12 =>
cllV 5 v10 (P_X5_begin v10 v12) fun _ =>
P_X7_pairs_59 a0 x1 v8 4000 0) (
pureM ((-4)))) (
pureM ((-1)))
set_option maxHeartbeats 4000000 in
set_option maxRecDepth 100000 in
theorem W_X7_pairs_59 {Γ : Cx} (ok : OKc Γ cX7_pairs RX7 16 "pairs") (okr : OKr Γ cX7_pairs (some .int)) (p0 : Nat) (p1 : Int32) (p2 : Int32) : ∀ (n : Nat) (q3 : Int32), SW Γ iI 59 [some (.ref p0), some (.int p1), some (.int p2), some (.int q3)] [] (P_X7_pairs_59 p0 p1 p2 n q3) := by
  intro n
  induction n with
  | zero =>
    intros
    exact sw_fail
  | succ n ih =>
    intro q3
    unfold P_X7_pairs_59
    refine sw_iload_n (z := q3) (pc' := 60) ok dX7_pairs_59 rfl rfl ?_
    refine sw_aload_n (z := p0) (pc' := 61) ok dX7_pairs_60 rfl rfl ?_
    refine sw_getR (pc' := 64) ok (fr_X7_27.g) dX7_pairs_61 rfl (fun v13 => ?_)
    refine sw_getI (pc' := 67) ok (fr_X7_143.g) dX7_pairs_64 rfl (fun v14 => ?_)
    refine sw_icmp_ge (tgt := 96) (pc' := 70) ok dX7_pairs_67 (by decide) rfl ?_ ?_
    · refine sw_iload_n (z := p2) (pc' := 97) ok dX7_pairs_96 rfl rfl ?_
      exact sw_ret ok okr dX7_pairs_97 trivial rfl
    refine sw_aload_n (z := p0) (pc' := 71) ok dX7_pairs_70 rfl rfl ?_
    refine sw_getR (pc' := 74) ok (fr_X7_11.g) dX7_pairs_71 rfl (fun v15 => ?_)
    refine sw_iload_n (z := p1) (pc' := 75) ok dX7_pairs_74 rfl rfl ?_
    refine sw_aldR (pc' := 76) ok dX7_pairs_75 rfl (fun v16 => ?_)
    refine sw_iload_n (z := q3) (pc' := 77) ok dX7_pairs_76 rfl rfl ?_
    refine sw_aload_n (z := p0) (pc' := 78) ok dX7_pairs_77 rfl rfl ?_
    refine sw_getR (pc' := 81) ok (fr_X7_53.g) dX7_pairs_78 rfl (fun v17 => ?_)
    refine sw_getR (pc' := 84) ok (fr_X7_310) dX7_pairs_81 rfl (fun v18 => ?_)
    refine sw_iload_n (z := q3) (pc' := 85) ok dX7_pairs_84 rfl rfl ?_
    refine sw_ald (pc' := 86) ok dX7_pairs_85 rfl (fun v19 => ?_)
    refine sw_cllV_I (st := []) (as := [.int q3, .int v19]) (pc' := 89) ok (S_X5_swap v16 q3 v19) (by decide) lk_X7_94 rfl dX7_pairs_86 rfl (Nat.le_of_ble_eq_true rfl) rfl (fun v20 => ?_)
    refine sw_pop (pc' := 90) ok dX7_pairs_89 rfl rfl ?_
    refine sw_iinc (z := q3) (v := q3 + 1) (pc' := 93) (l' := [some (.ref p0), some (.int p1), some (.int p2), some (.int (q3 + 1))]) ok dX7_pairs_90 rfl rfl (by rw [cc_iconst_1]) rfl ?_
    refine sw_goto (tgt := 59) ok dX7_pairs_93 (by decide) ?_
    exact ih (q3 + 1)
set_option maxHeartbeats 4000000 in
set_option maxRecDepth 100000 in
theorem W_X7_pairs {Γ : Cx} (ok : OKc Γ cX7_pairs RX7 16 "pairs") (okr : OKr Γ cX7_pairs (some .int)) (a0 : Nat) (x1 : Int32) : SW Γ iI 0 [some (.ref a0), some (.int x1), none, none] [] (P_X7_pairs a0 x1) := by
  unfold P_X7_pairs
  refine sw_iload_n (z := x1) (pc' := 1) ok dX7_pairs_0 rfl rfl ?_
  refine sw_cll0_I (st := []) (as := [.int x1]) (pc' := 4) ok (S_X7_isRow x1) (by decide) lk_X7_78 rfl dX7_pairs_1 rfl (Nat.le_of_ble_eq_true rfl) rfl (fun v1 => ?_)
  refine sw_if_ne (tgt := 9) (pc' := 7) ok dX7_pairs_4 (by decide) rfl ?_ ?_
  · refine sw_aload_n (z := a0) (pc' := 10) ok dX7_pairs_9 rfl rfl ?_
    refine sw_getR (pc' := 13) ok (fr_X7_27.g) dX7_pairs_10 rfl (fun v2 => ?_)
    refine sw_cllV_I (st := []) (as := []) (pc' := 16) ok (S_X0_isNobody v2) (by decide) lk_X7_200 rfl dX7_pairs_13 rfl (Nat.le_of_ble_eq_true rfl) rfl (fun v3 => ?_)
    refine sw_if_eq (tgt := 22) (pc' := 19) ok dX7_pairs_16 (by decide) rfl ?_ ?_
    · refine sw_aload_n (z := a0) (pc' := 23) ok dX7_pairs_22 rfl rfl ?_
      refine sw_getR (pc' := 26) ok (fr_X7_53.g) dX7_pairs_23 rfl (fun v4 => ?_)
      refine sw_aload_n (z := a0) (pc' := 27) ok dX7_pairs_26 rfl rfl ?_
      refine sw_getR (pc' := 30) ok (fr_X7_27.g) dX7_pairs_27 rfl (fun v5 => ?_)
      refine sw_aload_n (z := a0) (pc' := 31) ok dX7_pairs_30 rfl rfl ?_
      refine sw_getR (pc' := 34) ok (fr_X7_39.g) dX7_pairs_31 rfl (fun v6 => ?_)
      refine sw_getR (pc' := 37) ok (fr_X7_156) dX7_pairs_34 rfl (fun v7 => ?_)
      refine sw_cllV_I (st := []) (as := [.ref v5, .ref v7]) (pc' := 40) ok (S_X2_pairAll v4 v5 v7) (by decide) lk_X7_306 rfl dX7_pairs_37 rfl (Nat.le_of_ble_eq_true rfl) rfl (fun v8 => ?_)
      refine sw_istore_n (pc' := 41) (l' := [some (.ref a0), some (.int x1), some (.int v8), none]) ok dX7_pairs_40 rfl (Nat.le_of_ble_eq_true rfl) rfl ?_
      refine sw_aload_n (z := a0) (pc' := 42) ok dX7_pairs_41 rfl rfl ?_
      refine sw_getR (pc' := 45) ok (fr_X7_11.g) dX7_pairs_42 rfl (fun v9 => ?_)
      refine sw_iload_n (z := x1) (pc' := 46) ok dX7_pairs_45 rfl rfl ?_
      refine sw_aldR (pc' := 47) ok dX7_pairs_46 rfl (fun v10 => ?_)
      refine sw_aload_n (z := a0) (pc' := 48) ok dX7_pairs_47 rfl rfl ?_
      refine sw_getR (pc' := 51) ok (fr_X7_27.g) dX7_pairs_48 rfl (fun v11 => ?_)
      refine sw_getI (pc' := 54) ok (fr_X7_143.g) dX7_pairs_51 rfl (fun v12 => ?_)
      refine sw_cllV_U (st := []) (as := [.int v12]) (pc' := 57) ok (S_X5_begin v10 v12) (by decide) lk_X7_86 rfl dX7_pairs_54 rfl (Nat.le_of_ble_eq_true rfl) rfl (fun _ => ?_)
      refine sw_iconst (v := 0) (pc' := 58) ok dX7_pairs_57 rfl cc_iconst_0 ?_
      refine sw_istore_n (pc' := 59) (l' := [some (.ref a0), some (.int x1), some (.int v8), some (.int 0)]) ok dX7_pairs_58 rfl (Nat.le_of_ble_eq_true rfl) rfl ?_
      exact W_X7_pairs_59 ok okr a0 x1 v8 4000 0
    refine sw_bipush (v := (-4)) (pc' := 21) ok dX7_pairs_19 rfl cc_bipush_m4 ?_
    exact sw_ret ok okr dX7_pairs_21 trivial rfl
  refine sw_iconst (v := (-1)) (pc' := 8) ok dX7_pairs_7 rfl cc_iconst_m1 ?_
  exact sw_ret ok okr dX7_pairs_8 trivial rfl
theorem S_X7_pairs (a0 : Nat) (x1 : Int32) : Sim 16 yX7_pairs cX7_pairs 4 (some .int) iI [.ref a0, .int x1] (P_X7_pairs a0 x1) := Sim.intro wd_1042 (by decide) (by decide +kernel) (Nat.le_of_ble_eq_true rfl) (fun Γ ok okr => W_X7_pairs ok okr a0 x1)
theorem dX7_duel_0 : decode cX7_duel 0 = .ok (.iload_n 1, 1) := by decide +kernel
theorem dX7_duel_1 : decode cX7_duel 1 = .ok (.invokestatic 227, 3) := by decide +kernel
theorem dX7_duel_4 : decode cX7_duel 4 = .ok (.ifCond .ne 5, 3) := by decide +kernel
theorem dX7_duel_7 : decode cX7_duel 7 = .ok (.iconst (-1), 1) := by decide +kernel
theorem dX7_duel_8 : decode cX7_duel 8 = .ok (.ireturn, 1) := by decide +kernel
theorem dX7_duel_9 : decode cX7_duel 9 = .ok (.aload_n 0, 1) := by decide +kernel
theorem dX7_duel_10 : decode cX7_duel 10 = .ok (.getfield 27, 3) := by decide +kernel
theorem dX7_duel_13 : decode cX7_duel 13 = .ok (.invokevirtual 200, 3) := by decide +kernel
theorem dX7_duel_16 : decode cX7_duel 16 = .ok (.ifCond .eq 8, 3) := by decide +kernel
theorem dX7_duel_19 : decode cX7_duel 19 = .ok (.bipush (-4), 2) := by decide +kernel
theorem dX7_duel_21 : decode cX7_duel 21 = .ok (.goto 22, 3) := by decide +kernel
theorem dX7_duel_24 : decode cX7_duel 24 = .ok (.aload_n 0, 1) := by decide +kernel
theorem dX7_duel_25 : decode cX7_duel 25 = .ok (.getfield 46, 3) := by decide +kernel
theorem dX7_duel_28 : decode cX7_duel 28 = .ok (.aload_n 0, 1) := by decide +kernel
theorem dX7_duel_29 : decode cX7_duel 29 = .ok (.getfield 27, 3) := by decide +kernel
theorem dX7_duel_32 : decode cX7_duel 32 = .ok (.aload_n 0, 1) := by decide +kernel
theorem dX7_duel_33 : decode cX7_duel 33 = .ok (.getfield 39, 3) := by decide +kernel
theorem dX7_duel_36 : decode cX7_duel 36 = .ok (.getfield 156, 3) := by decide +kernel
theorem dX7_duel_39 : decode cX7_duel 39 = .ok (.iload_n 1, 1) := by decide +kernel
theorem dX7_duel_40 : decode cX7_duel 40 = .ok (.invokevirtual 313, 3) := by decide +kernel
theorem dX7_duel_43 : decode cX7_duel 43 = .ok (.ireturn, 1) := by decide +kernel
def P_X7_duel (a0 : Nat) (x1 : Int32) : PM Int32 :=
cll0 (P_X7_isTurns x1) fun v1 =>
ifB (decide (¬ v1 = 0)) (
getR 7 3 a0 fun v2 =>
cllV 0 v2 (P_X0_isNobody v2) fun v3 =>
ifB (decide (v3 = 0)) (
getR 7 6 a0 fun v4 =>
getR 7 3 a0 fun v5 =>
getR 7 5 a0 fun v6 =>
getR 3 0 v6 fun v7 =>
cllV 6 v4 (P_X6_byTurns v4 v5 v7 x1) fun v8 =>
pureM v8) (
pureM ((-4)))) (
pureM ((-1)))
set_option maxHeartbeats 4000000 in
set_option maxRecDepth 100000 in
theorem W_X7_duel {Γ : Cx} (ok : OKc Γ cX7_duel RX7 16 "duel") (okr : OKr Γ cX7_duel (some .int)) (a0 : Nat) (x1 : Int32) : SW Γ iI 0 [some (.ref a0), some (.int x1)] [] (P_X7_duel a0 x1) := by
  unfold P_X7_duel
  refine sw_iload_n (z := x1) (pc' := 1) ok dX7_duel_0 rfl rfl ?_
  refine sw_cll0_I (st := []) (as := [.int x1]) (pc' := 4) ok (S_X7_isTurns x1) (by decide) lk_X7_227 rfl dX7_duel_1 rfl (Nat.le_of_ble_eq_true rfl) rfl (fun v1 => ?_)
  refine sw_if_ne (tgt := 9) (pc' := 7) ok dX7_duel_4 (by decide) rfl ?_ ?_
  · refine sw_aload_n (z := a0) (pc' := 10) ok dX7_duel_9 rfl rfl ?_
    refine sw_getR (pc' := 13) ok (fr_X7_27.g) dX7_duel_10 rfl (fun v2 => ?_)
    refine sw_cllV_I (st := []) (as := []) (pc' := 16) ok (S_X0_isNobody v2) (by decide) lk_X7_200 rfl dX7_duel_13 rfl (Nat.le_of_ble_eq_true rfl) rfl (fun v3 => ?_)
    refine sw_if_eq (tgt := 24) (pc' := 19) ok dX7_duel_16 (by decide) rfl ?_ ?_
    · refine sw_aload_n (z := a0) (pc' := 25) ok dX7_duel_24 rfl rfl ?_
      refine sw_getR (pc' := 28) ok (fr_X7_46.g) dX7_duel_25 rfl (fun v4 => ?_)
      refine sw_aload_n (z := a0) (pc' := 29) ok dX7_duel_28 rfl rfl ?_
      refine sw_getR (pc' := 32) ok (fr_X7_27.g) dX7_duel_29 rfl (fun v5 => ?_)
      refine sw_aload_n (z := a0) (pc' := 33) ok dX7_duel_32 rfl rfl ?_
      refine sw_getR (pc' := 36) ok (fr_X7_39.g) dX7_duel_33 rfl (fun v6 => ?_)
      refine sw_getR (pc' := 39) ok (fr_X7_156) dX7_duel_36 rfl (fun v7 => ?_)
      refine sw_iload_n (z := x1) (pc' := 40) ok dX7_duel_39 rfl rfl ?_
      refine sw_cllV_I (st := []) (as := [.ref v5, .ref v7, .int x1]) (pc' := 43) ok (S_X6_byTurns v4 v5 v7 x1) (by decide) lk_X7_313 rfl dX7_duel_40 rfl (Nat.le_of_ble_eq_true rfl) rfl (fun v8 => ?_)
      exact sw_ret ok okr dX7_duel_43 trivial rfl
    refine sw_bipush (v := (-4)) (pc' := 21) ok dX7_duel_19 rfl cc_bipush_m4 ?_
    refine sw_goto (tgt := 43) ok dX7_duel_21 (by decide) ?_
    exact sw_ret ok okr dX7_duel_43 trivial rfl
  refine sw_iconst (v := (-1)) (pc' := 8) ok dX7_duel_7 rfl cc_iconst_m1 ?_
  exact sw_ret ok okr dX7_duel_8 trivial rfl
theorem S_X7_duel (a0 : Nat) (x1 : Int32) : Sim 16 yX7_duel cX7_duel 2 (some .int) iI [.ref a0, .int x1] (P_X7_duel a0 x1) := Sim.intro wd_1043 (by decide) (by decide +kernel) (Nat.le_of_ble_eq_true rfl) (fun Γ ok okr => W_X7_duel ok okr a0 x1)
theorem dX7_isPart_0 : decode cX7_isPart 0 = .ok (.iload_n 0, 1) := by decide +kernel
theorem dX7_isPart_1 : decode cX7_isPart 1 = .ok (.ifCond .lt 13, 3) := by decide +kernel
theorem dX7_isPart_4 : decode cX7_isPart 4 = .ok (.iload_n 0, 1) := by decide +kernel
theorem dX7_isPart_5 : decode cX7_isPart 5 = .ok (.bipush 12, 2) := by decide +kernel
theorem dX7_isPart_7 : decode cX7_isPart 7 = .ok (.if_icmp .gt 7, 3) := by decide +kernel
theorem dX7_isPart_10 : decode cX7_isPart 10 = .ok (.iconst 1, 1) := by decide +kernel
theorem dX7_isPart_11 : decode cX7_isPart 11 = .ok (.goto 4, 3) := by decide +kernel
theorem dX7_isPart_14 : decode cX7_isPart 14 = .ok (.iconst 0, 1) := by decide +kernel
theorem dX7_isPart_15 : decode cX7_isPart 15 = .ok (.ireturn, 1) := by decide +kernel
def P_X7_isPart (x0 : Int32) : PM Int32 :=
jn (
retZ 0) fun k1 =>
ifB (decide (x0 < 0)) (
k1) (
ifB (decide (12 < x0)) (
k1) (
retZ 1))
set_option maxHeartbeats 4000000 in
set_option maxRecDepth 100000 in
theorem W_X7_isPart {Γ : Cx} (ok : OKc Γ cX7_isPart RX7 0 "isPart") (okr : OKr Γ cX7_isPart (some .boolean)) (x0 : Int32) : SW Γ iI 0 [some (.int x0)] [] (P_X7_isPart x0) := by
  unfold P_X7_isPart
  refine sw_iload_n (z := x0) (pc' := 1) ok dX7_isPart_0 rfl rfl ?_
  refine sw_jn (fun k1 : PM Int32 => SW Γ iI 14 [none] [] (k1)) ?_ (fun k1 hk1 => ?_)
  · refine sw_iconst (v := 0) (pc' := 15) ok dX7_isPart_14 rfl cc_iconst_0 ?_
    exact sw_retZ ok okr dX7_isPart_15
  refine sw_if_lt (tgt := 14) (pc' := 4) ok dX7_isPart_1 (by decide) rfl ?_ ?_
  · refine sw_fg (l' := [none]) [false] rfl ?_
    exact hk1
  refine sw_iload_n (z := x0) (pc' := 5) ok dX7_isPart_4 rfl rfl ?_
  refine sw_bipush (v := 12) (pc' := 7) ok dX7_isPart_5 rfl cc_bipush_12 ?_
  refine sw_icmp_gt (tgt := 14) (pc' := 10) ok dX7_isPart_7 (by decide) rfl ?_ ?_
  · refine sw_fg (l' := [none]) [false] rfl ?_
    exact hk1
  refine sw_iconst (v := 1) (pc' := 11) ok dX7_isPart_10 rfl cc_iconst_1 ?_
  refine sw_goto (tgt := 15) ok dX7_isPart_11 (by decide) ?_
  exact sw_retZ ok okr dX7_isPart_15
theorem S_X7_isPart (x0 : Int32) : Sim 0 yX7_isPart cX7_isPart 1 (some .boolean) iI [.int x0] (P_X7_isPart x0) := Sim.intro wd_1044 (by decide) (by decide +kernel) (Nat.le_of_ble_eq_true rfl) (fun Γ ok okr => W_X7_isPart ok okr x0)
theorem dX7_sleepWeight_0 : decode cX7_sleepWeight 0 = .ok (.iload_n 0, 1) := by decide +kernel
theorem dX7_sleepWeight_1 : decode cX7_sleepWeight 1 = .ok (.iconst 1, 1) := by decide +kernel
theorem dX7_sleepWeight_2 : decode cX7_sleepWeight 2 = .ok (.iand, 1) := by decide +kernel
theorem dX7_sleepWeight_3 : decode cX7_sleepWeight 3 = .ok (.ifCond .ne 7, 3) := by decide +kernel
theorem dX7_sleepWeight_6 : decode cX7_sleepWeight 6 = .ok (.iload_n 1, 1) := by decide +kernel
theorem dX7_sleepWeight_7 : decode cX7_sleepWeight 7 = .ok (.goto 7, 3) := by decide +kernel
theorem dX7_sleepWeight_10 : decode cX7_sleepWeight 10 = .ok (.bipush 12, 2) := by decide +kernel
theorem dX7_sleepWeight_12 : decode cX7_sleepWeight 12 = .ok (.iload_n 1, 1) := by decide +kernel
theorem dX7_sleepWeight_13 : decode cX7_sleepWeight 13 = .ok (.isub, 1) := by decide +kernel
theorem dX7_sleepWeight_14 : decode cX7_sleepWeight 14 = .ok (.istore_n 2, 1) := by decide +kernel
theorem dX7_sleepWeight_15 : decode cX7_sleepWeight 15 = .ok (.iload_n 0, 1) := by decide +kernel
theorem dX7_sleepWeight_16 : decode cX7_sleepWeight 16 = .ok (.iconst 2, 1) := by decide +kernel
theorem dX7_sleepWeight_17 : decode cX7_sleepWeight 17 = .ok (.iand, 1) := by decide +kernel
theorem dX7_sleepWeight_18 : decode cX7_sleepWeight 18 = .ok (.ifCond .ne 7, 3) := by decide +kernel
theorem dX7_sleepWeight_21 : decode cX7_sleepWeight 21 = .ok (.iload_n 1, 1) := by decide +kernel
theorem dX7_sleepWeight_22 : decode cX7_sleepWeight 22 = .ok (.goto 7, 3) := by decide +kernel
theorem dX7_sleepWeight_25 : decode cX7_sleepWeight 25 = .ok (.bipush 12, 2) := by decide +kernel
theorem dX7_sleepWeight_27 : decode cX7_sleepWeight 27 = .ok (.iload_n 1, 1) := by decide +kernel
theorem dX7_sleepWeight_28 : decode cX7_sleepWeight 28 = .ok (.isub, 1) := by decide +kernel
theorem dX7_sleepWeight_29 : decode cX7_sleepWeight 29 = .ok (.istore_n 3, 1) := by decide +kernel
theorem dX7_sleepWeight_30 : decode cX7_sleepWeight 30 = .ok (.iload_n 2, 1) := by decide +kernel
theorem dX7_sleepWeight_31 : decode cX7_sleepWeight 31 = .ok (.iload_n 3, 1) := by decide +kernel
theorem dX7_sleepWeight_32 : decode cX7_sleepWeight 32 = .ok (.imul, 1) := by decide +kernel
theorem dX7_sleepWeight_33 : decode cX7_sleepWeight 33 = .ok (.ireturn, 1) := by decide +kernel
def P_X7_sleepWeight (x0 : Int32) (x1 : Int32) : PM Int32 :=
jn (fun (j1 : Int32) =>
jn (fun (j2 : Int32) =>
pureM (j1 * j2)) fun k3 =>
ifB (decide (¬ (x0 &&& 2) = 0)) (
k3 (12 - x1)) (
k3 x1)) fun k4 =>
ifB (decide (¬ (x0 &&& 1) = 0)) (
k4 (12 - x1)) (
k4 x1)
set_option maxHeartbeats 4000000 in
set_option maxRecDepth 100000 in
theorem W_X7_sleepWeight {Γ : Cx} (ok : OKc Γ cX7_sleepWeight RX7 0 "sleepWeight") (okr : OKr Γ cX7_sleepWeight (some .int)) (x0 : Int32) (x1 : Int32) : SW Γ iI 0 [some (.int x0), some (.int x1), none, none] [] (P_X7_sleepWeight x0 x1) := by
  unfold P_X7_sleepWeight
  refine sw_iload_n (z := x0) (pc' := 1) ok dX7_sleepWeight_0 rfl rfl ?_
  refine sw_iconst (v := 1) (pc' := 2) ok dX7_sleepWeight_1 rfl cc_iconst_1 ?_
  refine sw_iand (pc' := 3) ok dX7_sleepWeight_2 rfl ?_
  refine sw_jn (fun k4 : Int32 → PM Int32 => ∀ (j1 : Int32), SW Γ iI 14 [some (.int x0), some (.int x1), none, none] [.int j1] (k4 j1)) ?_ (fun k4 hk4 => ?_)
  · intro j1
    refine sw_istore_n (pc' := 15) (l' := [some (.int x0), some (.int x1), some (.int j1), none]) ok dX7_sleepWeight_14 rfl (Nat.le_of_ble_eq_true rfl) rfl ?_
    refine sw_iload_n (z := x0) (pc' := 16) ok dX7_sleepWeight_15 rfl rfl ?_
    refine sw_iconst (v := 2) (pc' := 17) ok dX7_sleepWeight_16 rfl cc_iconst_2 ?_
    refine sw_iand (pc' := 18) ok dX7_sleepWeight_17 rfl ?_
    refine sw_jn (fun k3 : Int32 → PM Int32 => ∀ (j2 : Int32), SW Γ iI 29 [none, none, some (.int j1), none] [.int j2] (k3 j2)) ?_ (fun k3 hk3 => ?_)
    · intro j2
      refine sw_istore_n (pc' := 30) (l' := [none, none, some (.int j1), some (.int j2)]) ok dX7_sleepWeight_29 rfl (Nat.le_of_ble_eq_true rfl) rfl ?_
      refine sw_iload_n (z := j1) (pc' := 31) ok dX7_sleepWeight_30 rfl rfl ?_
      refine sw_iload_n (z := j2) (pc' := 32) ok dX7_sleepWeight_31 rfl rfl ?_
      refine sw_imul (pc' := 33) ok dX7_sleepWeight_32 rfl ?_
      exact sw_ret ok okr dX7_sleepWeight_33 trivial rfl
    refine sw_if_ne (tgt := 25) (pc' := 21) ok dX7_sleepWeight_18 (by decide) rfl ?_ ?_
    · refine sw_bipush (v := 12) (pc' := 27) ok dX7_sleepWeight_25 rfl cc_bipush_12 ?_
      refine sw_iload_n (z := x1) (pc' := 28) ok dX7_sleepWeight_27 rfl rfl ?_
      refine sw_isub (pc' := 29) ok dX7_sleepWeight_28 rfl ?_
      refine sw_fg (l' := [none, none, some (.int j1), none]) [false, false, true, false] rfl ?_
      exact hk3 (12 - x1)
    refine sw_iload_n (z := x1) (pc' := 22) ok dX7_sleepWeight_21 rfl rfl ?_
    refine sw_goto (tgt := 29) ok dX7_sleepWeight_22 (by decide) ?_
    refine sw_fg (l' := [none, none, some (.int j1), none]) [false, false, true, false] rfl ?_
    exact hk3 x1
  refine sw_if_ne (tgt := 10) (pc' := 6) ok dX7_sleepWeight_3 (by decide) rfl ?_ ?_
  · refine sw_bipush (v := 12) (pc' := 12) ok dX7_sleepWeight_10 rfl cc_bipush_12 ?_
    refine sw_iload_n (z := x1) (pc' := 13) ok dX7_sleepWeight_12 rfl rfl ?_
    refine sw_isub (pc' := 14) ok dX7_sleepWeight_13 rfl ?_
    exact hk4 (12 - x1)
  refine sw_iload_n (z := x1) (pc' := 7) ok dX7_sleepWeight_6 rfl rfl ?_
  refine sw_goto (tgt := 14) ok dX7_sleepWeight_7 (by decide) ?_
  exact hk4 x1
theorem S_X7_sleepWeight (x0 : Int32) (x1 : Int32) : Sim 0 yX7_sleepWeight cX7_sleepWeight 4 (some .int) iI [.int x0, .int x1] (P_X7_sleepWeight x0 x1) := Sim.intro wd_1045 (by decide) (by decide +kernel) (Nat.le_of_ble_eq_true rfl) (fun Γ ok okr => W_X7_sleepWeight ok okr x0 x1)
theorem dX7_odds_0 : decode cX7_odds 0 = .ok (.aload_n 0, 1) := by decide +kernel
theorem dX7_odds_1 : decode cX7_odds 1 = .ok (.getfield 27, 3) := by decide +kernel
theorem dX7_odds_4 : decode cX7_odds 4 = .ok (.iload_n 1, 1) := by decide +kernel
theorem dX7_odds_5 : decode cX7_odds 5 = .ok (.iload_n 2, 1) := by decide +kernel
theorem dX7_odds_6 : decode cX7_odds 6 = .ok (.invokevirtual 184, 3) := by decide +kernel
theorem dX7_odds_9 : decode cX7_odds 9 = .ok (.ifCond .eq 18, 3) := by decide +kernel
theorem dX7_odds_12 : decode cX7_odds 12 = .ok (.iload_n 3, 1) := by decide +kernel
theorem dX7_odds_13 : decode cX7_odds 13 = .ok (.invokestatic 197, 3) := by decide +kernel
theorem dX7_odds_16 : decode cX7_odds 16 = .ok (.ifCond .eq 11, 3) := by decide +kernel
theorem dX7_odds_19 : decode cX7_odds 19 = .ok (.iload 4, 2) := by decide +kernel
theorem dX7_odds_21 : decode cX7_odds 21 = .ok (.invokestatic 316, 3) := by decide +kernel
theorem dX7_odds_24 : decode cX7_odds 24 = .ok (.ifCond .ne 5, 3) := by decide +kernel
theorem dX7_odds_27 : decode cX7_odds 27 = .ok (.iconst (-1), 1) := by decide +kernel
theorem dX7_odds_28 : decode cX7_odds 28 = .ok (.ireturn, 1) := by decide +kernel
theorem dX7_odds_29 : decode cX7_odds 29 = .ok (.lconst 0, 1) := by decide +kernel
theorem dX7_odds_30 : decode cX7_odds 30 = .ok (.lstore 5, 2) := by decide +kernel
theorem dX7_odds_32 : decode cX7_odds 32 = .ok (.iconst 0, 1) := by decide +kernel
theorem dX7_odds_33 : decode cX7_odds 33 = .ok (.istore 7, 2) := by decide +kernel
theorem dX7_odds_35 : decode cX7_odds 35 = .ok (.iload 7, 2) := by decide +kernel
theorem dX7_odds_37 : decode cX7_odds 37 = .ok (.iconst 4, 1) := by decide +kernel
theorem dX7_odds_38 : decode cX7_odds 38 = .ok (.if_icmp .ge 44, 3) := by decide +kernel
theorem dX7_odds_41 : decode cX7_odds 41 = .ok (.aload_n 0, 1) := by decide +kernel
theorem dX7_odds_42 : decode cX7_odds 42 = .ok (.getfield 39, 3) := by decide +kernel
theorem dX7_odds_45 : decode cX7_odds 45 = .ok (.getfield 156, 3) := by decide +kernel
theorem dX7_odds_48 : decode cX7_odds 48 = .ok (.aload_n 0, 1) := by decide +kernel
theorem dX7_odds_49 : decode cX7_odds 49 = .ok (.getfield 27, 3) := by decide +kernel
theorem dX7_odds_52 : decode cX7_odds 52 = .ok (.iload_n 1, 1) := by decide +kernel
theorem dX7_odds_53 : decode cX7_odds 53 = .ok (.iload_n 2, 1) := by decide +kernel
theorem dX7_odds_54 : decode cX7_odds 54 = .ok (.iload 7, 2) := by decide +kernel
theorem dX7_odds_56 : decode cX7_odds 56 = .ok (.invokevirtual 319, 3) := by decide +kernel
theorem dX7_odds_59 : decode cX7_odds 59 = .ok (.iload_n 3, 1) := by decide +kernel
theorem dX7_odds_60 : decode cX7_odds 60 = .ok (.if_icmp .lt 16, 3) := by decide +kernel
theorem dX7_odds_63 : decode cX7_odds 63 = .ok (.lload 5, 2) := by decide +kernel
theorem dX7_odds_65 : decode cX7_odds 65 = .ok (.iload 7, 2) := by decide +kernel
theorem dX7_odds_67 : decode cX7_odds 67 = .ok (.iload 4, 2) := by decide +kernel
theorem dX7_odds_69 : decode cX7_odds 69 = .ok (.invokestatic 323, 3) := by decide +kernel
theorem dX7_odds_72 : decode cX7_odds 72 = .ok (.i2l, 1) := by decide +kernel
theorem dX7_odds_73 : decode cX7_odds 73 = .ok (.ladd, 1) := by decide +kernel
theorem dX7_odds_74 : decode cX7_odds 74 = .ok (.lstore 5, 2) := by decide +kernel
theorem dX7_odds_76 : decode cX7_odds 76 = .ok (.iinc 7 1, 3) := by decide +kernel
theorem dX7_odds_79 : decode cX7_odds 79 = .ok (.goto (-44), 3) := by decide +kernel
theorem dX7_odds_82 : decode cX7_odds 82 = .ok (.aload_n 0, 1) := by decide +kernel
theorem dX7_odds_83 : decode cX7_odds 83 = .ok (.lload 5, 2) := by decide +kernel
theorem dX7_odds_85 : decode cX7_odds 85 = .ok (.ldc2_w 326, 3) := by decide +kernel
theorem dX7_odds_88 : decode cX7_odds 88 = .ok (.invokevirtual 272, 3) := by decide +kernel
theorem dX7_odds_91 : decode cX7_odds 91 = .ok (.ireturn, 1) := by decide +kernel
def P_X7_odds_35 (k_82 : Int64 → PM Int32) (p0 : Nat) (p1 : Int32) (p2 : Int32) (p3 : Int32) (p4 : Int32) : Nat → Int64 → Int32 → PM Int32
  | 0, _, _ => failM
  | n + 1, q5, q7 =>
    ifB (decide (4 ≤ q7)) (
    k_82 q5) (
    getR 7 5 p0 fun v8 =>
    getR 3 0 v8 fun v9 =>
    getR 7 3 p0 fun v10 =>
    cllV 1 v9 (P_X1_behindHalfAsleep v9 v10 p1 p2 q7) fun v11 =>
    jn (fun (j12 : Int64) =>
    P_X7_odds_35 k_82 p0 p1 p2 p3 p4 n j12 (q7 + 1)) fun k13 =>
    ifB (decide (v11 < p3)) (
    k13 q5) (
    cll0 (P_X7_sleepWeight q7 p4) fun v14 =>
    k13 (q5 + (Int32.toInt64 v14))))
def P_X7_odds (a0 : Nat) (x1 : Int32) (x2 : Int32) (x3 : Int32) (x4 : Int32) : PM Int32 :=
getR 7 3 a0 fun v1 =>
cllV 0 v1 (P_X0_isPair v1 x1 x2) fun v2 =>
ifB (decide (v2 = 0)) (
pureM ((-1))) (
cll0 (P_X7_isStrength x3) fun v3 =>
ifB (decide (v3 = 0)) (
pureM ((-1))) (
cll0 (P_X7_isPart x4) fun v4 =>
ifB (decide (¬ v4 = 0)) (
jn (fun (e5 : Int64) =>
cllV 7 a0 (P_X7_tellShare a0 e5 144) fun v6 =>
pureM v6) fun k7 =>
P_X7_odds_35 k7 a0 x1 x2 x3 x4 4000 0 0) (
pureM ((-1)))))
set_option maxHeartbeats 4000000 in
set_option maxRecDepth 100000 in
theorem W_X7_odds_35 {Γ : Cx} (ok : OKc Γ cX7_odds RX7 5 "odds") (okr : OKr Γ cX7_odds (some .int)) (k_82 : Int64 → PM Int32) (p0 : Nat) (p1 : Int32) (p2 : Int32) (p3 : Int32) (p4 : Int32) (hk_82 : ∀ (y5 : Int64), SW Γ iI 82 [some (.ref p0), none, none, none, none, some (.long y5), none, none] [] (k_82 y5)) : ∀ (n : Nat) (q5 : Int64) (q7 : Int32), SW Γ iI 35 [some (.ref p0), some (.int p1), some (.int p2), some (.int p3), some (.int p4), some (.long q5), none, some (.int q7)] [] (P_X7_odds_35 k_82 p0 p1 p2 p3 p4 n q5 q7) := by
  intro n
  induction n with
  | zero =>
    intros
    exact sw_fail
  | succ n ih =>
    intro q5 q7
    unfold P_X7_odds_35
    refine sw_iload (z := q7) (pc' := 37) ok dX7_odds_35 rfl rfl ?_
    refine sw_iconst (v := 4) (pc' := 38) ok dX7_odds_37 rfl cc_iconst_4 ?_
    refine sw_icmp_ge (tgt := 82) (pc' := 41) ok dX7_odds_38 (by decide) rfl ?_ ?_
    · refine sw_fg (l' := [some (.ref p0), none, none, none, none, some (.long q5), none, none]) [true, false, false, false, false, true, false, false] rfl ?_
      exact hk_82 q5
    refine sw_aload_n (z := p0) (pc' := 42) ok dX7_odds_41 rfl rfl ?_
    refine sw_getR (pc' := 45) ok (fr_X7_39.g) dX7_odds_42 rfl (fun v8 => ?_)
    refine sw_getR (pc' := 48) ok (fr_X7_156) dX7_odds_45 rfl (fun v9 => ?_)
    refine sw_aload_n (z := p0) (pc' := 49) ok dX7_odds_48 rfl rfl ?_
    refine sw_getR (pc' := 52) ok (fr_X7_27.g) dX7_odds_49 rfl (fun v10 => ?_)
    refine sw_iload_n (z := p1) (pc' := 53) ok dX7_odds_52 rfl rfl ?_
    refine sw_iload_n (z := p2) (pc' := 54) ok dX7_odds_53 rfl rfl ?_
    refine sw_iload (z := q7) (pc' := 56) ok dX7_odds_54 rfl rfl ?_
    refine sw_cllV_I (st := []) (as := [.ref v10, .int p1, .int p2, .int q7]) (pc' := 59) ok (S_X1_behindHalfAsleep v9 v10 p1 p2 q7) (by decide) lk_X7_319 rfl dX7_odds_56 rfl (Nat.le_of_ble_eq_true rfl) rfl (fun v11 => ?_)
    refine sw_iload_n (z := p3) (pc' := 60) ok dX7_odds_59 rfl rfl ?_
    refine sw_jn (fun k13 : Int64 → PM Int32 => ∀ (j12 : Int64), SW Γ iI 76 [some (.ref p0), some (.int p1), some (.int p2), some (.int p3), some (.int p4), some (.long j12), none, some (.int q7)] [] (k13 j12)) ?_ (fun k13 hk13 => ?_)
    · intro j12
      refine sw_iinc (z := q7) (v := q7 + 1) (pc' := 79) (l' := [some (.ref p0), some (.int p1), some (.int p2), some (.int p3), some (.int p4), some (.long j12), none, some (.int (q7 + 1))]) ok dX7_odds_76 rfl rfl (by rw [cc_iconst_1]) rfl ?_
      refine sw_goto (tgt := 35) ok dX7_odds_79 (by decide) ?_
      exact ih j12 (q7 + 1)
    refine sw_icmp_lt (tgt := 76) (pc' := 63) ok dX7_odds_60 (by decide) rfl ?_ ?_
    · exact hk13 q5
    refine sw_lload (z := q5) (pc' := 65) ok dX7_odds_63 rfl rfl ?_
    refine sw_iload (z := q7) (pc' := 67) ok dX7_odds_65 rfl rfl ?_
    refine sw_iload (z := p4) (pc' := 69) ok dX7_odds_67 rfl rfl ?_
    refine sw_cll0_I (st := [.long q5]) (as := [.int q7, .int p4]) (pc' := 72) ok (S_X7_sleepWeight q7 p4) (by decide) lk_X7_323 rfl dX7_odds_69 rfl (Nat.le_of_ble_eq_true rfl) rfl (fun v14 => ?_)
    refine sw_i2l (pc' := 73) ok dX7_odds_72 rfl ?_
    refine sw_ladd (pc' := 74) ok dX7_odds_73 rfl ?_
    refine sw_lstore (pc' := 76) (l' := [some (.ref p0), some (.int p1), some (.int p2), some (.int p3), some (.int p4), some (.long (q5 + (Int32.toInt64 v14))), none, some (.int q7)]) ok dX7_odds_74 rfl (Nat.le_of_ble_eq_true rfl) rfl ?_
    exact hk13 (q5 + (Int32.toInt64 v14))
set_option maxHeartbeats 4000000 in
set_option maxRecDepth 100000 in
theorem W_X7_odds {Γ : Cx} (ok : OKc Γ cX7_odds RX7 5 "odds") (okr : OKr Γ cX7_odds (some .int)) (a0 : Nat) (x1 : Int32) (x2 : Int32) (x3 : Int32) (x4 : Int32) : SW Γ iI 0 [some (.ref a0), some (.int x1), some (.int x2), some (.int x3), some (.int x4), none, none, none] [] (P_X7_odds a0 x1 x2 x3 x4) := by
  unfold P_X7_odds
  refine sw_aload_n (z := a0) (pc' := 1) ok dX7_odds_0 rfl rfl ?_
  refine sw_getR (pc' := 4) ok (fr_X7_27.g) dX7_odds_1 rfl (fun v1 => ?_)
  refine sw_iload_n (z := x1) (pc' := 5) ok dX7_odds_4 rfl rfl ?_
  refine sw_iload_n (z := x2) (pc' := 6) ok dX7_odds_5 rfl rfl ?_
  refine sw_cllV_I (st := []) (as := [.int x1, .int x2]) (pc' := 9) ok (S_X0_isPair v1 x1 x2) (by decide) lk_X7_184 rfl dX7_odds_6 rfl (Nat.le_of_ble_eq_true rfl) rfl (fun v2 => ?_)
  refine sw_if_eq (tgt := 27) (pc' := 12) ok dX7_odds_9 (by decide) rfl ?_ ?_
  · refine sw_iconst (v := (-1)) (pc' := 28) ok dX7_odds_27 rfl cc_iconst_m1 ?_
    exact sw_ret ok okr dX7_odds_28 trivial rfl
  refine sw_iload_n (z := x3) (pc' := 13) ok dX7_odds_12 rfl rfl ?_
  refine sw_cll0_I (st := []) (as := [.int x3]) (pc' := 16) ok (S_X7_isStrength x3) (by decide) lk_X7_197 rfl dX7_odds_13 rfl (Nat.le_of_ble_eq_true rfl) rfl (fun v3 => ?_)
  refine sw_if_eq (tgt := 27) (pc' := 19) ok dX7_odds_16 (by decide) rfl ?_ ?_
  · refine sw_iconst (v := (-1)) (pc' := 28) ok dX7_odds_27 rfl cc_iconst_m1 ?_
    exact sw_ret ok okr dX7_odds_28 trivial rfl
  refine sw_iload (z := x4) (pc' := 21) ok dX7_odds_19 rfl rfl ?_
  refine sw_cll0_I (st := []) (as := [.int x4]) (pc' := 24) ok (S_X7_isPart x4) (by decide) lk_X7_316 rfl dX7_odds_21 rfl (Nat.le_of_ble_eq_true rfl) rfl (fun v4 => ?_)
  refine sw_if_ne (tgt := 29) (pc' := 27) ok dX7_odds_24 (by decide) rfl ?_ ?_
  · refine sw_lconst (v := 0) (pc' := 30) ok dX7_odds_29 rfl cc_lconst_0 ?_
    refine sw_lstore (pc' := 32) (l' := [some (.ref a0), some (.int x1), some (.int x2), some (.int x3), some (.int x4), some (.long 0), none, none]) ok dX7_odds_30 rfl (Nat.le_of_ble_eq_true rfl) rfl ?_
    refine sw_iconst (v := 0) (pc' := 33) ok dX7_odds_32 rfl cc_iconst_0 ?_
    refine sw_istore (pc' := 35) (l' := [some (.ref a0), some (.int x1), some (.int x2), some (.int x3), some (.int x4), some (.long 0), none, some (.int 0)]) ok dX7_odds_33 rfl (Nat.le_of_ble_eq_true rfl) rfl ?_
    refine sw_jn (fun k7 : Int64 → PM Int32 => ∀ (e5 : Int64), SW Γ iI 82 [some (.ref a0), none, none, none, none, some (.long e5), none, none] [] (k7 e5)) ?_ (fun k7 hk7 => ?_)
    · intro e5
      refine sw_aload_n (z := a0) (pc' := 83) ok dX7_odds_82 rfl rfl ?_
      refine sw_lload (z := e5) (pc' := 85) ok dX7_odds_83 rfl rfl ?_
      refine sw_ldc2 (v := 144) (pc' := 88) ok dX7_odds_85 rfl wd_399 ?_
      refine sw_cllV_I (st := []) (as := [.long e5, .long 144]) (pc' := 91) ok (S_X7_tellShare a0 e5 144) (by decide) lk_X7_272 rfl dX7_odds_88 rfl (Nat.le_of_ble_eq_true rfl) rfl (fun v6 => ?_)
      exact sw_ret ok okr dX7_odds_91 trivial rfl
    exact W_X7_odds_35 ok okr k7 a0 x1 x2 x3 x4 hk7 4000 0 0
  refine sw_iconst (v := (-1)) (pc' := 28) ok dX7_odds_27 rfl cc_iconst_m1 ?_
  exact sw_ret ok okr dX7_odds_28 trivial rfl
theorem S_X7_odds (a0 : Nat) (x1 : Int32) (x2 : Int32) (x3 : Int32) (x4 : Int32) : Sim 5 yX7_odds cX7_odds 8 (some .int) iI [.ref a0, .int x1, .int x2, .int x3, .int x4] (P_X7_odds a0 x1 x2 x3 x4) := Sim.intro wd_1046 (by decide) (by decide +kernel) (Nat.le_of_ble_eq_true rfl) (fun Γ ok okr => W_X7_odds ok okr a0 x1 x2 x3 x4)
