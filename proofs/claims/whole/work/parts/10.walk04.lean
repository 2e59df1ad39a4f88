/-! Programs and walks, printed by program (gen.py). -/
theorem dX6_waysFor_0 : decode cX6_waysFor 0 = .ok (.aload_n 0, 1) := by decide +kernel
theorem dX6_waysFor_1 : decode cX6_waysFor 1 = .ok (.aload_n 2, 1) := by decide +kernel
theorem dX6_waysFor_2 : decode cX6_waysFor 2 = .ok (.invokevirtual 58, 3) := by decide +kernel
theorem dX6_waysFor_5 : decode cX6_waysFor 5 = .ok (.pop, 1) := by decide +kernel
theorem dX6_waysFor_6 : decode cX6_waysFor 6 = .ok (.aload_n 0, 1) := by decide +kernel
theorem dX6_waysFor_7 : decode cX6_waysFor 7 = .ok (.iconst 0, 1) := by decide +kernel
theorem dX6_waysFor_8 : decode cX6_waysFor 8 = .ok (.aload_n 3, 1) := by decide +kernel
theorem dX6_waysFor_9 : decode cX6_waysFor 9 = .ok (.getfield 99, 3) := by decide +kernel
theorem dX6_waysFor_12 : decode cX6_waysFor 12 = .ok (.iconst 3, 1) := by decide +kernel
theorem dX6_waysFor_13 : decode cX6_waysFor 13 = .ok (.invokestatic 62, 3) := by decide +kernel
theorem dX6_waysFor_16 : decode cX6_waysFor 16 = .ok (.invokestatic 68, 3) := by decide +kernel
theorem dX6_waysFor_19 : decode cX6_waysFor 19 = .ok (.putfield 27, 3) := by decide +kernel
theorem dX6_waysFor_22 : decode cX6_waysFor 22 = .ok (.iconst 0, 1) := by decide +kernel
theorem dX6_waysFor_23 : decode cX6_waysFor 23 = .ok (.istore 5, 2) := by decide +kernel
theorem dX6_waysFor_25 : decode cX6_waysFor 25 = .ok (.iload 5, 2) := by decide +kernel
theorem dX6_waysFor_27 : decode cX6_waysFor 27 = .ok (.aload_n 0, 1) := by decide +kernel
theorem dX6_waysFor_28 : decode cX6_waysFor 28 = .ok (.getfield 27, 3) := by decide +kernel
theorem dX6_waysFor_31 : decode cX6_waysFor 31 = .ok (.if_icmp .ge 22, 3) := by decide +kernel
theorem dX6_waysFor_34 : decode cX6_waysFor 34 = .ok (.aload_n 0, 1) := by decide +kernel
theorem dX6_waysFor_35 : decode cX6_waysFor 35 = .ok (.getfield 24, 3) := by decide +kernel
theorem dX6_waysFor_38 : decode cX6_waysFor 38 = .ok (.iload 5, 2) := by decide +kernel
theorem dX6_waysFor_40 : decode cX6_waysFor 40 = .ok (.aload_n 3, 1) := by decide +kernel
theorem dX6_waysFor_41 : decode cX6_waysFor 41 = .ok (.iload 5, 2) := by decide +kernel
theorem dX6_waysFor_43 : decode cX6_waysFor 43 = .ok (.invokevirtual 102, 3) := by decide +kernel
theorem dX6_waysFor_46 : decode cX6_waysFor 46 = .ok (.iastore, 1) := by decide +kernel
theorem dX6_waysFor_47 : decode cX6_waysFor 47 = .ok (.iinc 5 1, 3) := by decide +kernel
theorem dX6_waysFor_50 : decode cX6_waysFor 50 = .ok (.goto (-25), 3) := by decide +kernel
theorem dX6_waysFor_53 : decode cX6_waysFor 53 = .ok (.aload_n 0, 1) := by decide +kernel
theorem dX6_waysFor_54 : decode cX6_waysFor 54 = .ok (.iload 4, 2) := by decide +kernel
theorem dX6_waysFor_56 : decode cX6_waysFor 56 = .ok (.putfield 31, 3) := by decide +kernel
theorem dX6_waysFor_59 : decode cX6_waysFor 59 = .ok (.aload_n 0, 1) := by decide +kernel
theorem dX6_waysFor_60 : decode cX6_waysFor 60 = .ok (.iconst 0, 1) := by decide +kernel
theorem dX6_waysFor_61 : decode cX6_waysFor 61 = .ok (.putfield 38, 3) := by decide +kernel
theorem dX6_waysFor_64 : decode cX6_waysFor 64 = .ok (.aload_n 0, 1) := by decide +kernel
theorem dX6_waysFor_65 : decode cX6_waysFor 65 = .ok (.bipush (-9), 2) := by decide +kernel
theorem dX6_waysFor_67 : decode cX6_waysFor 67 = .ok (.putfield 41, 3) := by decide +kernel
theorem dX6_waysFor_70 : decode cX6_waysFor 70 = .ok (.aload_n 0, 1) := by decide +kernel
theorem dX6_waysFor_71 : decode cX6_waysFor 71 = .ok (.aload_n 1, 1) := by decide +kernel
theorem dX6_waysFor_72 : decode cX6_waysFor 72 = .ok (.invokevirtual 106, 3) := by decide +kernel
theorem dX6_waysFor_75 : decode cX6_waysFor 75 = .ok (.putfield 44, 3) := by decide +kernel
theorem dX6_waysFor_78 : decode cX6_waysFor 78 = .ok (.aload_n 0, 1) := by decide +kernel
theorem dX6_waysFor_79 : decode cX6_waysFor 79 = .ok (.iconst 0, 1) := by decide +kernel
theorem dX6_waysFor_80 : decode cX6_waysFor 80 = .ok (.putfield 47, 3) := by decide +kernel
theorem dX6_waysFor_83 : decode cX6_waysFor 83 = .ok (.aload_n 0, 1) := by decide +kernel
theorem dX6_waysFor_84 : decode cX6_waysFor 84 = .ok (.iconst 0, 1) := by decide +kernel
theorem dX6_waysFor_85 : decode cX6_waysFor 85 = .ok (.putfield 50, 3) := by decide +kernel
theorem dX6_waysFor_88 : decode cX6_waysFor 88 = .ok (.aload_n 0, 1) := by decide +kernel
theorem dX6_waysFor_89 : decode cX6_waysFor 89 = .ok (.aload_n 1, 1) := by decide +kernel
theorem dX6_waysFor_90 : decode cX6_waysFor 90 = .ok (.iconst 0, 1) := by decide +kernel
theorem dX6_waysFor_91 : decode cX6_waysFor 91 = .ok (.iconst 0, 1) := by decide +kernel
theorem dX6_waysFor_92 : decode cX6_waysFor 92 = .ok (.invokestatic 110, 3) := by decide +kernel
theorem dX6_waysFor_95 : decode cX6_waysFor 95 = .ok (.return_, 1) := by decide +kernel
def P_X6_waysFor_25 (k_53 : PM Unit) (p0 : Nat) (p1 : Nat) (p3 : Nat) (p4 : Int32) : Nat → Int32 → PM Unit
  | 0, _ => failM
  | n + 1, q5 =>
    getI 6 4 p0 fun v7 =>
    ifB (decide (v7 ≤ q5)) (
    k_53) (
    getR 6 3 p0 fun v8 =>
    cllV 5 p3 (P_X5_get p3 q5) fun v9 =>
    ast v8 q5 v9 <|
    P_X6_waysFor_25 k_53 p0 p1 p3 p4 n (q5 + 1))
def P_X6_waysFor (a0 : Nat) (a1 : Nat) (a2 : Nat) (a3 : Nat) (x4 : Int32) : PM Unit :=
cllV 6 a0 (P_X6_beginAside a0 a2) fun v1 =>
getI 5 2 a3 fun v2 =>
cll0 (P_J9_min_7cf53 v2 3) fun v3 =>
cll0 (P_J9_max_7cf53 0 v3) fun v4 =>
setI 6 4 a0 v4 <|
jn (
setZ 6 5 a0 x4 <|
setI 6 7 a0 0 <|
setI 6 8 a0 ((-9)) <|
cllV 0 a1 (P_X0_everybody a1) fun v5 =>
setI 6 9 a0 v5 <|
setI 6 10 a0 0 <|
setI 6 11 a0 0 <|
cll0 (P_X6_seekWays 10 a0 a1 0 0) fun _ =>
pureM ()) fun k6 =>
P_X6_waysFor_25 k6 a0 a1 a3 x4 4000 0
set_option maxHeartbeats 4000000 in
set_option maxRecDepth 100000 in
theorem W_X6_waysFor_25 {Γ : Cx} (ok : OKc Γ cX6_waysFor RX6 15 "waysFor") (okr : OKr Γ cX6_waysFor (none)) (k_53 : PM Unit) (p0 : Nat) (p1 : Nat) (p3 : Nat) (p4 : Int32) (hk_53 : SW Γ iU 53 [some (.ref p0), some (.ref p1), none, none, some (.int p4), none] [] (k_53)) : ∀ (n : Nat) (q5 : Int32), SW Γ iU 25 [some (.ref p0), some (.ref p1), none, some (.ref p3), some (.int p4), some (.int q5)] [] (P_X6_waysFor_25 k_53 p0 p1 p3 p4 n q5) := by
  intro n
  induction n with
  | zero =>
    intros
    exact sw_fail
  | succ n ih =>
    intro q5
    unfold P_X6_waysFor_25
    refine sw_iload (z := q5) (pc' := 27) ok dX6_waysFor_25 rfl rfl ?_
    refine sw_aload_n (z := p0) (pc' := 28) ok dX6_waysFor_27 rfl rfl ?_
    refine sw_getI (pc' := 31) ok (fr_X6_27.g) dX6_waysFor_28 rfl (fun v7 => ?_)
    refine sw_icmp_ge (tgt := 53) (pc' := 34) ok dX6_waysFor_31 (by decide) rfl ?_ ?_
    · refine sw_fg (l' := [some (.ref p0), some (.ref p1), none, none, some (.int p4), none]) [true, true, false, false, true, false] rfl ?_
      exact hk_53
    refine sw_aload_n (z := p0) (pc' := 35) ok dX6_waysFor_34 rfl rfl ?_
    refine sw_getR (pc' := 38) ok (fr_X6_24.g) dX6_waysFor_35 rfl (fun v8 => ?_)
    refine sw_iload (z := q5) (pc' := 40) ok dX6_waysFor_38 rfl rfl ?_
    refine sw_aload_n (z := p3) (pc' := 41) ok dX6_waysFor_40 rfl rfl ?_
    refine sw_iload (z := q5) (pc' := 43) ok dX6_waysFor_41 rfl rfl ?_
    refine sw_cllV_I (st := [.int q5, .ref v8]) (as := [.int q5]) (pc' := 46) ok (S_X5_get p3 q5) (by decide) lk_X6_102 rfl dX6_waysFor_43 rfl (Nat.le_of_ble_eq_true rfl) rfl (fun v9 => ?_)
    refine sw_ast (pc' := 47) ok dX6_waysFor_46 rfl ?_
    refine sw_iinc (z := q5) (v := q5 + 1) (pc' := 50) (l' := [some (.ref p0), some (.ref p1), none, some (.ref p3), some (.int p4), some (.int (q5 + 1))]) ok dX6_waysFor_47 rfl rfl (by rw [cc_iconst_1]) rfl ?_
    refine sw_goto (tgt := 25) ok dX6_waysFor_50 (by decide) ?_
    exact ih (q5 + 1)
set_option maxHeartbeats 4000000 in
set_option maxRecDepth 100000 in
theorem W_X6_waysFor {Γ : Cx} (ok : OKc Γ cX6_waysFor RX6 15 "waysFor") (okr : OKr Γ cX6_waysFor (none)) (a0 : Nat) (a1 : Nat) (a2 : Nat) (a3 : Nat) (x4 : Int32) : SW Γ iU 0 [some (.ref a0), some (.ref a1), some (.ref a2), some (.ref a3), some (.int x4), none] [] (P_X6_waysFor a0 a1 a2 a3 x4) := by
  unfold P_X6_waysFor
  refine sw_aload_n (z := a0) (pc' := 1) ok dX6_waysFor_0 rfl rfl ?_
  refine sw_aload_n (z := a2) (pc' := 2) ok dX6_waysFor_1 rfl rfl ?_
  refine sw_cllV_R (st := []) (as := [.ref a2]) (pc' := 5) ok (S_X6_beginAside a0 a2) (by decide) lk_X6_58 rfl dX6_waysFor_2 rfl (Nat.le_of_ble_eq_true rfl) rfl (fun v1 => ?_)
  refine sw_pop (pc' := 6) ok dX6_waysFor_5 rfl rfl ?_
  refine sw_aload_n (z := a0) (pc' := 7) ok dX6_waysFor_6 rfl rfl ?_
  refine sw_iconst (v := 0) (pc' := 8) ok dX6_waysFor_7 rfl cc_iconst_0 ?_
  refine sw_aload_n (z := a3) (pc' := 9) ok dX6_waysFor_8 rfl rfl ?_
  refine sw_getI (pc' := 12) ok (fr_X6_99.g) dX6_waysFor_9 rfl (fun v2 => ?_)
  refine sw_iconst (v := 3) (pc' := 13) ok dX6_waysFor_12 rfl cc_iconst_3 ?_
  refine sw_cll0_I (st := [.int 0, .ref a0]) (as := [.int v2, .int 3]) (pc' := 16) ok (S_J9_min_7cf53 v2 3) (by decide) lk_X6_62 rfl dX6_waysFor_13 rfl (Nat.le_of_ble_eq_true rfl) rfl (fun v3 => ?_)
  refine sw_cll0_I (st := [.ref a0]) (as := [.int 0, .int v3]) (pc' := 19) ok (S_J9_max_7cf53 0 v3) (by decide) lk_X6_68 rfl dX6_waysFor_16 rfl (Nat.le_of_ble_eq_true rfl) rfl (fun v4 => ?_)
  refine sw_setI (pc' := 22) ok fr_X6_27 dX6_waysFor_19 (fun h => by cases h) rfl ?_
  refine sw_iconst (v := 0) (pc' := 23) ok dX6_waysFor_22 rfl cc_iconst_0 ?_
  refine sw_istore (pc' := 25) (l' := [some (.ref a0), some (.ref a1), some (.ref a2), some (.ref a3), some (.int x4), some (.int 0)]) ok dX6_waysFor_23 rfl (Nat.le_of_ble_eq_true rfl) rfl ?_
  refine sw_jn (fun k6 : PM Unit => SW Γ iU 53 [some (.ref a0), some (.ref a1), none, none, some (.int x4), none] [] (k6)) ?_ (fun k6 hk6 => ?_)
  · refine sw_aload_n (z := a0) (pc' := 54) ok dX6_waysFor_53 rfl rfl ?_
    refine sw_iload (z := x4) (pc' := 56) ok dX6_waysFor_54 rfl rfl ?_
    refine sw_setZ (pc' := 59) ok fr_X6_31 dX6_waysFor_56 (fun h => by cases h) rfl ?_
    refine sw_aload_n (z := a0) (pc' := 60) ok dX6_waysFor_59 rfl rfl ?_
    refine sw_iconst (v := 0) (pc' := 61) ok dX6_waysFor_60 rfl cc_iconst_0 ?_
    refine sw_setI (pc' := 64) ok fr_X6_38 dX6_waysFor_61 (fun h => by cases h) rfl ?_
    refine sw_aload_n (z := a0) (pc' := 65) ok dX6_waysFor_64 rfl rfl ?_
    refine sw_bipush (v := (-9)) (pc' := 67) ok dX6_waysFor_65 rfl cc_bipush_m9 ?_
    refine sw_setI (pc' := 70) ok fr_X6_41 dX6_waysFor_67 (fun h => by cases h) rfl ?_
    refine sw_aload_n (z := a0) (pc' := 71) ok dX6_waysFor_70 rfl rfl ?_
    refine sw_aload_n (z := a1) (pc' := 72) ok dX6_waysFor_71 rfl rfl ?_
    refine sw_cllV_I (st := [.ref a0]) (as := []) (pc' := 75) ok (S_X0_everybody a1) (by decide) lk_X6_106 rfl dX6_waysFor_72 rfl (Nat.le_of_ble_eq_true rfl) rfl (fun v5 => ?_)
    refine sw_setI (pc' := 78) ok fr_X6_44 dX6_waysFor_75 (fun h => by cases h) rfl ?_
    refine sw_aload_n (z := a0) (pc' := 79) ok dX6_waysFor_78 rfl rfl ?_
    refine sw_iconst (v := 0) (pc' := 80) ok dX6_waysFor_79 rfl cc_iconst_0 ?_
    refine sw_setI (pc' := 83) ok fr_X6_47 dX6_waysFor_80 (fun h => by cases h) rfl ?_
    refine sw_aload_n (z := a0) (pc' := 84) ok dX6_waysFor_83 rfl rfl ?_
    refine sw_iconst (v := 0) (pc' := 85) ok dX6_waysFor_84 rfl cc_iconst_0 ?_
    refine sw_setI (pc' := 88) ok fr_X6_50 dX6_waysFor_85 (fun h => by cases h) rfl ?_
    refine sw_aload_n (z := a0) (pc' := 89) ok dX6_waysFor_88 rfl rfl ?_
    refine sw_aload_n (z := a1) (pc' := 90) ok dX6_waysFor_89 rfl rfl ?_
    refine sw_iconst (v := 0) (pc' := 91) ok dX6_waysFor_90 rfl cc_iconst_0 ?_
    refine sw_iconst (v := 0) (pc' := 92) ok dX6_waysFor_91 rfl cc_iconst_0 ?_
    refine sw_cll0_U (st := []) (as := [.ref a0, .ref a1, .int 0, .int 0]) (pc' := 95) ok (S_X6_seekWays 10 a0 a1 0 0) (by decide) lk_X6_110 rfl dX6_waysFor_92 rfl (Nat.le_of_ble_eq_true rfl) rfl (fun _ => ?_)
    exact sw_ret ok okr dX6_waysFor_95 trivial rfl
  refine sw_fg (l' := [some (.ref a0), some (.ref a1), none, some (.ref a3), some (.int x4), some (.int 0)]) [true, true, false, true, true, true] rfl ?_
  exact W_X6_waysFor_25 ok okr k6 a0 a1 a3 x4 hk6 4000 0
theorem S_X6_waysFor (a0 : Nat) (a1 : Nat) (a2 : Nat) (a3 : Nat) (x4 : Int32) : Sim 15 yX6_waysFor cX6_waysFor 6 (none) iU [.ref a0, .ref a1, .ref a2, .ref a3, .int x4] (P_X6_waysFor a0 a1 a2 a3 x4) := Sim.intro wd_989 (by decide) (by decide +kernel) (Nat.le_of_ble_eq_true rfl) (fun Γ ok okr => W_X6_waysFor ok okr a0 a1 a2 a3 x4)
theorem dX6_playTurn_0 : decode cX6_playTurn 0 = .ok (.iload_n 2, 1) := by decide +kernel
theorem dX6_playTurn_1 : decode cX6_playTurn 1 = .ok (.ifCond .lt 16, 3) := by decide +kernel
theorem dX6_playTurn_4 : decode cX6_playTurn 4 = .ok (.iload_n 2, 1) := by decide +kernel
theorem dX6_playTurn_5 : decode cX6_playTurn 5 = .ok (.aload_n 0, 1) := by decide +kernel
theorem dX6_playTurn_6 : decode cX6_playTurn 6 = .ok (.getfield 27, 3) := by decide +kernel
theorem dX6_playTurn_9 : decode cX6_playTurn 9 = .ok (.if_icmp .ge 8, 3) := by decide +kernel
theorem dX6_playTurn_12 : decode cX6_playTurn 12 = .ok (.iload_n 2, 1) := by decide +kernel
theorem dX6_playTurn_13 : decode cX6_playTurn 13 = .ok (.iconst 3, 1) := by decide +kernel
theorem dX6_playTurn_14 : decode cX6_playTurn 14 = .ok (.if_icmp .lt 5, 3) := by decide +kernel
theorem dX6_playTurn_17 : decode cX6_playTurn 17 = .ok (.iconst 0, 1) := by decide +kernel
theorem dX6_playTurn_18 : decode cX6_playTurn 18 = .ok (.ireturn, 1) := by decide +kernel
theorem dX6_playTurn_19 : decode cX6_playTurn 19 = .ok (.iload_n 2, 1) := by decide +kernel
theorem dX6_playTurn_20 : decode cX6_playTurn 20 = .ok (.iconst 2, 1) := by decide +kernel
theorem dX6_playTurn_21 : decode cX6_playTurn 21 = .ok (.irem, 1) := by decide +kernel
theorem dX6_playTurn_22 : decode cX6_playTurn 22 = .ok (.ifCond .ne 7, 3) := by decide +kernel
theorem dX6_playTurn_25 : decode cX6_playTurn 25 = .ok (.iconst 1, 1) := by decide +kernel
theorem dX6_playTurn_26 : decode cX6_playTurn 26 = .ok (.goto 4, 3) := by decide +kernel
theorem dX6_playTurn_29 : decode cX6_playTurn 29 = .ok (.iconst 0, 1) := by decide +kernel
theorem dX6_playTurn_30 : decode cX6_playTurn 30 = .ok (.istore_n 3, 1) := by decide +kernel
theorem dX6_playTurn_31 : decode cX6_playTurn 31 = .ok (.iload_n 3, 1) := by decide +kernel
theorem dX6_playTurn_32 : decode cX6_playTurn 32 = .ok (.ifCond .eq 7, 3) := by decide +kernel
theorem dX6_playTurn_35 : decode cX6_playTurn 35 = .ok (.iconst (-1), 1) := by decide +kernel
theorem dX6_playTurn_36 : decode cX6_playTurn 36 = .ok (.goto 5, 3) := by decide +kernel
theorem dX6_playTurn_39 : decode cX6_playTurn 39 = .ok (.bipush 61, 2) := by decide +kernel
theorem dX6_playTurn_41 : decode cX6_playTurn 41 = .ok (.istore 4, 2) := by decide +kernel
theorem dX6_playTurn_43 : decode cX6_playTurn 43 = .ok (.iconst 0, 1) := by decide +kernel
theorem dX6_playTurn_44 : decode cX6_playTurn 44 = .ok (.istore 5, 2) := by decide +kernel
theorem dX6_playTurn_46 : decode cX6_playTurn 46 = .ok (.iload 5, 2) := by decide +kernel
theorem dX6_playTurn_48 : decode cX6_playTurn 48 = .ok (.aload_n 1, 1) := by decide +kernel
theorem dX6_playTurn_49 : decode cX6_playTurn 49 = .ok (.getfield 78, 3) := by decide +kernel
theorem dX6_playTurn_52 : decode cX6_playTurn 52 = .ok (.if_icmp .ge 105, 3) := by decide +kernel
theorem dX6_playTurn_55 : decode cX6_playTurn 55 = .ok (.iload 5, 2) := by decide +kernel
theorem dX6_playTurn_57 : decode cX6_playTurn 57 = .ok (.iconst 1, 1) := by decide +kernel
theorem dX6_playTurn_58 : decode cX6_playTurn 58 = .ok (.iadd, 1) := by decide +kernel
theorem dX6_playTurn_59 : decode cX6_playTurn 59 = .ok (.istore 6, 2) := by decide +kernel
theorem dX6_playTurn_61 : decode cX6_playTurn 61 = .ok (.iload 6, 2) := by decide +kernel
theorem dX6_playTurn_63 : decode cX6_playTurn 63 = .ok (.aload_n 1, 1) := by decide +kernel
theorem dX6_playTurn_64 : decode cX6_playTurn 64 = .ok (.getfield 78, 3) := by decide +kernel
theorem dX6_playTurn_67 : decode cX6_playTurn 67 = .ok (.if_icmp .ge 84, 3) := by decide +kernel
theorem dX6_playTurn_70 : decode cX6_playTurn 70 = .ok (.iload_n 2, 1) := by decide +kernel
theorem dX6_playTurn_71 : decode cX6_playTurn 71 = .ok (.iconst 1, 1) := by decide +kernel
theorem dX6_playTurn_72 : decode cX6_playTurn 72 = .ok (.iadd, 1) := by decide +kernel
theorem dX6_playTurn_73 : decode cX6_playTurn 73 = .ok (.aload_n 0, 1) := by decide +kernel
theorem dX6_playTurn_74 : decode cX6_playTurn 74 = .ok (.getfield 27, 3) := by decide +kernel
theorem dX6_playTurn_77 : decode cX6_playTurn 77 = .ok (.if_icmp .ge 29, 3) := by decide +kernel
theorem dX6_playTurn_80 : decode cX6_playTurn 80 = .ok (.aload_n 0, 1) := by decide +kernel
theorem dX6_playTurn_81 : decode cX6_playTurn 81 = .ok (.iload_n 2, 1) := by decide +kernel
theorem dX6_playTurn_82 : decode cX6_playTurn 82 = .ok (.invokevirtual 83, 3) := by decide +kernel
theorem dX6_playTurn_85 : decode cX6_playTurn 85 = .ok (.aload_n 1, 1) := by decide +kernel
theorem dX6_playTurn_86 : decode cX6_playTurn 86 = .ok (.iload 5, 2) := by decide +kernel
theorem dX6_playTurn_88 : decode cX6_playTurn 88 = .ok (.iload 6, 2) := by decide +kernel
theorem dX6_playTurn_90 : decode cX6_playTurn 90 = .ok (.invokevirtual 87, 3) := by decide +kernel
theorem dX6_playTurn_93 : decode cX6_playTurn 93 = .ok (.aload_n 0, 1) := by decide +kernel
theorem dX6_playTurn_94 : decode cX6_playTurn 94 = .ok (.aload_n 1, 1) := by decide +kernel
theorem dX6_playTurn_95 : decode cX6_playTurn 95 = .ok (.iload_n 2, 1) := by decide +kernel
theorem dX6_playTurn_96 : decode cX6_playTurn 96 = .ok (.iconst 1, 1) := by decide +kernel
theorem dX6_playTurn_97 : decode cX6_playTurn 97 = .ok (.iadd, 1) := by decide +kernel
theorem dX6_playTurn_98 : decode cX6_playTurn 98 = .ok (.invokestatic 126, 3) := by decide +kernel
theorem dX6_playTurn_101 : decode cX6_playTurn 101 = .ok (.istore 7, 2) := by decide +kernel
theorem dX6_playTurn_103 : decode cX6_playTurn 103 = .ok (.goto 19, 3) := by decide +kernel
theorem dX6_playTurn_106 : decode cX6_playTurn 106 = .ok (.aload_n 0, 1) := by decide +kernel
theorem dX6_playTurn_107 : decode cX6_playTurn 107 = .ok (.getfield 11, 3) := by decide +kernel
theorem dX6_playTurn_110 : decode cX6_playTurn 110 = .ok (.iload_n 2, 1) := by decide +kernel
theorem dX6_playTurn_111 : decode cX6_playTurn 111 = .ok (.aaload, 1) := by decide +kernel
theorem dX6_playTurn_112 : decode cX6_playTurn 112 = .ok (.aload_n 1, 1) := by decide +kernel
theorem dX6_playTurn_113 : decode cX6_playTurn 113 = .ok (.iload 5, 2) := by decide +kernel
theorem dX6_playTurn_115 : decode cX6_playTurn 115 = .ok (.iload 6, 2) := by decide +kernel
theorem dX6_playTurn_117 : decode cX6_playTurn 117 = .ok (.invokevirtual 91, 3) := by decide +kernel
theorem dX6_playTurn_120 : decode cX6_playTurn 120 = .ok (.istore 7, 2) := by decide +kernel
theorem dX6_playTurn_122 : decode cX6_playTurn 122 = .ok (.iload_n 3, 1) := by decide +kernel
theorem dX6_playTurn_123 : decode cX6_playTurn 123 = .ok (.ifCond .eq 13, 3) := by decide +kernel
theorem dX6_playTurn_126 : decode cX6_playTurn 126 = .ok (.iload 4, 2) := by decide +kernel
theorem dX6_playTurn_128 : decode cX6_playTurn 128 = .ok (.iload 7, 2) := by decide +kernel
theorem dX6_playTurn_130 : decode cX6_playTurn 130 = .ok (.invokestatic 68, 3) := by decide +kernel
theorem dX6_playTurn_133 : decode cX6_playTurn 133 = .ok (.goto 10, 3) := by decide +kernel
theorem dX6_playTurn_136 : decode cX6_playTurn 136 = .ok (.iload 4, 2) := by decide +kernel
theorem dX6_playTurn_138 : decode cX6_playTurn 138 = .ok (.iload 7, 2) := by decide +kernel
theorem dX6_playTurn_140 : decode cX6_playTurn 140 = .ok (.invokestatic 62, 3) := by decide +kernel
theorem dX6_playTurn_143 : decode cX6_playTurn 143 = .ok (.istore 4, 2) := by decide +kernel
theorem dX6_playTurn_145 : decode cX6_playTurn 145 = .ok (.iinc 6 1, 3) := by decide +kernel
theorem dX6_playTurn_148 : decode cX6_playTurn 148 = .ok (.goto (-87), 3) := by decide +kernel
theorem dX6_playTurn_151 : decode cX6_playTurn 151 = .ok (.iinc 5 1, 3) := by decide +kernel
theorem dX6_playTurn_154 : decode cX6_playTurn 154 = .ok (.goto (-108), 3) := by decide +kernel
theorem dX6_playTurn_157 : decode cX6_playTurn 157 = .ok (.iload 4, 2) := by decide +kernel
theorem dX6_playTurn_159 : decode cX6_playTurn 159 = .ok (.ireturn, 1) := by decide +kernel
def P_X6_playTurn_61 (REC : Nat → Nat → Int32 → PM Int32) (k_151 : Int32 → PM Int32) (p0 : Nat) (p1 : Nat) (p2 : Int32) (p3 : Int32) (p5 : Int32) : Nat → Int32 → Int32 → PM Int32
  | 0, _, _ => failM
  | n + 1, q4, q6 =>
    getI 0 4 p1 fun v8 =>
    ifB (decide (v8 ≤ q6)) (
    k_151 q4) (
    getI 6 4 p0 fun v9 =>
    jn (fun (j10 : Int32) =>
    jn (fun (j11 : Int32) =>
    P_X6_playTurn_61 REC k_151 p0 p1 p2 p3 p5 n j11 (q6 + 1)) fun k12 =>
    ifB (decide (p3 = 0)) (
    cll0 (P_J9_min_7cf53 q4 j10) fun v13 =>
    k12 v13) (
    cll0 (P_J9_max_7cf53 q4 j10) fun v14 =>
    k12 v14)) fun k15 =>
    ifB (decide (v9 ≤ (p2 + 1))) (
    getR 6 0 p0 fun v16 =>
    aldR v16 p2 fun v17 =>
    cllV 1 v17 (P_X1_behind v17 p1 p5 q6) fun v18 =>
    k15 v18) (
    cllV 6 p0 (P_X6_copyDeeper p0 p2) fun v19 =>
    cllV 1 v19 (P_X1_passWatch v19 p1 p5 q6) fun _ =>
    cll0 (REC p0 p1 (p2 + 1)) fun v20 =>
    k15 v20))
def P_X6_playTurn_46 (REC : Nat → Nat → Int32 → PM Int32) (p0 : Nat) (p1 : Nat) (p2 : Int32) (p3 : Int32) : Nat → Int32 → Int32 → PM Int32
  | 0, _, _ => failM
  | n + 1, q4, q5 =>
    getI 0 4 p1 fun v5 =>
    ifB (decide (v5 ≤ q5)) (
    pureM q4) (
    jn (fun (e6 : Int32) =>
    P_X6_playTurn_46 REC p0 p1 p2 p3 n e6 (q5 + 1)) fun k7 =>
    P_X6_playTurn_61 REC k7 p0 p1 p2 p3 q5 4000 q4 (q5 + 1))
def P_X6_playTurn : Nat → Nat → Nat → Int32 → PM Int32
  | 0, _, _, _ => failM
  | n + 1, a0, a1, x2 =>
    ifB (decide (x2 < 0)) (
    pureM 0) (
    getI 6 4 a0 fun v1 =>
    ifB (decide (v1 ≤ x2)) (
    pureM 0) (
    ifB (decide (x2 < 3)) (
    remI x2 2 fun v2 =>
    jn (fun (j3 : Int32) =>
    jn (fun (j4 : Int32) =>
    P_X6_playTurn_46 (P_X6_playTurn n) a0 a1 x2 j3 4000 j4 0) fun k21 =>
    ifB (decide (j3 = 0)) (
    k21 61) (
    k21 ((-1)))) fun k22 =>
    ifB (decide (¬ v2 = 0)) (
    k22 0) (
    k22 1)) (
    pureM 0)))
set_option maxHeartbeats 4000000 in
set_option maxRecDepth 100000 in
theorem W_X6_playTurn_61 {Γ : Cx} {d0 : Nat} (ok : OKc Γ cX6_playTurn RX6 (d0 + 1 + 4) "playTurn") (okr : OKr Γ cX6_playTurn (some .int)) (REC : Nat → Nat → Int32 → PM Int32) (hREC : ∀ (a0 : Nat) (a1 : Nat) (x2 : Int32), Sim (d0 + 4) yX6_playTurn cX6_playTurn 8 (some .int) iI [.ref a0, .ref a1, .int x2] (REC a0 a1 x2)) (k_151 : Int32 → PM Int32) (p0 : Nat) (p1 : Nat) (p2 : Int32) (p3 : Int32) (p5 : Int32) (hk_151 : ∀ (y4 : Int32), SW Γ iI 151 [some (.ref p0), some (.ref p1), some (.int p2), some (.int p3), some (.int y4), some (.int p5), none, none] [] (k_151 y4)) : ∀ (n : Nat) (q4 : Int32) (q6 : Int32), SW Γ iI 61 [some (.ref p0), some (.ref p1), some (.int p2), some (.int p3), some (.int q4), some (.int p5), some (.int q6), none] [] (P_X6_playTurn_61 REC k_151 p0 p1 p2 p3 p5 n q4 q6) := by
  intro n
  induction n with
  | zero =>
    intros
    exact sw_fail
  | succ n ih =>
    intro q4 q6
    unfold P_X6_playTurn_61
    refine sw_iload (z := q6) (pc' := 63) ok dX6_playTurn_61 rfl rfl ?_
    refine sw_aload_n (z := p1) (pc' := 64) ok dX6_playTurn_63 rfl rfl ?_
    refine sw_getI (pc' := 67) ok (fr_X6_78.g) dX6_playTurn_64 rfl (fun v8 => ?_)
    refine sw_icmp_ge (tgt := 151) (pc' := 70) ok dX6_playTurn_67 (by decide) rfl ?_ ?_
    · refine sw_fg (l' := [some (.ref p0), some (.ref p1), some (.int p2), some (.int p3), some (.int q4), some (.int p5), none, none]) [true, true, true, true, true, true, false, false] rfl ?_
      exact hk_151 q4
    refine sw_iload_n (z := p2) (pc' := 71) ok dX6_playTurn_70 rfl rfl ?_
    refine sw_iconst (v := 1) (pc' := 72) ok dX6_playTurn_71 rfl cc_iconst_1 ?_
    refine sw_iadd (pc' := 73) ok dX6_playTurn_72 rfl ?_
    refine sw_aload_n (z := p0) (pc' := 74) ok dX6_playTurn_73 rfl rfl ?_
    refine sw_getI (pc' := 77) ok (fr_X6_27.g) dX6_playTurn_74 rfl (fun v9 => ?_)
    refine sw_jn (fun k15 : Int32 → PM Int32 => ∀ (j10 : Int32), SW Γ iI 122 [some (.ref p0), some (.ref p1), some (.int p2), some (.int p3), some (.int q4), some (.int p5), some (.int q6), some (.int j10)] [] (k15 j10)) ?_ (fun k15 hk15 => ?_)
    · intro j10
      refine sw_iload_n (z := p3) (pc' := 123) ok dX6_playTurn_122 rfl rfl ?_
      refine sw_jn (fun k12 : Int32 → PM Int32 => ∀ (j11 : Int32), SW Γ iI 143 [some (.ref p0), some (.ref p1), some (.int p2), some (.int p3), none, some (.int p5), some (.int q6), none] [.int j11] (k12 j11)) ?_ (fun k12 hk12 => ?_)
      · intro j11
        refine sw_istore (pc' := 145) (l' := [some (.ref p0), some (.ref p1), some (.int p2), some (.int p3), some (.int j11), some (.int p5), some (.int q6), none]) ok dX6_playTurn_143 rfl (Nat.le_of_ble_eq_true rfl) rfl ?_
        refine sw_iinc (z := q6) (v := q6 + 1) (pc' := 148) (l' := [some (.ref p0), some (.ref p1), some (.int p2), some (.int p3), some (.int j11), some (.int p5), some (.int (q6 + 1)), none]) ok dX6_playTurn_145 rfl rfl (by rw [cc_iconst_1]) rfl ?_
        refine sw_goto (tgt := 61) ok dX6_playTurn_148 (by decide) ?_
        exact ih j11 (q6 + 1)
      refine sw_if_eq (tgt := 136) (pc' := 126) ok dX6_playTurn_123 (by decide) rfl ?_ ?_
      · refine sw_iload (z := q4) (pc' := 138) ok dX6_playTurn_136 rfl rfl ?_
        refine sw_iload (z := j10) (pc' := 140) ok dX6_playTurn_138 rfl rfl ?_
        refine sw_cll0_I (st := []) (as := [.int q4, .int j10]) (pc' := 143) ok (S_J9_min_7cf53 q4 j10) (by omega) lk_X6_62 rfl dX6_playTurn_140 rfl (Nat.le_of_ble_eq_true rfl) rfl (fun v13 => ?_)
        refine sw_fg (l' := [some (.ref p0), some (.ref p1), some (.int p2), some (.int p3), none, some (.int p5), some (.int q6), none]) [true, true, true, true, false, true, true, false] rfl ?_
        exact hk12 v13
      refine sw_iload (z := q4) (pc' := 128) ok dX6_playTurn_126 rfl rfl ?_
      refine sw_iload (z := j10) (pc' := 130) ok dX6_playTurn_128 rfl rfl ?_
      refine sw_cll0_I (st := []) (as := [.int q4, .int j10]) (pc' := 133) ok (S_J9_max_7cf53 q4 j10) (by omega) lk_X6_68 rfl dX6_playTurn_130 rfl (Nat.le_of_ble_eq_true rfl) rfl (fun v14 => ?_)
      refine sw_goto (tgt := 143) ok dX6_playTurn_133 (by decide) ?_
      refine sw_fg (l' := [some (.ref p0), some (.ref p1), some (.int p2), some (.int p3), none, some (.int p5), some (.int q6), none]) [true, true, true, true, false, true, true, false] rfl ?_
      exact hk12 v14
    refine sw_icmp_ge (tgt := 106) (pc' := 80) ok dX6_playTurn_77 (by decide) rfl ?_ ?_
    · refine sw_aload_n (z := p0) (pc' := 107) ok dX6_playTurn_106 rfl rfl ?_
      refine sw_getR (pc' := 110) ok (fr_X6_11.g) dX6_playTurn_107 rfl (fun v16 => ?_)
      refine sw_iload_n (z := p2) (pc' := 111) ok dX6_playTurn_110 rfl rfl ?_
      refine sw_aldR (pc' := 112) ok dX6_playTurn_111 rfl (fun v17 => ?_)
      refine sw_aload_n (z := p1) (pc' := 113) ok dX6_playTurn_112 rfl rfl ?_
      refine sw_iload (z := p5) (pc' := 115) ok dX6_playTurn_113 rfl rfl ?_
      refine sw_iload (z := q6) (pc' := 117) ok dX6_playTurn_115 rfl rfl ?_
      refine sw_cllV_I (st := []) (as := [.ref p1, .int p5, .int q6]) (pc' := 120) ok (S_X1_behind v17 p1 p5 q6) (by omega) lk_X6_91 rfl dX6_playTurn_117 rfl (Nat.le_of_ble_eq_true rfl) rfl (fun v18 => ?_)
      refine sw_istore (pc' := 122) (l' := [some (.ref p0), some (.ref p1), some (.int p2), some (.int p3), some (.int q4), some (.int p5), some (.int q6), some (.int v18)]) ok dX6_playTurn_120 rfl (Nat.le_of_ble_eq_true rfl) rfl ?_
      exact hk15 v18
    refine sw_aload_n (z := p0) (pc' := 81) ok dX6_playTurn_80 rfl rfl ?_
    refine sw_iload_n (z := p2) (pc' := 82) ok dX6_playTurn_81 rfl rfl ?_
    refine sw_cllV_R (st := []) (as := [.int p2]) (pc' := 85) ok (S_X6_copyDeeper p0 p2) (by omega) lk_X6_83 rfl dX6_playTurn_82 rfl (Nat.le_of_ble_eq_true rfl) rfl (fun v19 => ?_)
    refine sw_aload_n (z := p1) (pc' := 86) ok dX6_playTurn_85 rfl rfl ?_
    refine sw_iload (z := p5) (pc' := 88) ok dX6_playTurn_86 rfl rfl ?_
    refine sw_iload (z := q6) (pc' := 90) ok dX6_playTurn_88 rfl rfl ?_
    refine sw_cllV_U (st := []) (as := [.ref p1, .int p5, .int q6]) (pc' := 93) ok (S_X1_passWatch v19 p1 p5 q6) (by omega) lk_X6_87 rfl dX6_playTurn_90 rfl (Nat.le_of_ble_eq_true rfl) rfl (fun _ => ?_)
    refine sw_aload_n (z := p0) (pc' := 94) ok dX6_playTurn_93 rfl rfl ?_
    refine sw_aload_n (z := p1) (pc' := 95) ok dX6_playTurn_94 rfl rfl ?_
    refine sw_iload_n (z := p2) (pc' := 96) ok dX6_playTurn_95 rfl rfl ?_
    refine sw_iconst (v := 1) (pc' := 97) ok dX6_playTurn_96 rfl cc_iconst_1 ?_
    refine sw_iadd (pc' := 98) ok dX6_playTurn_97 rfl ?_
    refine sw_cll0_I (st := []) (as := [.ref p0, .ref p1, .int (p2 + 1)]) (pc' := 101) ok (hREC p0 p1 (p2 + 1)) (by omega) lk_X6_126 rfl dX6_playTurn_98 rfl (Nat.le_of_ble_eq_true rfl) rfl (fun v20 => ?_)
    refine sw_istore (pc' := 103) (l' := [some (.ref p0), some (.ref p1), some (.int p2), some (.int p3), some (.int q4), some (.int p5), some (.int q6), some (.int v20)]) ok dX6_playTurn_101 rfl (Nat.le_of_ble_eq_true rfl) rfl ?_
    refine sw_goto (tgt := 122) ok dX6_playTurn_103 (by decide) ?_
    exact hk15 v20
set_option maxHeartbeats 4000000 in
set_option maxRecDepth 100000 in
theorem W_X6_playTurn_46 {Γ : Cx} {d0 : Nat} (ok : OKc Γ cX6_playTurn RX6 (d0 + 1 + 4) "playTurn") (okr : OKr Γ cX6_playTurn (some .int)) (REC : Nat → Nat → Int32 → PM Int32) (hREC : ∀ (a0 : Nat) (a1 : Nat) (x2 : Int32), Sim (d0 + 4) yX6_playTurn cX6_playTurn 8 (some .int) iI [.ref a0, .ref a1, .int x2] (REC a0 a1 x2)) (p0 : Nat) (p1 : Nat) (p2 : Int32) (p3 : Int32) : ∀ (n : Nat) (q4 : Int32) (q5 : Int32), SW Γ iI 46 [some (.ref p0), some (.ref p1), some (.int p2), some (.int p3), some (.int q4), some (.int q5), none, none] [] (P_X6_playTurn_46 REC p0 p1 p2 p3 n q4 q5) := by
  intro n
  induction n with
  | zero =>
    intros
    exact sw_fail
  | succ n ih =>
    intro q4 q5
    unfold P_X6_playTurn_46
    refine sw_iload (z := q5) (pc' := 48) ok dX6_playTurn_46 rfl rfl ?_
    refine sw_aload_n (z := p1) (pc' := 49) ok dX6_playTurn_48 rfl rfl ?_
    refine sw_getI (pc' := 52) ok (fr_X6_78.g) dX6_playTurn_49 rfl (fun v5 => ?_)
    refine sw_icmp_ge (tgt := 157) (pc' := 55) ok dX6_playTurn_52 (by decide) rfl ?_ ?_
    · refine sw_iload (z := q4) (pc' := 159) ok dX6_playTurn_157 rfl rfl ?_
      exact sw_ret ok okr dX6_playTurn_159 trivial rfl
    refine sw_iload (z := q5) (pc' := 57) ok dX6_playTurn_55 rfl rfl ?_
    refine sw_iconst (v := 1) (pc' := 58) ok dX6_playTurn_57 rfl cc_iconst_1 ?_
    refine sw_iadd (pc' := 59) ok dX6_playTurn_58 rfl ?_
    refine sw_istore (pc' := 61) (l' := [some (.ref p0), some (.ref p1), some (.int p2), some (.int p3), some (.int q4), some (.int q5), some (.int (q5 + 1)), none]) ok dX6_playTurn_59 rfl (Nat.le_of_ble_eq_true rfl) rfl ?_
    refine sw_jn (fun k7 : Int32 → PM Int32 => ∀ (e6 : Int32), SW Γ iI 151 [some (.ref p0), some (.ref p1), some (.int p2), some (.int p3), some (.int e6), some (.int q5), none, none] [] (k7 e6)) ?_ (fun k7 hk7 => ?_)
    · intro e6
      refine sw_iinc (z := q5) (v := q5 + 1) (pc' := 154) (l' := [some (.ref p0), some (.ref p1), some (.int p2), some (.int p3), some (.int e6), some (.int (q5 + 1)), none, none]) ok dX6_playTurn_151 rfl rfl (by rw [cc_iconst_1]) rfl ?_
      refine sw_goto (tgt := 46) ok dX6_playTurn_154 (by decide) ?_
      exact ih e6 (q5 + 1)
    exact W_X6_playTurn_61 ok okr REC hREC k7 p0 p1 p2 p3 q5 hk7 4000 q4 (q5 + 1)
set_option maxHeartbeats 4000000 in
set_option maxRecDepth 100000 in
theorem W_X6_playTurn {Γ : Cx} {d0 : Nat} (ok : OKc Γ cX6_playTurn RX6 (d0 + 1 + 4) "playTurn") (okr : OKr Γ cX6_playTurn (some .int)) (n : Nat) (hREC : ∀ (a0 : Nat) (a1 : Nat) (x2 : Int32), Sim (d0 + 4) yX6_playTurn cX6_playTurn 8 (some .int) iI [.ref a0, .ref a1, .int x2] (P_X6_playTurn n a0 a1 x2)) (a0 : Nat) (a1 : Nat) (x2 : Int32) : SW Γ iI 0 [some (.ref a0), some (.ref a1), some (.int x2), none, none, none, none, none] [] (P_X6_playTurn (n + 1) a0 a1 x2) := by
  unfold P_X6_playTurn
  refine sw_iload_n (z := x2) (pc' := 1) ok dX6_playTurn_0 rfl rfl ?_
  refine sw_if_lt (tgt := 17) (pc' := 4) ok dX6_playTurn_1 (by decide) rfl ?_ ?_
  · refine sw_iconst (v := 0) (pc' := 18) ok dX6_playTurn_17 rfl cc_iconst_0 ?_
    exact sw_ret ok okr dX6_playTurn_18 trivial rfl
  refine sw_iload_n (z := x2) (pc' := 5) ok dX6_playTurn_4 rfl rfl ?_
  refine sw_aload_n (z := a0) (pc' := 6) ok dX6_playTurn_5 rfl rfl ?_
  refine sw_getI (pc' := 9) ok (fr_X6_27.g) dX6_playTurn_6 rfl (fun v1 => ?_)
  refine sw_icmp_ge (tgt := 17) (pc' := 12) ok dX6_playTurn_9 (by decide) rfl ?_ ?_
  · refine sw_iconst (v := 0) (pc' := 18) ok dX6_playTurn_17 rfl cc_iconst_0 ?_
    exact sw_ret ok okr dX6_playTurn_18 trivial rfl
  refine sw_iload_n (z := x2) (pc' := 13) ok dX6_playTurn_12 rfl rfl ?_
  refine sw_iconst (v := 3) (pc' := 14) ok dX6_playTurn_13 rfl cc_iconst_3 ?_
  refine sw_icmp_lt (tgt := 19) (pc' := 17) ok dX6_playTurn_14 (by decide) rfl ?_ ?_
  · refine sw_iload_n (z := x2) (pc' := 20) ok dX6_playTurn_19 rfl rfl ?_
    refine sw_iconst (v := 2) (pc' := 21) ok dX6_playTurn_20 rfl cc_iconst_2 ?_
    refine sw_remI (pc' := 22) ok dX6_playTurn_21 rfl (fun v2 => ?_)
    refine sw_jn (fun k22 : Int32 → PM Int32 => ∀ (j3 : Int32), SW Γ iI 30 [some (.ref a0), some (.ref a1), some (.int x2), none, none, none, none, none] [.int j3] (k22 j3)) ?_ (fun k22 hk22 => ?_)
    · intro j3
      refine sw_istore_n (pc' := 31) (l' := [some (.ref a0), some (.ref a1), some (.int x2), some (.int j3), none, none, none, none]) ok dX6_playTurn_30 rfl (Nat.le_of_ble_eq_true rfl) rfl ?_
      refine sw_iload_n (z := j3) (pc' := 32) ok dX6_playTurn_31 rfl rfl ?_
      refine sw_jn (fun k21 : Int32 → PM Int32 => ∀ (j4 : Int32), SW Γ iI 41 [some (.ref a0), some (.ref a1), some (.int x2), some (.int j3), none, none, none, none] [.int j4] (k21 j4)) ?_ (fun k21 hk21 => ?_)
      · intro j4
        refine sw_istore (pc' := 43) (l' := [some (.ref a0), some (.ref a1), some (.int x2), some (.int j3), some (.int j4), none, none, none]) ok dX6_playTurn_41 rfl (Nat.le_of_ble_eq_true rfl) rfl ?_
        refine sw_iconst (v := 0) (pc' := 44) ok dX6_playTurn_43 rfl cc_iconst_0 ?_
        refine sw_istore (pc' := 46) (l' := [some (.ref a0), some (.ref a1), some (.int x2), some (.int j3), some (.int j4), some (.int 0), none, none]) ok dX6_playTurn_44 rfl (Nat.le_of_ble_eq_true rfl) rfl ?_
        exact W_X6_playTurn_46 ok okr (P_X6_playTurn n) hREC a0 a1 x2 j3 4000 j4 0
      refine sw_if_eq (tgt := 39) (pc' := 35) ok dX6_playTurn_32 (by decide) rfl ?_ ?_
      · refine sw_bipush (v := 61) (pc' := 41) ok dX6_playTurn_39 rfl cc_bipush_61 ?_
        exact hk21 61
      refine sw_iconst (v := (-1)) (pc' := 36) ok dX6_playTurn_35 rfl cc_iconst_m1 ?_
      refine sw_goto (tgt := 41) ok dX6_playTurn_36 (by decide) ?_
      exact hk21 ((-1))
    refine sw_if_ne (tgt := 29) (pc' := 25) ok dX6_playTurn_22 (by decide) rfl ?_ ?_
    · refine sw_iconst (v := 0) (pc' := 30) ok dX6_playTurn_29 rfl cc_iconst_0 ?_
      exact hk22 0
    refine sw_iconst (v := 1) (pc' := 26) ok dX6_playTurn_25 rfl cc_iconst_1 ?_
    refine sw_goto (tgt := 30) ok dX6_playTurn_26 (by decide) ?_
    exact hk22 1
  refine sw_iconst (v := 0) (pc' := 18) ok dX6_playTurn_17 rfl cc_iconst_0 ?_
  exact sw_ret ok okr dX6_playTurn_18 trivial rfl
theorem S_X6_playTurn : ∀ (n : Nat) (a0 : Nat) (a1 : Nat) (x2 : Int32), Sim (n + 4) yX6_playTurn cX6_playTurn 8 (some .int) iI [.ref a0, .ref a1, .int x2] (P_X6_playTurn n a0 a1 x2) := by
  intro n
  induction n with
  | zero =>
    intros
    exact ⟨wd_990, by decide, fun _ _ _ _ _ h => by cases h⟩
  | succ n ih =>
    intro a0 a1 x2
    have hd : n + 1 + 4 = n + 1 + 4 := rfl
    exact Sim.intro wd_990 (by decide) (by decide +kernel) (Nat.le_of_ble_eq_true rfl) (fun Γ ok okr => W_X6_playTurn (d0 := n) ok okr n ih a0 a1 x2)
theorem dX6_byTurns_0 : decode cX6_byTurns 0 = .ok (.aload_n 0, 1) := by decide +kernel
theorem dX6_byTurns_1 : decode cX6_byTurns 1 = .ok (.aload_n 2, 1) := by decide +kernel
theorem dX6_byTurns_2 : decode cX6_byTurns 2 = .ok (.invokevirtual 58, 3) := by decide +kernel
theorem dX6_byTurns_5 : decode cX6_byTurns 5 = .ok (.pop, 1) := by decide +kernel
theorem dX6_byTurns_6 : decode cX6_byTurns 6 = .ok (.aload_n 0, 1) := by decide +kernel
theorem dX6_byTurns_7 : decode cX6_byTurns 7 = .ok (.iconst 0, 1) := by decide +kernel
theorem dX6_byTurns_8 : decode cX6_byTurns 8 = .ok (.iload_n 3, 1) := by decide +kernel
theorem dX6_byTurns_9 : decode cX6_byTurns 9 = .ok (.iconst 3, 1) := by decide +kernel
theorem dX6_byTurns_10 : decode cX6_byTurns 10 = .ok (.invokestatic 62, 3) := by decide +kernel
theorem dX6_byTurns_13 : decode cX6_byTurns 13 = .ok (.invokestatic 68, 3) := by decide +kernel
theorem dX6_byTurns_16 : decode cX6_byTurns 16 = .ok (.putfield 27, 3) := by decide +kernel
theorem dX6_byTurns_19 : decode cX6_byTurns 19 = .ok (.aload_n 0, 1) := by decide +kernel
theorem dX6_byTurns_20 : decode cX6_byTurns 20 = .ok (.getfield 27, 3) := by decide +kernel
theorem dX6_byTurns_23 : decode cX6_byTurns 23 = .ok (.ifCond .ne 10, 3) := by decide +kernel
theorem dX6_byTurns_26 : decode cX6_byTurns 26 = .ok (.aload_n 2, 1) := by decide +kernel
theorem dX6_byTurns_27 : decode cX6_byTurns 27 = .ok (.getfield 71, 3) := by decide +kernel
theorem dX6_byTurns_30 : decode cX6_byTurns 30 = .ok (.goto 9, 3) := by decide +kernel
theorem dX6_byTurns_33 : decode cX6_byTurns 33 = .ok (.aload_n 0, 1) := by decide +kernel
theorem dX6_byTurns_34 : decode cX6_byTurns 34 = .ok (.aload_n 1, 1) := by decide +kernel
theorem dX6_byTurns_35 : decode cX6_byTurns 35 = .ok (.iconst 0, 1) := by decide +kernel
theorem dX6_byTurns_36 : decode cX6_byTurns 36 = .ok (.invokestatic 126, 3) := by decide +kernel
theorem dX6_byTurns_39 : decode cX6_byTurns 39 = .ok (.ireturn, 1) := by decide +kernel
def P_X6_byTurns (a0 : Nat) (a1 : Nat) (a2 : Nat) (x3 : Int32) : PM Int32 :=
cllV 6 a0 (P_X6_beginAside a0 a2) fun v1 =>
cll0 (P_J9_min_7cf53 x3 3) fun v2 =>
cll0 (P_J9_max_7cf53 0 v2) fun v3 =>
setI 6 4 a0 v3 <|
getI 6 4 a0 fun v4 =>
ifB (decide (¬ v4 = 0)) (
cll0 (P_X6_playTurn 10 a0 a1 0) fun v5 =>
pureM v5) (
getI 1 2 a2 fun v6 =>
pureM v6)
set_option maxHeartbeats 4000000 in
set_option maxRecDepth 100000 in
theorem W_X6_byTurns {Γ : Cx} (ok : OKc Γ cX6_byTurns RX6 15 "byTurns") (okr : OKr Γ cX6_byTurns (some .int)) (a0 : Nat) (a1 : Nat) (a2 : Nat) (x3 : Int32) : SW Γ iI 0 [some (.ref a0), some (.ref a1), some (.ref a2), some (.int x3)] [] (P_X6_byTurns a0 a1 a2 x3) := by
  unfold P_X6_byTurns
  refine sw_aload_n (z := a0) (pc' := 1) ok dX6_byTurns_0 rfl rfl ?_
  refine sw_aload_n (z := a2) (pc' := 2) ok dX6_byTurns_1 rfl rfl ?_
  refine sw_cllV_R (st := []) (as := [.ref a2]) (pc' := 5) ok (S_X6_beginAside a0 a2) (by decide) lk_X6_58 rfl dX6_byTurns_2 rfl (Nat.le_of_ble_eq_true rfl) rfl (fun v1 => ?_)
  refine sw_pop (pc' := 6) ok dX6_byTurns_5 rfl rfl ?_
  refine sw_aload_n (z := a0) (pc' := 7) ok dX6_byTurns_6 rfl rfl ?_
  refine sw_iconst (v := 0) (pc' := 8) ok dX6_byTurns_7 rfl cc_iconst_0 ?_
  refine sw_iload_n (z := x3) (pc' := 9) ok dX6_byTurns_8 rfl rfl ?_
  refine sw_iconst (v := 3) (pc' := 10) ok dX6_byTurns_9 rfl cc_iconst_3 ?_
  refine sw_cll0_I (st := [.int 0, .ref a0]) (as := [.int x3, .int 3]) (pc' := 13) ok (S_J9_min_7cf53 x3 3) (by decide) lk_X6_62 rfl dX6_byTurns_10 rfl (Nat.le_of_ble_eq_true rfl) rfl (fun v2 => ?_)
  refine sw_cll0_I (st := [.ref a0]) (as := [.int 0, .int v2]) (pc' := 16) ok (S_J9_max_7cf53 0 v2) (by decide) lk_X6_68 rfl dX6_byTurns_13 rfl (Nat.le_of_ble_eq_true rfl) rfl (fun v3 => ?_)
  refine sw_setI (pc' := 19) ok fr_X6_27 dX6_byTurns_16 (fun h => by cases h) rfl ?_
  refine sw_aload_n (z := a0) (pc' := 20) ok dX6_byTurns_19 rfl rfl ?_
  refine sw_getI (pc' := 23) ok (fr_X6_27.g) dX6_byTurns_20 rfl (fun v4 => ?_)
  refine sw_if_ne (tgt := 33) (pc' := 26) ok dX6_byTurns_23 (by decide) rfl ?_ ?_
  · refine sw_aload_n (z := a0) (pc' := 34) ok dX6_byTurns_33 rfl rfl ?_
    refine sw_aload_n (z := a1) (pc' := 35) ok dX6_byTurns_34 rfl rfl ?_
    refine sw_iconst (v := 0) (pc' := 36) ok dX6_byTurns_35 rfl cc_iconst_0 ?_
    refine sw_cll0_I (st := []) (as := [.ref a0, .ref a1, .int 0]) (pc' := 39) ok (S_X6_playTurn 10 a0 a1 0) (by decide) lk_X6_126 rfl dX6_byTurns_36 rfl (Nat.le_of_ble_eq_true rfl) rfl (fun v5 => ?_)
    exact sw_ret ok okr dX6_byTurns_39 trivial rfl
  refine sw_aload_n (z := a2) (pc' := 27) ok dX6_byTurns_26 rfl rfl ?_
  refine sw_getI (pc' := 30) ok (fr_X6_71.g) dX6_byTurns_27 rfl (fun v6 => ?_)
  refine sw_goto (tgt := 39) ok dX6_byTurns_30 (by decide) ?_
  exact sw_ret ok okr dX6_byTurns_39 trivial rfl
theorem S_X6_byTurns (a0 : Nat) (a1 : Nat) (a2 : Nat) (x3 : Int32) : Sim 15 yX6_byTurns cX6_byTurns 4 (some .int) iI [.ref a0, .ref a1, .ref a2, .int x3] (P_X6_byTurns a0 a1 a2 x3) := Sim.intro wd_991 (by decide) (by decide +kernel) (Nat.le_of_ble_eq_true rfl) (fun Γ ok okr => W_X6_byTurns ok okr a0 a1 a2 x3)
theorem dX7_init_0 : decode cX7_init 0 = .ok (.aload_n 0, 1) := by decide +kernel
theorem dX7_init_1 : decode cX7_init 1 = .ok (.invokespecial 1, 3) := by decide +kernel
theorem dX7_init_4 : decode cX7_init 4 = .ok (.aload_n 0, 1) := by decide +kernel
theorem dX7_init_5 : decode cX7_init 5 = .ok (.bipush 6, 2) := by decide +kernel
theorem dX7_init_7 : decode cX7_init 7 = .ok (.anewarray 9, 3) := by decide +kernel
theorem dX7_init_10 : decode cX7_init 10 = .ok (.putfield 11, 3) := by decide +kernel
theorem dX7_init_13 : decode cX7_init 13 = .ok (.aload_n 0, 1) := by decide +kernel
theorem dX7_init_14 : decode cX7_init 14 = .ok (.iconst 4, 1) := by decide +kernel
theorem dX7_init_15 : decode cX7_init 15 = .ok (.anewarray 9, 3) := by decide +kernel
theorem dX7_init_18 : decode cX7_init 18 = .ok (.putfield 15, 3) := by decide +kernel
theorem dX7_init_21 : decode cX7_init 21 = .ok (.aload_n 0, 1) := by decide +kernel
theorem dX7_init_22 : decode cX7_init 22 = .ok (.iconst 3, 1) := by decide +kernel
theorem dX7_init_23 : decode cX7_init 23 = .ok (.anewarray 18, 3) := by decide +kernel
theorem dX7_init_26 : decode cX7_init 26 = .ok (.putfield 20, 3) := by decide +kernel
theorem dX7_init_29 : decode cX7_init 29 = .ok (.aload_n 0, 1) := by decide +kernel
theorem dX7_init_30 : decode cX7_init 30 = .ok (.new 24, 3) := by decide +kernel
theorem dX7_init_33 : decode cX7_init 33 = .ok (.dup, 1) := by decide +kernel
theorem dX7_init_34 : decode cX7_init 34 = .ok (.invokespecial 26, 3) := by decide +kernel
theorem dX7_init_37 : decode cX7_init 37 = .ok (.putfield 27, 3) := by decide +kernel
theorem dX7_init_40 : decode cX7_init 40 = .ok (.aload_n 0, 1) := by decide +kernel
theorem dX7_init_41 : decode cX7_init 41 = .ok (.new 31, 3) := by decide +kernel
theorem dX7_init_44 : decode cX7_init 44 = .ok (.dup, 1) := by decide +kernel
theorem dX7_init_45 : decode cX7_init 45 = .ok (.invokespecial 33, 3) := by decide +kernel
theorem dX7_init_48 : decode cX7_init 48 = .ok (.putfield 34, 3) := by decide +kernel
theorem dX7_init_51 : decode cX7_init 51 = .ok (.aload_n 0, 1) := by decide +kernel
theorem dX7_init_52 : decode cX7_init 52 = .ok (.new 18, 3) := by decide +kernel
theorem dX7_init_55 : decode cX7_init 55 = .ok (.dup, 1) := by decide +kernel
theorem dX7_init_56 : decode cX7_init 56 = .ok (.invokespecial 38, 3) := by decide +kernel
theorem dX7_init_59 : decode cX7_init 59 = .ok (.putfield 39, 3) := by decide +kernel
theorem dX7_init_62 : decode cX7_init 62 = .ok (.aload_n 0, 1) := by decide +kernel
theorem dX7_init_63 : decode cX7_init 63 = .ok (.new 43, 3) := by decide +kernel
theorem dX7_init_66 : decode cX7_init 66 = .ok (.dup, 1) := by decide +kernel
theorem dX7_init_67 : decode cX7_init 67 = .ok (.invokespecial 45, 3) := by decide +kernel
theorem dX7_init_70 : decode cX7_init 70 = .ok (.putfield 46, 3) := by decide +kernel
theorem dX7_init_73 : decode cX7_init 73 = .ok (.aload_n 0, 1) := by decide +kernel
theorem dX7_init_74 : decode cX7_init 74 = .ok (.new 50, 3) := by decide +kernel
theorem dX7_init_77 : decode cX7_init 77 = .ok (.dup, 1) := by decide +kernel
theorem dX7_init_78 : decode cX7_init 78 = .ok (.invokespecial 52, 3) := by decide +kernel
theorem dX7_init_81 : decode cX7_init 81 = .ok (.putfield 53, 3) := by decide +kernel
theorem dX7_init_84 : decode cX7_init 84 = .ok (.aload_n 0, 1) := by decide +kernel
theorem dX7_init_85 : decode cX7_init 85 = .ok (.bipush 6, 2) := by decide +kernel
theorem dX7_init_87 : decode cX7_init 87 = .ok (.newarray .int, 2) := by decide +kernel
theorem dX7_init_89 : decode cX7_init 89 = .ok (.putfield 57, 3) := by decide +kernel
theorem dX7_init_92 : decode cX7_init 92 = .ok (.aload_n 0, 1) := by decide +kernel
theorem dX7_init_93 : decode cX7_init 93 = .ok (.iconst 0, 1) := by decide +kernel
theorem dX7_init_94 : decode cX7_init 94 = .ok (.putfield 61, 3) := by decide +kernel
theorem dX7_init_97 : decode cX7_init 97 = .ok (.aload_n 0, 1) := by decide +kernel
theorem dX7_init_98 : decode cX7_init 98 = .ok (.iconst 0, 1) := by decide +kernel
theorem dX7_init_99 : decode cX7_init 99 = .ok (.putfield 65, 3) := by decide +kernel
theorem dX7_init_102 : decode cX7_init 102 = .ok (.aload_n 0, 1) := by decide +kernel
theorem dX7_init_103 : decode cX7_init 103 = .ok (.lconst 0, 1) := by decide +kernel
theorem dX7_init_104 : decode cX7_init 104 = .ok (.putfield 68, 3) := by decide +kernel
theorem dX7_init_107 : decode cX7_init 107 = .ok (.aload_n 0, 1) := by decide +kernel
theorem dX7_init_108 : decode cX7_init 108 = .ok (.lconst 1, 1) := by decide +kernel
theorem dX7_init_109 : decode cX7_init 109 = .ok (.putfield 72, 3) := by decide +kernel
theorem dX7_init_112 : decode cX7_init 112 = .ok (.iconst 0, 1) := by decide +kernel
theorem dX7_init_113 : decode cX7_init 113 = .ok (.istore_n 1, 1) := by decide +kernel
theorem dX7_init_114 : decode cX7_init 114 = .ok (.iload_n 1, 1) := by decide +kernel
theorem dX7_init_115 : decode cX7_init 115 = .ok (.bipush 6, 2) := by decide +kernel
theorem dX7_init_117 : decode cX7_init 117 = .ok (.if_icmp .ge 25, 3) := by decide +kernel
theorem dX7_init_120 : decode cX7_init 120 = .ok (.aload_n 0, 1) := by decide +kernel
theorem dX7_init_121 : decode cX7_init 121 = .ok (.getfield 11, 3) := by decide +kernel
theorem dX7_init_124 : decode cX7_init 124 = .ok (.iload_n 1, 1) := by decide +kernel
theorem dX7_init_125 : decode cX7_init 125 = .ok (.new 9, 3) := by decide +kernel
theorem dX7_init_128 : decode cX7_init 128 = .ok (.dup, 1) := by decide +kernel
theorem dX7_init_129 : decode cX7_init 129 = .ok (.bipush 40, 2) := by decide +kernel
theorem dX7_init_131 : decode cX7_init 131 = .ok (.iconst 0, 1) := by decide +kernel
theorem dX7_init_132 : decode cX7_init 132 = .ok (.invokespecial 75, 3) := by decide +kernel
theorem dX7_init_135 : decode cX7_init 135 = .ok (.aastore, 1) := by decide +kernel
theorem dX7_init_136 : decode cX7_init 136 = .ok (.iinc 1 1, 3) := by decide +kernel
theorem dX7_init_139 : decode cX7_init 139 = .ok (.goto (-25), 3) := by decide +kernel
theorem dX7_init_142 : decode cX7_init 142 = .ok (.iconst 0, 1) := by decide +kernel
theorem dX7_init_143 : decode cX7_init 143 = .ok (.istore_n 1, 1) := by decide +kernel
theorem dX7_init_144 : decode cX7_init 144 = .ok (.iload_n 1, 1) := by decide +kernel
theorem dX7_init_145 : decode cX7_init 145 = .ok (.iconst 4, 1) := by decide +kernel
theorem dX7_init_146 : decode cX7_init 146 = .ok (.if_icmp .ge 26, 3) := by decide +kernel
theorem dX7_init_149 : decode cX7_init 149 = .ok (.aload_n 0, 1) := by decide +kernel
theorem dX7_init_150 : decode cX7_init 150 = .ok (.getfield 15, 3) := by decide +kernel
theorem dX7_init_153 : decode cX7_init 153 = .ok (.iload_n 1, 1) := by decide +kernel
theorem dX7_init_154 : decode cX7_init 154 = .ok (.new 9, 3) := by decide +kernel
theorem dX7_init_157 : decode cX7_init 157 = .ok (.dup, 1) := by decide +kernel
theorem dX7_init_158 : decode cX7_init 158 = .ok (.bipush 60, 2) := by decide +kernel
theorem dX7_init_160 : decode cX7_init 160 = .ok (.bipush 32, 2) := by decide +kernel
theorem dX7_init_162 : decode cX7_init 162 = .ok (.invokespecial 75, 3) := by decide +kernel
theorem dX7_init_165 : decode cX7_init 165 = .ok (.aastore, 1) := by decide +kernel
theorem dX7_init_166 : decode cX7_init 166 = .ok (.iinc 1 1, 3) := by decide +kernel
theorem dX7_init_169 : decode cX7_init 169 = .ok (.goto (-25), 3) := by decide +kernel
theorem dX7_init_172 : decode cX7_init 172 = .ok (.iconst 0, 1) := by decide +kernel
theorem dX7_init_173 : decode cX7_init 173 = .ok (.istore_n 1, 1) := by decide +kernel
theorem dX7_init_174 : decode cX7_init 174 = .ok (.iload_n 1, 1) := by decide +kernel
theorem dX7_init_175 : decode cX7_init 175 = .ok (.iconst 3, 1) := by decide +kernel
theorem dX7_init_176 : decode cX7_init 176 = .ok (.if_icmp .ge 22, 3) := by decide +kernel
theorem dX7_init_179 : decode cX7_init 179 = .ok (.aload_n 0, 1) := by decide +kernel
theorem dX7_init_180 : decode cX7_init 180 = .ok (.getfield 20, 3) := by decide +kernel
theorem dX7_init_183 : decode cX7_init 183 = .ok (.iload_n 1, 1) := by decide +kernel
theorem dX7_init_184 : decode cX7_init 184 = .ok (.new 18, 3) := by decide +kernel
theorem dX7_init_187 : decode cX7_init 187 = .ok (.dup, 1) := by decide +kernel
theorem dX7_init_188 : decode cX7_init 188 = .ok (.invokespecial 38, 3) := by decide +kernel
theorem dX7_init_191 : decode cX7_init 191 = .ok (.aastore, 1) := by decide +kernel
theorem dX7_init_192 : decode cX7_init 192 = .ok (.iinc 1 1, 3) := by decide +kernel
theorem dX7_init_195 : decode cX7_init 195 = .ok (.goto (-21), 3) := by decide +kernel
theorem dX7_init_198 : decode cX7_init 198 = .ok (.return_, 1) := by decide +kernel
def P_X7_init_174 (p0 : Nat) : Nat → Int32 → PM Unit
  | 0, _ => failM
  | n + 1, q1 =>
    ifB (decide (3 ≤ q1)) (
    pureM ()) (
    getR 7 2 p0 fun v10 =>
    newO 3 7 [.null, .null, .int 0, .int 0, .int 0, .int 0, .int 0] fun o11 =>
    cllA (P_X3_init o11) fun _ =>
    astR v10 q1 o11 <|
    P_X7_init_174 p0 n (q1 + 1))
def P_X7_init_144 (k_172 : PM Unit) (p0 : Nat) : Nat → Int32 → PM Unit
  | 0, _ => failM
  | n + 1, q1 =>
    ifB (decide (4 ≤ q1)) (
    k_172) (
    getR 7 1 p0 fun v13 =>
    newO 5 4 [.null, .int 0, .int 0, .int 0] fun o14 =>
    cllA (P_X5_init o14 60 32) fun _ =>
    astR v13 q1 o14 <|
    P_X7_init_144 k_172 p0 n (q1 + 1))
def P_X7_init_114 (k_142 : PM Unit) (p0 : Nat) : Nat → Int32 → PM Unit
  | 0, _ => failM
  | n + 1, q1 =>
    ifB (decide (6 ≤ q1)) (
    k_142) (
    getR 7 0 p0 fun v16 =>
    newO 5 4 [.null, .int 0, .int 0, .int 0] fun o17 =>
    cllA (P_X5_init o17 40 0) fun _ =>
    astR v16 q1 o17 <|
    P_X7_init_114 k_142 p0 n (q1 + 1))
def P_X7_init (a0 : Nat) : PM Unit :=
newR 0 6 fun o1 =>
setR 7 0 a0 o1 <|
newR 0 4 fun o2 =>
setR 7 1 a0 o2 <|
newR 1 3 fun o3 =>
setR 7 2 a0 o3 <|
newO 0 7 [.null, .null, .null, .null, .int 0, .int 0, .int 0] fun o4 =>
cllA (P_X0_init o4) fun _ =>
setR 7 3 a0 o4 <|
newO 4 2 [.null, .int 0] fun o5 =>
cllA (P_X4_init o5) fun _ =>
setR 7 4 a0 o5 <|
newO 3 7 [.null, .null, .int 0, .int 0, .int 0, .int 0, .int 0] fun o6 =>
cllA (P_X3_init o6) fun _ =>
setR 7 5 a0 o6 <|
newO 6 12 [.null, .null, .null, .null, .int 0, .int 0, .int 0, .int 0, .int 0, .int 0, .int 0, .int 0] fun o7 =>
cllA (P_X6_init o7) fun _ =>
setR 7 6 a0 o7 <|
newO 2 3 [.null, .null, .int 0] fun o8 =>
cllA (P_X2_init o8) fun _ =>
setR 7 7 a0 o8 <|
newA 6 fun o9 =>
setR 7 8 a0 o9 <|
setI 7 9 a0 0 <|
setI 7 10 a0 0 <|
setL 7 11 a0 0 <|
setL 7 12 a0 1 <|
jn (
jn (
P_X7_init_174 a0 4000 0) fun k12 =>
P_X7_init_144 k12 a0 4000 0) fun k15 =>
P_X7_init_114 k15 a0 4000 0
set_option maxHeartbeats 4000000 in
set_option maxRecDepth 100000 in
theorem W_X7_init_174 {Γ : Cx} (ok : OKc Γ cX7_init RX7 3 "<init>") (okr : OKr Γ cX7_init (none)) (p0 : Nat) : ∀ (n : Nat) (q1 : Int32), SW Γ iU 174 [some (.ref p0), some (.int q1)] [] (P_X7_init_174 p0 n q1) := by
  intro n
  induction n with
  | zero =>
    intros
    exact sw_fail
  | succ n ih =>
    intro q1
    unfold P_X7_init_174
    refine sw_iload_n (z := q1) (pc' := 175) ok dX7_init_174 rfl rfl ?_
    refine sw_iconst (v := 3) (pc' := 176) ok dX7_init_175 rfl cc_iconst_3 ?_
    refine sw_icmp_ge (tgt := 198) (pc' := 179) ok dX7_init_176 (by decide) rfl ?_ ?_
    · exact sw_ret ok okr dX7_init_198 trivial rfl
    refine sw_aload_n (z := p0) (pc' := 180) ok dX7_init_179 rfl rfl ?_
    refine sw_getR (pc' := 183) ok (fr_X7_20.g) dX7_init_180 rfl (fun v10 => ?_)
    refine sw_iload_n (z := q1) (pc' := 184) ok dX7_init_183 rfl rfl ?_
    refine sw_newO (T := TX3) (pc' := 187) ok rfl ck_X3 tyX3_ok wd_233 wd_243 wd_99 df_X3 dX7_init_184 rfl (fun o11 => ?_)
    refine sw_dup (pc' := 188) ok dX7_init_187 rfl rfl ?_
    refine sw_cllA_U (st := [.ref o11, .int q1, .ref v10]) (as := []) (pc' := 191) ok (S_X3_init o11) (by decide) lk_X7_38 rfl dX7_init_188 rfl (Nat.le_of_ble_eq_true rfl) rfl (fun _ => ?_)
    refine sw_astR (pc' := 192) ok dX7_init_191 rfl ?_
    refine sw_iinc (z := q1) (v := q1 + 1) (pc' := 195) (l' := [some (.ref p0), some (.int (q1 + 1))]) ok dX7_init_192 rfl rfl (by rw [cc_iconst_1]) rfl ?_
    refine sw_goto (tgt := 174) ok dX7_init_195 (by decide) ?_
    exact ih (q1 + 1)
set_option maxHeartbeats 4000000 in
set_option maxRecDepth 100000 in
theorem W_X7_init_144 {Γ : Cx} (ok : OKc Γ cX7_init RX7 3 "<init>") (okr : OKr Γ cX7_init (none)) (k_172 : PM Unit) (p0 : Nat) (hk_172 : SW Γ iU 172 [some (.ref p0), none] [] (k_172)) : ∀ (n : Nat) (q1 : Int32), SW Γ iU 144 [some (.ref p0), some (.int q1)] [] (P_X7_init_144 k_172 p0 n q1) := by
  intro n
  induction n with
  | zero =>
    intros
    exact sw_fail
  | succ n ih =>
    intro q1
    unfold P_X7_init_144
    refine sw_iload_n (z := q1) (pc' := 145) ok dX7_init_144 rfl rfl ?_
    refine sw_iconst (v := 4) (pc' := 146) ok dX7_init_145 rfl cc_iconst_4 ?_
    refine sw_icmp_ge (tgt := 172) (pc' := 149) ok dX7_init_146 (by decide) rfl ?_ ?_
    · refine sw_fg (l' := [some (.ref p0), none]) [true, false] rfl ?_
      exact hk_172
    refine sw_aload_n (z := p0) (pc' := 150) ok dX7_init_149 rfl rfl ?_
    refine sw_getR (pc' := 153) ok (fr_X7_15.g) dX7_init_150 rfl (fun v13 => ?_)
    refine sw_iload_n (z := q1) (pc' := 154) ok dX7_init_153 rfl rfl ?_
    refine sw_newO (T := TX5) (pc' := 157) ok rfl ck_X5 tyX5_ok wd_230 wd_262 wd_141 df_X5 dX7_init_154 rfl (fun o14 => ?_)
    refine sw_dup (pc' := 158) ok dX7_init_157 rfl rfl ?_
    refine sw_bipush (v := 60) (pc' := 160) ok dX7_init_158 rfl cc_bipush_60 ?_
    refine sw_bipush (v := 32) (pc' := 162) ok dX7_init_160 rfl cc_bipush_32 ?_
    refine sw_cllA_U (st := [.ref o14, .int q1, .ref v13]) (as := [.int 60, .int 32]) (pc' := 165) ok (S_X5_init o14 60 32) (by decide) lk_X7_75 rfl dX7_init_162 rfl (Nat.le_of_ble_eq_true rfl) rfl (fun _ => ?_)
    refine sw_astR (pc' := 166) ok dX7_init_165 rfl ?_
    refine sw_iinc (z := q1) (v := q1 + 1) (pc' := 169) (l' := [some (.ref p0), some (.int (q1 + 1))]) ok dX7_init_166 rfl rfl (by rw [cc_iconst_1]) rfl ?_
    refine sw_goto (tgt := 144) ok dX7_init_169 (by decide) ?_
    exact ih (q1 + 1)
set_option maxHeartbeats 4000000 in
set_option maxRecDepth 100000 in
theorem W_X7_init_114 {Γ : Cx} (ok : OKc Γ cX7_init RX7 3 "<init>") (okr : OKr Γ cX7_init (none)) (k_142 : PM Unit) (p0 : Nat) (hk_142 : SW Γ iU 142 [some (.ref p0), none] [] (k_142)) : ∀ (n : Nat) (q1 : Int32), SW Γ iU 114 [some (.ref p0), some (.int q1)] [] (P_X7_init_114 k_142 p0 n q1) := by
  intro n
  induction n with
  | zero =>
    intros
    exact sw_fail
  | succ n ih =>
    intro q1
    unfold P_X7_init_114
    refine sw_iload_n (z := q1) (pc' := 115) ok dX7_init_114 rfl rfl ?_
    refine sw_bipush (v := 6) (pc' := 117) ok dX7_init_115 rfl cc_bipush_6 ?_
    refine sw_icmp_ge (tgt := 142) (pc' := 120) ok dX7_init_117 (by decide) rfl ?_ ?_
    · refine sw_fg (l' := [some (.ref p0), none]) [true, false] rfl ?_
      exact hk_142
    refine sw_aload_n (z := p0) (pc' := 121) ok dX7_init_120 rfl rfl ?_
    refine sw_getR (pc' := 124) ok (fr_X7_11.g) dX7_init_121 rfl (fun v16 => ?_)
    refine sw_iload_n (z := q1) (pc' := 125) ok dX7_init_124 rfl rfl ?_
    refine sw_newO (T := TX5) (pc' := 128) ok rfl ck_X5 tyX5_ok wd_230 wd_262 wd_141 df_X5 dX7_init_125 rfl (fun o17 => ?_)
    refine sw_dup (pc' := 129) ok dX7_init_128 rfl rfl ?_
    refine sw_bipush (v := 40) (pc' := 131) ok dX7_init_129 rfl cc_bipush_40 ?_
    refine sw_iconst (v := 0) (pc' := 132) ok dX7_init_131 rfl cc_iconst_0 ?_
    refine sw_cllA_U (st := [.ref o17, .int q1, .ref v16]) (as := [.int 40, .int 0]) (pc' := 135) ok (S_X5_init o17 40 0) (by decide) lk_X7_75 rfl dX7_init_132 rfl (Nat.le_of_ble_eq_true rfl) rfl (fun _ => ?_)
    refine sw_astR (pc' := 136) ok dX7_init_135 rfl ?_
    refine sw_iinc (z := q1) (v := q1 + 1) (pc' := 139) (l' := [some (.ref p0), some (.int (q1 + 1))]) ok dX7_init_136 rfl rfl (by rw [cc_iconst_1]) rfl ?_
    refine sw_goto (tgt := 114) ok dX7_init_139 (by decide) ?_
    exact ih (q1 + 1)
set_option maxHeartbeats 4000000 in
set_option maxRecDepth 100000 in
theorem W_X7_init {Γ : Cx} (ok : OKc Γ cX7_init RX7 3 "<init>") (okr : OKr Γ cX7_init (none)) (a0 : Nat) : SW Γ iU 0 [some (.ref a0), none] [] (P_X7_init a0) := by
  unfold P_X7_init
  refine sw_aload_n (z := a0) (pc' := 1) ok dX7_init_0 rfl rfl ?_
  refine sw_obj (pc' := 4) ok wd_229 wd_1 wd_2 (by decide) dX7_init_1 rfl (Nat.le_of_ble_eq_true rfl) ?_
  refine sw_aload_n (z := a0) (pc' := 5) ok dX7_init_4 rfl rfl ?_
  refine sw_bipush (v := 6) (pc' := 7) ok dX7_init_5 rfl cc_bipush_6 ?_
  refine sw_newR (t := 0) (pc' := 10) ok (by decide) wd_230 dX7_init_7 rfl (fun o1 => ?_)
  refine sw_setR (pc' := 13) ok fr_X7_11 (fun _ => ⟨rfl, rfl⟩) dX7_init_10 (fun _ => rfl) rfl ?_
  refine sw_aload_n (z := a0) (pc' := 14) ok dX7_init_13 rfl rfl ?_
  refine sw_iconst (v := 4) (pc' := 15) ok dX7_init_14 rfl cc_iconst_4 ?_
  refine sw_newR (t := 0) (pc' := 18) ok (by decide) wd_230 dX7_init_15 rfl (fun o2 => ?_)
  refine sw_setR (pc' := 21) ok fr_X7_15 (fun _ => ⟨rfl, rfl⟩) dX7_init_18 (fun _ => rfl) rfl ?_
  refine sw_aload_n (z := a0) (pc' := 22) ok dX7_init_21 rfl rfl ?_
  refine sw_iconst (v := 3) (pc' := 23) ok dX7_init_22 rfl cc_iconst_3 ?_
  refine sw_newR (t := 1) (pc' := 26) ok (by decide) wd_233 dX7_init_23 rfl (fun o3 => ?_)
  refine sw_setR (pc' := 29) ok fr_X7_20 (fun _ => ⟨rfl, rfl⟩) dX7_init_26 (fun _ => rfl) rfl ?_
  refine sw_aload_n (z := a0) (pc' := 30) ok dX7_init_29 rfl rfl ?_
  refine sw_newO (T := TX0) (pc' := 33) ok rfl ck_X0 tyX0_ok wd_235 wd_123 wd_15 df_X0 dX7_init_30 rfl (fun o4 => ?_)
  refine sw_dup (pc' := 34) ok dX7_init_33 rfl rfl ?_
  refine sw_cllA_U (st := [.ref o4, .ref a0]) (as := []) (pc' := 37) ok (S_X0_init o4) (by decide) lk_X7_26 rfl dX7_init_34 rfl (Nat.le_of_ble_eq_true rfl) rfl (fun _ => ?_)
  refine sw_setR (pc' := 40) ok fr_X7_27 (fun _ => ⟨rfl, rfl⟩) dX7_init_37 (fun _ => rfl) rfl ?_
  refine sw_aload_n (z := a0) (pc' := 41) ok dX7_init_40 rfl rfl ?_
  refine sw_newO (T := TX4) (pc' := 44) ok rfl ck_X4 tyX4_ok wd_238 wd_239 wd_132 df_X4 dX7_init_41 rfl (fun o5 => ?_)
  refine sw_dup (pc' := 45) ok dX7_init_44 rfl rfl ?_
  refine sw_cllA_U (st := [.ref o5, .ref a0]) (as := []) (pc' := 48) ok (S_X4_init o5) (by decide) lk_X7_33 rfl dX7_init_45 rfl (Nat.le_of_ble_eq_true rfl) rfl (fun _ => ?_)
  refine sw_setR (pc' := 51) ok fr_X7_34 (fun _ => ⟨rfl, rfl⟩) dX7_init_48 (fun _ => rfl) rfl ?_
  refine sw_aload_n (z := a0) (pc' := 52) ok dX7_init_51 rfl rfl ?_
  refine sw_newO (T := TX3) (pc' := 55) ok rfl ck_X3 tyX3_ok wd_233 wd_243 wd_99 df_X3 dX7_init_52 rfl (fun o6 => ?_)
  refine sw_dup (pc' := 56) ok dX7_init_55 rfl rfl ?_
  refine sw_cllA_U (st := [.ref o6, .ref a0]) (as := []) (pc' := 59) ok (S_X3_init o6) (by decide) lk_X7_38 rfl dX7_init_56 rfl (Nat.le_of_ble_eq_true rfl) rfl (fun _ => ?_)
  refine sw_setR (pc' := 62) ok fr_X7_39 (fun _ => ⟨rfl, rfl⟩) dX7_init_59 (fun _ => rfl) rfl ?_
  refine sw_aload_n (z := a0) (pc' := 63) ok dX7_init_62 rfl rfl ?_
  refine sw_newO (T := TX6) (pc' := 66) ok rfl ck_X6 tyX6_ok wd_247 wd_248 wd_194 df_X6 dX7_init_63 rfl (fun o7 => ?_)
  refine sw_dup (pc' := 67) ok dX7_init_66 rfl rfl ?_
  refine sw_cllA_U (st := [.ref o7, .ref a0]) (as := []) (pc' := 70) ok (S_X6_init o7) (by decide) lk_X7_45 rfl dX7_init_67 rfl (Nat.le_of_ble_eq_true rfl) rfl (fun _ => ?_)
  refine sw_setR (pc' := 73) ok fr_X7_46 (fun _ => ⟨rfl, rfl⟩) dX7_init_70 (fun _ => rfl) rfl ?_
  refine sw_aload_n (z := a0) (pc' := 74) ok dX7_init_73 rfl rfl ?_
  refine sw_newO (T := TX2) (pc' := 77) ok rfl ck_X2 tyX2_ok wd_252 wd_253 wd_73 df_X2 dX7_init_74 rfl (fun o8 => ?_)
  refine sw_dup (pc' := 78) ok dX7_init_77 rfl rfl ?_
  refine sw_cllA_U (st := [.ref o8, .ref a0]) (as := []) (pc' := 81) ok (S_X2_init o8) (by decide) lk_X7_52 rfl dX7_init_78 rfl (Nat.le_of_ble_eq_true rfl) rfl (fun _ => ?_)
  refine sw_setR (pc' := 84) ok fr_X7_53 (fun _ => ⟨rfl, rfl⟩) dX7_init_81 (fun _ => rfl) rfl ?_
  refine sw_aload_n (z := a0) (pc' := 85) ok dX7_init_84 rfl rfl ?_
  refine sw_bipush (v := 6) (pc' := 87) ok dX7_init_85 rfl cc_bipush_6 ?_
  refine sw_newA (pc' := 89) ok wd_3 dX7_init_87 rfl (fun o9 => ?_)
  refine sw_setR (pc' := 92) ok fr_X7_57 (fun _ => ⟨rfl, rfl⟩) dX7_init_89 (fun _ => rfl) rfl ?_
  refine sw_aload_n (z := a0) (pc' := 93) ok dX7_init_92 rfl rfl ?_
  refine sw_iconst (v := 0) (pc' := 94) ok dX7_init_93 rfl cc_iconst_0 ?_
  refine sw_setI (pc' := 97) ok fr_X7_61 dX7_init_94 (fun h => by cases h) rfl ?_
  refine sw_aload_n (z := a0) (pc' := 98) ok dX7_init_97 rfl rfl ?_
  refine sw_iconst (v := 0) (pc' := 99) ok dX7_init_98 rfl cc_iconst_0 ?_
  refine sw_setI (pc' := 102) ok fr_X7_65 dX7_init_99 (fun h => by cases h) rfl ?_
  refine sw_aload_n (z := a0) (pc' := 103) ok dX7_init_102 rfl rfl ?_
  refine sw_lconst (v := 0) (pc' := 104) ok dX7_init_103 rfl cc_lconst_0 ?_
  refine sw_setL (pc' := 107) ok fr_X7_68 dX7_init_104 (fun h => by cases h) rfl ?_
  refine sw_aload_n (z := a0) (pc' := 108) ok dX7_init_107 rfl rfl ?_
  refine sw_lconst (v := 1) (pc' := 109) ok dX7_init_108 rfl cc_lconst_1 ?_
  refine sw_setL (pc' := 112) ok fr_X7_72 dX7_init_109 (fun h => by cases h) rfl ?_
  refine sw_iconst (v := 0) (pc' := 113) ok dX7_init_112 rfl cc_iconst_0 ?_
  refine sw_istore_n (pc' := 114) (l' := [some (.ref a0), some (.int 0)]) ok dX7_init_113 rfl (Nat.le_of_ble_eq_true rfl) rfl ?_
  refine sw_jn (fun k15 : PM Unit => SW Γ iU 142 [some (.ref a0), none] [] (k15)) ?_ (fun k15 hk15 => ?_)
  · refine sw_iconst (v := 0) (pc' := 143) ok dX7_init_142 rfl cc_iconst_0 ?_
    refine sw_istore_n (pc' := 144) (l' := [some (.ref a0), some (.int 0)]) ok dX7_init_143 rfl (Nat.le_of_ble_eq_true rfl) rfl ?_
    refine sw_jn (fun k12 : PM Unit => SW Γ iU 172 [some (.ref a0), none] [] (k12)) ?_ (fun k12 hk12 => ?_)
    · refine sw_iconst (v := 0) (pc' := 173) ok dX7_init_172 rfl cc_iconst_0 ?_
      refine sw_istore_n (pc' := 174) (l' := [some (.ref a0), some (.int 0)]) ok dX7_init_173 rfl (Nat.le_of_ble_eq_true rfl) rfl ?_
      exact W_X7_init_174 ok okr a0 4000 0
    exact W_X7_init_144 ok okr k12 a0 hk12 4000 0
  exact W_X7_init_114 ok okr k15 a0 hk15 4000 0
theorem S_X7_init (a0 : Nat) : Sim 3 yX7_init cX7_init 2 (none) iU [.ref a0] (P_X7_init a0) := Sim.intro wd_992 (by decide) (by decide +kernel) (Nat.le_of_ble_eq_true rfl) (fun Γ ok okr => W_X7_init ok okr a0)
theorem dX7_found_0 : decode cX7_found 0 = .ok (.aload_n 0, 1) := by decide +kernel
theorem dX7_found_1 : decode cX7_found 1 = .ok (.iload_n 1, 1) := by decide +kernel
theorem dX7_found_2 : decode cX7_found 2 = .ok (.putfield 61, 3) := by decide +kernel
theorem dX7_found_5 : decode cX7_found 5 = .ok (.iload_n 1, 1) := by decide +kernel
theorem dX7_found_6 : decode cX7_found 6 = .ok (.iconst 1, 1) := by decide +kernel
theorem dX7_found_7 : decode cX7_found 7 = .ok (.if_icmp .lt 18, 3) := by decide +kernel
theorem dX7_found_10 : decode cX7_found 10 = .ok (.iload_n 1, 1) := by decide +kernel
theorem dX7_found_11 : decode cX7_found 11 = .ok (.iconst 5, 1) := by decide +kernel
theorem dX7_found_12 : decode cX7_found 12 = .ok (.if_icmp .gt 13, 3) := by decide +kernel
theorem dX7_found_15 : decode cX7_found 15 = .ok (.aload_n 0, 1) := by decide +kernel
theorem dX7_found_16 : decode cX7_found 16 = .ok (.getfield 57, 3) := by decide +kernel
theorem dX7_found_19 : decode cX7_found 19 = .ok (.iload_n 1, 1) := by decide +kernel
theorem dX7_found_20 : decode cX7_found 20 = .ok (.dup2, 1) := by decide +kernel
theorem dX7_found_21 : decode cX7_found 21 = .ok (.iaload, 1) := by decide +kernel
theorem dX7_found_22 : decode cX7_found 22 = .ok (.iconst 1, 1) := by decide +kernel
theorem dX7_found_23 : decode cX7_found 23 = .ok (.iadd, 1) := by decide +kernel
theorem dX7_found_24 : decode cX7_found 24 = .ok (.iastore, 1) := by decide +kernel
theorem dX7_found_25 : decode cX7_found 25 = .ok (.bipush (-3), 2) := by decide +kernel
theorem dX7_found_27 : decode cX7_found 27 = .ok (.ireturn, 1) := by decide +kernel
def P_X7_found (a0 : Nat) (x1 : Int32) : PM Int32 :=
setI 7 9 a0 x1 <|
ifB (decide (x1 < 1)) (
pureM ((-3))) (
ifB (decide (5 < x1)) (
pureM ((-3))) (
getR 7 8 a0 fun v1 =>
ald v1 x1 fun v2 =>
ast v1 x1 (v2 + 1) <|
pureM ((-3))))
set_option maxHeartbeats 4000000 in
set_option maxRecDepth 100000 in
theorem W_X7_found {Γ : Cx} (ok : OKc Γ cX7_found RX7 0 "found") (okr : OKr Γ cX7_found (some .int)) (a0 : Nat) (x1 : Int32) : SW Γ iI 0 [some (.ref a0), some (.int x1)] [] (P_X7_found a0 x1) := by
  unfold P_X7_found
  refine sw_aload_n (z := a0) (pc' := 1) ok dX7_found_0 rfl rfl ?_
  refine sw_iload_n (z := x1) (pc' := 2) ok dX7_found_1 rfl rfl ?_
  refine sw_setI (pc' := 5) ok fr_X7_61 dX7_found_2 (fun h => by cases h) rfl ?_
  refine sw_iload_n (z := x1) (pc' := 6) ok dX7_found_5 rfl rfl ?_
  refine sw_iconst (v := 1) (pc' := 7) ok dX7_found_6 rfl cc_iconst_1 ?_
  refine sw_icmp_lt (tgt := 25) (pc' := 10) ok dX7_found_7 (by decide) rfl ?_ ?_
  · refine sw_bipush (v := (-3)) (pc' := 27) ok dX7_found_25 rfl cc_bipush_m3 ?_
    exact sw_ret ok okr dX7_found_27 trivial rfl
  refine sw_iload_n (z := x1) (pc' := 11) ok dX7_found_10 rfl rfl ?_
  refine sw_iconst (v := 5) (pc' := 12) ok dX7_found_11 rfl cc_iconst_5 ?_
  refine sw_icmp_gt (tgt := 25) (pc' := 15) ok dX7_found_12 (by decide) rfl ?_ ?_
  · refine sw_bipush (v := (-3)) (pc' := 27) ok dX7_found_25 rfl cc_bipush_m3 ?_
    exact sw_ret ok okr dX7_found_27 trivial rfl
  refine sw_aload_n (z := a0) (pc' := 16) ok dX7_found_15 rfl rfl ?_
  refine sw_getR (pc' := 19) ok (fr_X7_57.g) dX7_found_16 rfl (fun v1 => ?_)
  refine sw_iload_n (z := x1) (pc' := 20) ok dX7_found_19 rfl rfl ?_
  refine sw_dup2 (pc' := 21) ok dX7_found_20 rfl rfl rfl ?_
  refine sw_ald (pc' := 22) ok dX7_found_21 rfl (fun v2 => ?_)
  refine sw_iconst (v := 1) (pc' := 23) ok dX7_found_22 rfl cc_iconst_1 ?_
  refine sw_iadd (pc' := 24) ok dX7_found_23 rfl ?_
  refine sw_ast (pc' := 25) ok dX7_found_24 rfl ?_
  refine sw_bipush (v := (-3)) (pc' := 27) ok dX7_found_25 rfl cc_bipush_m3 ?_
  exact sw_ret ok okr dX7_found_27 trivial rfl
theorem S_X7_found (a0 : Nat) (x1 : Int32) : Sim 0 yX7_found cX7_found 2 (some .int) iI [.ref a0, .int x1] (P_X7_found a0 x1) := Sim.intro wd_993 (by decide) (by decide +kernel) (Nat.le_of_ble_eq_true rfl) (fun Γ ok okr => W_X7_found ok okr a0 x1)
theorem dX7_isRow_0 : decode cX7_isRow 0 = .ok (.iload_n 0, 1) := by decide +kernel
theorem dX7_isRow_1 : decode cX7_isRow 1 = .ok (.ifCond .lt 13, 3) := by decide +kernel
theorem dX7_isRow_4 : decode cX7_isRow 4 = .ok (.iload_n 0, 1) := by decide +kernel
theorem dX7_isRow_5 : decode cX7_isRow 5 = .ok (.bipush 6, 2) := by decide +kernel
theorem dX7_isRow_7 : decode cX7_isRow 7 = .ok (.if_icmp .ge 7, 3) := by decide +kernel
theorem dX7_isRow_10 : decode cX7_isRow 10 = .ok (.iconst 1, 1) := by decide +kernel
theorem dX7_isRow_11 : decode cX7_isRow 11 = .ok (.goto 4, 3) := by decide +kernel
theorem dX7_isRow_14 : decode cX7_isRow 14 = .ok (.iconst 0, 1) := by decide +kernel
theorem dX7_isRow_15 : decode cX7_isRow 15 = .ok (.ireturn, 1) := by decide +kernel
def P_X7_isRow (x0 : Int32) : PM Int32 :=
jn (
retZ 0) fun k1 =>
ifB (decide (x0 < 0)) (
k1) (
ifB (decide (6 ≤ x0)) (
k1) (
retZ 1))
set_option maxHeartbeats 4000000 in
set_option maxRecDepth 100000 in
theorem W_X7_isRow {Γ : Cx} (ok : OKc Γ cX7_isRow RX7 0 "isRow") (okr : OKr Γ cX7_isRow (some .boolean)) (x0 : Int32) : SW Γ iI 0 [some (.int x0)] [] (P_X7_isRow x0) := by
  unfold P_X7_isRow
  refine sw_iload_n (z := x0) (pc' := 1) ok dX7_isRow_0 rfl rfl ?_
  refine sw_jn (fun k1 : PM Int32 => SW Γ iI 14 [none] [] (k1)) ?_ (fun k1 hk1 => ?_)
  · refine sw_iconst (v := 0) (pc' := 15) ok dX7_isRow_14 rfl cc_iconst_0 ?_
    exact sw_retZ ok okr dX7_isRow_15
  refine sw_if_lt (tgt := 14) (pc' := 4) ok dX7_isRow_1 (by decide) rfl ?_ ?_
  · refine sw_fg (l' := [none]) [false] rfl ?_
    exact hk1
  refine sw_iload_n (z := x0) (pc' := 5) ok dX7_isRow_4 rfl rfl ?_
  refine sw_bipush (v := 6) (pc' := 7) ok dX7_isRow_5 rfl cc_bipush_6 ?_
  refine sw_icmp_ge (tgt := 14) (pc' := 10) ok dX7_isRow_7 (by decide) rfl ?_ ?_
  · refine sw_fg (l' := [none]) [false] rfl ?_
    exact hk1
  refine sw_iconst (v := 1) (pc' := 11) ok dX7_isRow_10 rfl cc_iconst_1 ?_
  refine sw_goto (tgt := 15) ok dX7_isRow_11 (by decide) ?_
  exact sw_retZ ok okr dX7_isRow_15
theorem S_X7_isRow (x0 : Int32) : Sim 0 yX7_isRow cX7_isRow 1 (some .boolean) iI [.int x0] (P_X7_isRow x0) := Sim.intro wd_994 (by decide) (by decide +kernel) (Nat.le_of_ble_eq_true rfl) (fun Γ ok okr => W_X7_isRow ok okr x0)
theorem dX7_row_0 : decode cX7_row 0 = .ok (.iload_n 1, 1) := by decide +kernel
theorem dX7_row_1 : decode cX7_row 1 = .ok (.invokestatic 78, 3) := by decide +kernel
theorem dX7_row_4 : decode cX7_row 4 = .ok (.ifCond .eq 9, 3) := by decide +kernel
theorem dX7_row_7 : decode cX7_row 7 = .ok (.iload_n 2, 1) := by decide +kernel
theorem dX7_row_8 : decode cX7_row 8 = .ok (.bipush 40, 2) := by decide +kernel
theorem dX7_row_10 : decode cX7_row 10 = .ok (.if_icmp .le 5, 3) := by decide +kernel
theorem dX7_row_13 : decode cX7_row 13 = .ok (.iconst (-1), 1) := by decide +kernel
theorem dX7_row_14 : decode cX7_row 14 = .ok (.ireturn, 1) := by decide +kernel
theorem dX7_row_15 : decode cX7_row 15 = .ok (.iload_n 2, 1) := by decide +kernel
theorem dX7_row_16 : decode cX7_row 16 = .ok (.ifCond .ge 9, 3) := by decide +kernel
theorem dX7_row_19 : decode cX7_row 19 = .ok (.aload_n 0, 1) := by decide +kernel
theorem dX7_row_20 : decode cX7_row 20 = .ok (.iconst 5, 1) := by decide +kernel
theorem dX7_row_21 : decode cX7_row 21 = .ok (.invokevirtual 82, 3) := by decide +kernel
theorem dX7_row_24 : decode cX7_row 24 = .ok (.ireturn, 1) := by decide +kernel
theorem dX7_row_25 : decode cX7_row 25 = .ok (.aload_n 0, 1) := by decide +kernel
theorem dX7_row_26 : decode cX7_row 26 = .ok (.getfield 11, 3) := by decide +kernel
theorem dX7_row_29 : decode cX7_row 29 = .ok (.iload_n 1, 1) := by decide +kernel
theorem dX7_row_30 : decode cX7_row 30 = .ok (.aaload, 1) := by decide +kernel
theorem dX7_row_31 : decode cX7_row 31 = .ok (.iload_n 2, 1) := by decide +kernel
theorem dX7_row_32 : decode cX7_row 32 = .ok (.invokevirtual 86, 3) := by decide +kernel
theorem dX7_row_35 : decode cX7_row 35 = .ok (.iload_n 2, 1) := by decide +kernel
theorem dX7_row_36 : decode cX7_row 36 = .ok (.ireturn, 1) := by decide +kernel
def P_X7_row (a0 : Nat) (x1 : Int32) (x2 : Int32) : PM Int32 :=
cll0 (P_X7_isRow x1) fun v1 =>
ifB (decide (v1 = 0)) (
pureM ((-1))) (
ifB (decide (x2 ≤ 40)) (
ifB (decide (0 ≤ x2)) (
getR 7 0 a0 fun v2 =>
aldR v2 x1 fun v3 =>
cllV 5 v3 (P_X5_begin v3 x2) fun _ =>
pureM x2) (
cllV 7 a0 (P_X7_found a0 5) fun v4 =>
pureM v4)) (
pureM ((-1))))
set_option maxHeartbeats 4000000 in
set_option maxRecDepth 100000 in
theorem W_X7_row {Γ : Cx} (ok : OKc Γ cX7_row RX7 2 "row") (okr : OKr Γ cX7_row (some .int)) (a0 : Nat) (x1 : Int32) (x2 : Int32) : SW Γ iI 0 [some (.ref a0), some (.int x1), some (.int x2)] [] (P_X7_row a0 x1 x2) := by
  unfold P_X7_row
  refine sw_iload_n (z := x1) (pc' := 1) ok dX7_row_0 rfl rfl ?_
  refine sw_cll0_I (st := []) (as := [.int x1]) (pc' := 4) ok (S_X7_isRow x1) (by decide) lk_X7_78 rfl dX7_row_1 rfl (Nat.le_of_ble_eq_true rfl) rfl (fun v1 => ?_)
  refine sw_if_eq (tgt := 13) (pc' := 7) ok dX7_row_4 (by decide) rfl ?_ ?_
  · refine sw_iconst (v := (-1)) (pc' := 14) ok dX7_row_13 rfl cc_iconst_m1 ?_
    exact sw_ret ok okr dX7_row_14 trivial rfl
  refine sw_iload_n (z := x2) (pc' := 8) ok dX7_row_7 rfl rfl ?_
  refine sw_bipush (v := 40) (pc' := 10) ok dX7_row_8 rfl cc_bipush_40 ?_
  refine sw_icmp_le (tgt := 15) (pc' := 13) ok dX7_row_10 (by decide) rfl ?_ ?_
  · refine sw_iload_n (z := x2) (pc' := 16) ok dX7_row_15 rfl rfl ?_
    refine sw_if_ge (tgt := 25) (pc' := 19) ok dX7_row_16 (by decide) rfl ?_ ?_
    · refine sw_aload_n (z := a0) (pc' := 26) ok dX7_row_25 rfl rfl ?_
      refine sw_getR (pc' := 29) ok (fr_X7_11.g) dX7_row_26 rfl (fun v2 => ?_)
      refine sw_iload_n (z := x1) (pc' := 30) ok dX7_row_29 rfl rfl ?_
      refine sw_aldR (pc' := 31) ok dX7_row_30 rfl (fun v3 => ?_)
      refine sw_iload_n (z := x2) (pc' := 32) ok dX7_row_31 rfl rfl ?_
      refine sw_cllV_U (st := []) (as := [.int x2]) (pc' := 35) ok (S_X5_begin v3 x2) (by decide) lk_X7_86 rfl dX7_row_32 rfl (Nat.le_of_ble_eq_true rfl) rfl (fun _ => ?_)
      refine sw_iload_n (z := x2) (pc' := 36) ok dX7_row_35 rfl rfl ?_
      exact sw_ret ok okr dX7_row_36 trivial rfl
    refine sw_aload_n (z := a0) (pc' := 20) ok dX7_row_19 rfl rfl ?_
    refine sw_iconst (v := 5) (pc' := 21) ok dX7_row_20 rfl cc_iconst_5 ?_
    refine sw_cllV_I (st := []) (as := [.int 5]) (pc' := 24) ok (S_X7_found a0 5) (by decide) lk_X7_82 rfl dX7_row_21 rfl (Nat.le_of_ble_eq_true rfl) rfl (fun v4 => ?_)
    exact sw_ret ok okr dX7_row_24 trivial rfl
  refine sw_iconst (v := (-1)) (pc' := 14) ok dX7_row_13 rfl cc_iconst_m1 ?_
  exact sw_ret ok okr dX7_row_14 trivial rfl
theorem S_X7_row (a0 : Nat) (x1 : Int32) (x2 : Int32) : Sim 2 yX7_row cX7_row 3 (some .int) iI [.ref a0, .int x1, .int x2] (P_X7_row a0 x1 x2) := Sim.intro wd_995 (by decide) (by decide +kernel) (Nat.le_of_ble_eq_true rfl) (fun Γ ok okr => W_X7_row ok okr a0 x1 x2)
theorem dX7_refusePlace_0 : decode cX7_refusePlace 0 = .ok (.aload_n 1, 1) := by decide +kernel
theorem dX7_refusePlace_1 : decode cX7_refusePlace 1 = .ok (.getfield 104, 3) := by decide +kernel
theorem dX7_refusePlace_4 : decode cX7_refusePlace 4 = .ok (.ifCond .ne 9, 3) := by decide +kernel
theorem dX7_refusePlace_7 : decode cX7_refusePlace 7 = .ok (.aload_n 0, 1) := by decide +kernel
theorem dX7_refusePlace_8 : decode cX7_refusePlace 8 = .ok (.iconst 1, 1) := by decide +kernel
theorem dX7_refusePlace_9 : decode cX7_refusePlace 9 = .ok (.invokevirtual 82, 3) := by decide +kernel
theorem dX7_refusePlace_12 : decode cX7_refusePlace 12 = .ok (.ireturn, 1) := by decide +kernel
theorem dX7_refusePlace_13 : decode cX7_refusePlace 13 = .ok (.aload_n 1, 1) := by decide +kernel
theorem dX7_refusePlace_14 : decode cX7_refusePlace 14 = .ok (.iload_n 2, 1) := by decide +kernel
theorem dX7_refusePlace_15 : decode cX7_refusePlace 15 = .ok (.invokevirtual 366, 3) := by decide +kernel
theorem dX7_refusePlace_18 : decode cX7_refusePlace 18 = .ok (.ifCond .eq 7, 3) := by decide +kernel
theorem dX7_refusePlace_21 : decode cX7_refusePlace 21 = .ok (.iconst 0, 1) := by decide +kernel
theorem dX7_refusePlace_22 : decode cX7_refusePlace 22 = .ok (.goto 8, 3) := by decide +kernel
theorem dX7_refusePlace_25 : decode cX7_refusePlace 25 = .ok (.aload_n 0, 1) := by decide +kernel
theorem dX7_refusePlace_26 : decode cX7_refusePlace 26 = .ok (.iconst 2, 1) := by decide +kernel
theorem dX7_refusePlace_27 : decode cX7_refusePlace 27 = .ok (.invokevirtual 82, 3) := by decide +kernel
theorem dX7_refusePlace_30 : decode cX7_refusePlace 30 = .ok (.ireturn, 1) := by decide +kernel
def P_X7_refusePlace (a0 : Nat) (a1 : Nat) (x2 : Int32) : PM Int32 :=
getI 5 3 a1 fun v1 =>
ifB (decide (¬ v1 = 0)) (
cllV 5 a1 (P_X5_holds a1 x2) fun v2 =>
ifB (decide (v2 = 0)) (
cllV 7 a0 (P_X7_found a0 2) fun v3 =>
pureM v3) (
pureM 0)) (
cllV 7 a0 (P_X7_found a0 1) fun v4 =>
pureM v4)
set_option maxHeartbeats 4000000 in
set_option maxRecDepth 100000 in
theorem W_X7_refusePlace {Γ : Cx} (ok : OKc Γ cX7_refusePlace RX7 1 "refusePlace") (okr : OKr Γ cX7_refusePlace (some .int)) (a0 : Nat) (a1 : Nat) (x2 : Int32) : SW Γ iI 0 [some (.ref a0), some (.ref a1), some (.int x2)] [] (P_X7_refusePlace a0 a1 x2) := by
  unfold P_X7_refusePlace
  refine sw_aload_n (z := a1) (pc' := 1) ok dX7_refusePlace_0 rfl rfl ?_
  refine sw_getI (pc' := 4) ok (fr_X7_104.g) dX7_refusePlace_1 rfl (fun v1 => ?_)
  refine sw_if_ne (tgt := 13) (pc' := 7) ok dX7_refusePlace_4 (by decide) rfl ?_ ?_
  · refine sw_aload_n (z := a1) (pc' := 14) ok dX7_refusePlace_13 rfl rfl ?_
    refine sw_iload_n (z := x2) (pc' := 15) ok dX7_refusePlace_14 rfl rfl ?_
    refine sw_cllV_I (st := []) (as := [.int x2]) (pc' := 18) ok (S_X5_holds a1 x2) (by decide) lk_X7_366 rfl dX7_refusePlace_15 rfl (Nat.le_of_ble_eq_true rfl) rfl (fun v2 => ?_)
    refine sw_if_eq (tgt := 25) (pc' := 21) ok dX7_refusePlace_18 (by decide) rfl ?_ ?_
    · refine sw_aload_n (z := a0) (pc' := 26) ok dX7_refusePlace_25 rfl rfl ?_
      refine sw_iconst (v := 2) (pc' := 27) ok dX7_refusePlace_26 rfl cc_iconst_2 ?_
      refine sw_cllV_I (st := []) (as := [.int 2]) (pc' := 30) ok (S_X7_found a0 2) (by decide) lk_X7_82 rfl dX7_refusePlace_27 rfl (Nat.le_of_ble_eq_true rfl) rfl (fun v3 => ?_)
      exact sw_ret ok okr dX7_refusePlace_30 trivial rfl
    refine sw_iconst (v := 0) (pc' := 22) ok dX7_refusePlace_21 rfl cc_iconst_0 ?_
    refine sw_goto (tgt := 30) ok dX7_refusePlace_22 (by decide) ?_
    exact sw_ret ok okr dX7_refusePlace_30 trivial rfl
  refine sw_aload_n (z := a0) (pc' := 8) ok dX7_refusePlace_7 rfl rfl ?_
  refine sw_iconst (v := 1) (pc' := 9) ok dX7_refusePlace_8 rfl cc_iconst_1 ?_
  refine sw_cllV_I (st := []) (as := [.int 1]) (pc' := 12) ok (S_X7_found a0 1) (by decide) lk_X7_82 rfl dX7_refusePlace_9 rfl (Nat.le_of_ble_eq_true rfl) rfl (fun v4 => ?_)
  exact sw_ret ok okr dX7_refusePlace_12 trivial rfl
theorem S_X7_refusePlace (a0 : Nat) (a1 : Nat) (x2 : Int32) : Sim 1 yX7_refusePlace cX7_refusePlace 3 (some .int) iI [.ref a0, .ref a1, .int x2] (P_X7_refusePlace a0 a1 x2) := Sim.intro wd_996 (by decide) (by decide +kernel) (Nat.le_of_ble_eq_true rfl) (fun Γ ok okr => W_X7_refusePlace ok okr a0 a1 x2)
theorem dX7_tellAsked_0 : decode cX7_tellAsked 0 = .ok (.aload_n 0, 1) := by decide +kernel
theorem dX7_tellAsked_1 : decode cX7_tellAsked 1 = .ok (.iload_n 1, 1) := by decide +kernel
theorem dX7_tellAsked_2 : decode cX7_tellAsked 2 = .ok (.putfield 65, 3) := by decide +kernel
theorem dX7_tellAsked_5 : decode cX7_tellAsked 5 = .ok (.iconst 1, 1) := by decide +kernel
theorem dX7_tellAsked_6 : decode cX7_tellAsked 6 = .ok (.ireturn, 1) := by decide +kernel
def P_X7_tellAsked (a0 : Nat) (x1 : Int32) : PM Int32 :=
setI 7 10 a0 x1 <|
pureM 1
set_option maxHeartbeats 4000000 in
set_option maxRecDepth 100000 in
theorem W_X7_tellAsked {Γ : Cx} (ok : OKc Γ cX7_tellAsked RX7 0 "tellAsked") (okr : OKr Γ cX7_tellAsked (some .int)) (a0 : Nat) (x1 : Int32) : SW Γ iI 0 [some (.ref a0), some (.int x1)] [] (P_X7_tellAsked a0 x1) := by
  unfold P_X7_tellAsked
  refine sw_aload_n (z := a0) (pc' := 1) ok dX7_tellAsked_0 rfl rfl ?_
  refine sw_iload_n (z := x1) (pc' := 2) ok dX7_tellAsked_1 rfl rfl ?_
  refine sw_setI (pc' := 5) ok fr_X7_65 dX7_tellAsked_2 (fun h => by cases h) rfl ?_
  refine sw_iconst (v := 1) (pc' := 6) ok dX7_tellAsked_5 rfl cc_iconst_1 ?_
  exact sw_ret ok okr dX7_tellAsked_6 trivial rfl
theorem S_X7_tellAsked (a0 : Nat) (x1 : Int32) : Sim 0 yX7_tellAsked cX7_tellAsked 2 (some .int) iI [.ref a0, .int x1] (P_X7_tellAsked a0 x1) := Sim.intro wd_997 (by decide) (by decide +kernel) (Nat.le_of_ble_eq_true rfl) (fun Γ ok okr => W_X7_tellAsked ok okr a0 x1)
theorem dX7_lay_0 : decode cX7_lay 0 = .ok (.iload_n 1, 1) := by decide +kernel
theorem dX7_lay_1 : decode cX7_lay 1 = .ok (.invokestatic 78, 3) := by decide +kernel
theorem dX7_lay_4 : decode cX7_lay 4 = .ok (.ifCond .ne 5, 3) := by decide +kernel
theorem dX7_lay_7 : decode cX7_lay 7 = .ok (.iconst (-1), 1) := by decide +kernel
theorem dX7_lay_8 : decode cX7_lay 8 = .ok (.ireturn, 1) := by decide +kernel
theorem dX7_lay_9 : decode cX7_lay 9 = .ok (.aload_n 0, 1) := by decide +kernel
theorem dX7_lay_10 : decode cX7_lay 10 = .ok (.aload_n 0, 1) := by decide +kernel
theorem dX7_lay_11 : decode cX7_lay 11 = .ok (.getfield 11, 3) := by decide +kernel
theorem dX7_lay_14 : decode cX7_lay 14 = .ok (.iload_n 1, 1) := by decide +kernel
theorem dX7_lay_15 : decode cX7_lay 15 = .ok (.aaload, 1) := by decide +kernel
theorem dX7_lay_16 : decode cX7_lay 16 = .ok (.iload_n 2, 1) := by decide +kernel
theorem dX7_lay_17 : decode cX7_lay 17 = .ok (.invokevirtual 90, 3) := by decide +kernel
theorem dX7_lay_20 : decode cX7_lay 20 = .ok (.istore 4, 2) := by decide +kernel
theorem dX7_lay_22 : decode cX7_lay 22 = .ok (.iload 4, 2) := by decide +kernel
theorem dX7_lay_24 : decode cX7_lay 24 = .ok (.ifCond .ge 8, 3) := by decide +kernel
theorem dX7_lay_27 : decode cX7_lay 27 = .ok (.iload 4, 2) := by decide +kernel
theorem dX7_lay_29 : decode cX7_lay 29 = .ok (.goto 18, 3) := by decide +kernel
theorem dX7_lay_32 : decode cX7_lay 32 = .ok (.aload_n 0, 1) := by decide +kernel
theorem dX7_lay_33 : decode cX7_lay 33 = .ok (.aload_n 0, 1) := by decide +kernel
theorem dX7_lay_34 : decode cX7_lay 34 = .ok (.getfield 11, 3) := by decide +kernel
theorem dX7_lay_37 : decode cX7_lay 37 = .ok (.iload_n 1, 1) := by decide +kernel
theorem dX7_lay_38 : decode cX7_lay 38 = .ok (.aaload, 1) := by decide +kernel
theorem dX7_lay_39 : decode cX7_lay 39 = .ok (.iload_n 2, 1) := by decide +kernel
theorem dX7_lay_40 : decode cX7_lay 40 = .ok (.iload_n 3, 1) := by decide +kernel
theorem dX7_lay_41 : decode cX7_lay 41 = .ok (.invokevirtual 94, 3) := by decide +kernel
theorem dX7_lay_44 : decode cX7_lay 44 = .ok (.invokevirtual 98, 3) := by decide +kernel
theorem dX7_lay_47 : decode cX7_lay 47 = .ok (.ireturn, 1) := by decide +kernel
def P_X7_lay (a0 : Nat) (x1 : Int32) (x2 : Int32) (x3 : Int32) : PM Int32 :=
cll0 (P_X7_isRow x1) fun v1 =>
ifB (decide (¬ v1 = 0)) (
getR 7 0 a0 fun v2 =>
aldR v2 x1 fun v3 =>
cllV 7 a0 (P_X7_refusePlace a0 v3 x2) fun v4 =>
ifB (decide (0 ≤ v4)) (
getR 7 0 a0 fun v5 =>
aldR v5 x1 fun v6 =>
cllV 5 v6 (P_X5_swap v6 x2 x3) fun v7 =>
cllV 7 a0 (P_X7_tellAsked a0 v7) fun v8 =>
pureM v8) (
pureM v4)) (
pureM ((-1)))
set_option maxHeartbeats 4000000 in
set_option maxRecDepth 100000 in
theorem W_X7_lay {Γ : Cx} (ok : OKc Γ cX7_lay RX7 3 "lay") (okr : OKr Γ cX7_lay (some .int)) (a0 : Nat) (x1 : Int32) (x2 : Int32) (x3 : Int32) : SW Γ iI 0 [some (.ref a0), some (.int x1), some (.int x2), some (.int x3), none] [] (P_X7_lay a0 x1 x2 x3) := by
  unfold P_X7_lay
  refine sw_iload_n (z := x1) (pc' := 1) ok dX7_lay_0 rfl rfl ?_
  refine sw_cll0_I (st := []) (as := [.int x1]) (pc' := 4) ok (S_X7_isRow x1) (by decide) lk_X7_78 rfl dX7_lay_1 rfl (Nat.le_of_ble_eq_true rfl) rfl (fun v1 => ?_)
  refine sw_if_ne (tgt := 9) (pc' := 7) ok dX7_lay_4 (by decide) rfl ?_ ?_
  · refine sw_aload_n (z := a0) (pc' := 10) ok dX7_lay_9 rfl rfl ?_
    refine sw_aload_n (z := a0) (pc' := 11) ok dX7_lay_10 rfl rfl ?_
    refine sw_getR (pc' := 14) ok (fr_X7_11.g) dX7_lay_11 rfl (fun v2 => ?_)
    refine sw_iload_n (z := x1) (pc' := 15) ok dX7_lay_14 rfl rfl ?_
    refine sw_aldR (pc' := 16) ok dX7_lay_15 rfl (fun v3 => ?_)
    refine sw_iload_n (z := x2) (pc' := 17) ok dX7_lay_16 rfl rfl ?_
    refine sw_cllV_I (st := []) (as := [.ref v3, .int x2]) (pc' := 20) ok (S_X7_refusePlace a0 v3 x2) (by decide) lk_X7_90 rfl dX7_lay_17 rfl (Nat.le_of_ble_eq_true rfl) rfl (fun v4 => ?_)
    refine sw_istore (pc' := 22) (l' := [some (.ref a0), some (.int x1), some (.int x2), some (.int x3), some (.int v4)]) ok dX7_lay_20 rfl (Nat.le_of_ble_eq_true rfl) rfl ?_
    refine sw_iload (z := v4) (pc' := 24) ok dX7_lay_22 rfl rfl ?_
    refine sw_if_ge (tgt := 32) (pc' := 27) ok dX7_lay_24 (by decide) rfl ?_ ?_
    · refine sw_aload_n (z := a0) (pc' := 33) ok dX7_lay_32 rfl rfl ?_
      refine sw_aload_n (z := a0) (pc' := 34) ok dX7_lay_33 rfl rfl ?_
      refine sw_getR (pc' := 37) ok (fr_X7_11.g) dX7_lay_34 rfl (fun v5 => ?_)
      refine sw_iload_n (z := x1) (pc' := 38) ok dX7_lay_37 rfl rfl ?_
      refine sw_aldR (pc' := 39) ok dX7_lay_38 rfl (fun v6 => ?_)
      refine sw_iload_n (z := x2) (pc' := 40) ok dX7_lay_39 rfl rfl ?_
      refine sw_iload_n (z := x3) (pc' := 41) ok dX7_lay_40 rfl rfl ?_
      refine sw_cllV_I (st := [.ref a0]) (as := [.int x2, .int x3]) (pc' := 44) ok (S_X5_swap v6 x2 x3) (by decide) lk_X7_94 rfl dX7_lay_41 rfl (Nat.le_of_ble_eq_true rfl) rfl (fun v7 => ?_)
      refine sw_cllV_I (st := []) (as := [.int v7]) (pc' := 47) ok (S_X7_tellAsked a0 v7) (by decide) lk_X7_98 rfl dX7_lay_44 rfl (Nat.le_of_ble_eq_true rfl) rfl (fun v8 => ?_)
      exact sw_ret ok okr dX7_lay_47 trivial rfl
    refine sw_iload (z := v4) (pc' := 29) ok dX7_lay_27 rfl rfl ?_
    refine sw_goto (tgt := 47) ok dX7_lay_29 (by decide) ?_
    exact sw_ret ok okr dX7_lay_47 trivial rfl
  refine sw_iconst (v := (-1)) (pc' := 8) ok dX7_lay_7 rfl cc_iconst_m1 ?_
  exact sw_ret ok okr dX7_lay_8 trivial rfl
theorem S_X7_lay (a0 : Nat) (x1 : Int32) (x2 : Int32) (x3 : Int32) : Sim 3 yX7_lay cX7_lay 5 (some .int) iI [.ref a0, .int x1, .int x2, .int x3] (P_X7_lay a0 x1 x2 x3) := Sim.intro wd_998 (by decide) (by decide +kernel) (Nat.le_of_ble_eq_true rfl) (fun Γ ok okr => W_X7_lay ok okr a0 x1 x2 x3)
theorem dX7_at_0 : decode cX7_at 0 = .ok (.iload_n 1, 1) := by decide +kernel
theorem dX7_at_1 : decode cX7_at 1 = .ok (.invokestatic 78, 3) := by decide +kernel
theorem dX7_at_4 : decode cX7_at 4 = .ok (.ifCond .ne 5, 3) := by decide +kernel
theorem dX7_at_7 : decode cX7_at 7 = .ok (.iconst (-1), 1) := by decide +kernel
theorem dX7_at_8 : decode cX7_at 8 = .ok (.ireturn, 1) := by decide +kernel
theorem dX7_at_9 : decode cX7_at 9 = .ok (.aload_n 0, 1) := by decide +kernel
theorem dX7_at_10 : decode cX7_at 10 = .ok (.aload_n 0, 1) := by decide +kernel
theorem dX7_at_11 : decode cX7_at 11 = .ok (.getfield 11, 3) := by decide +kernel
theorem dX7_at_14 : decode cX7_at 14 = .ok (.iload_n 1, 1) := by decide +kernel
theorem dX7_at_15 : decode cX7_at 15 = .ok (.aaload, 1) := by decide +kernel
theorem dX7_at_16 : decode cX7_at 16 = .ok (.iload_n 2, 1) := by decide +kernel
theorem dX7_at_17 : decode cX7_at 17 = .ok (.invokevirtual 90, 3) := by decide +kernel
theorem dX7_at_20 : decode cX7_at 20 = .ok (.istore_n 3, 1) := by decide +kernel
theorem dX7_at_21 : decode cX7_at 21 = .ok (.iload_n 3, 1) := by decide +kernel
theorem dX7_at_22 : decode cX7_at 22 = .ok (.ifCond .ge 7, 3) := by decide +kernel
theorem dX7_at_25 : decode cX7_at 25 = .ok (.iload_n 3, 1) := by decide +kernel
theorem dX7_at_26 : decode cX7_at 26 = .ok (.goto 17, 3) := by decide +kernel
theorem dX7_at_29 : decode cX7_at 29 = .ok (.aload_n 0, 1) := by decide +kernel
theorem dX7_at_30 : decode cX7_at 30 = .ok (.aload_n 0, 1) := by decide +kernel
theorem dX7_at_31 : decode cX7_at 31 = .ok (.getfield 11, 3) := by decide +kernel
theorem dX7_at_34 : decode cX7_at 34 = .ok (.iload_n 1, 1) := by decide +kernel
theorem dX7_at_35 : decode cX7_at 35 = .ok (.aaload, 1) := by decide +kernel
theorem dX7_at_36 : decode cX7_at 36 = .ok (.iload_n 2, 1) := by decide +kernel
theorem dX7_at_37 : decode cX7_at 37 = .ok (.invokevirtual 101, 3) := by decide +kernel
theorem dX7_at_40 : decode cX7_at 40 = .ok (.invokevirtual 98, 3) := by decide +kernel
theorem dX7_at_43 : decode cX7_at 43 = .ok (.ireturn, 1) := by decide +kernel
def P_X7_at (a0 : Nat) (x1 : Int32) (x2 : Int32) : PM Int32 :=
cll0 (P_X7_isRow x1) fun v1 =>
ifB (decide (¬ v1 = 0)) (
getR 7 0 a0 fun v2 =>
aldR v2 x1 fun v3 =>
cllV 7 a0 (P_X7_refusePlace a0 v3 x2) fun v4 =>
ifB (decide (0 ≤ v4)) (
getR 7 0 a0 fun v5 =>
aldR v5 x1 fun v6 =>
cllV 5 v6 (P_X5_get v6 x2) fun v7 =>
cllV 7 a0 (P_X7_tellAsked a0 v7) fun v8 =>
pureM v8) (
pureM v4)) (
pureM ((-1)))
set_option maxHeartbeats 4000000 in
set_option maxRecDepth 100000 in
theorem W_X7_at {Γ : Cx} (ok : OKc Γ cX7_at RX7 2 "at") (okr : OKr Γ cX7_at (some .int)) (a0 : Nat) (x1 : Int32) (x2 : Int32) : SW Γ iI 0 [some (.ref a0), some (.int x1), some (.int x2), none] [] (P_X7_at a0 x1 x2) := by
  unfold P_X7_at
  refine sw_iload_n (z := x1) (pc' := 1) ok dX7_at_0 rfl rfl ?_
  refine sw_cll0_I (st := []) (as := [.int x1]) (pc' := 4) ok (S_X7_isRow x1) (by decide) lk_X7_78 rfl dX7_at_1 rfl (Nat.le_of_ble_eq_true rfl) rfl (fun v1 => ?_)
  refine sw_if_ne (tgt := 9) (pc' := 7) ok dX7_at_4 (by decide) rfl ?_ ?_
  · refine sw_aload_n (z := a0) (pc' := 10) ok dX7_at_9 rfl rfl ?_
    refine sw_aload_n (z := a0) (pc' := 11) ok dX7_at_10 rfl rfl ?_
    refine sw_getR (pc' := 14) ok (fr_X7_11.g) dX7_at_11 rfl (fun v2 => ?_)
    refine sw_iload_n (z := x1) (pc' := 15) ok dX7_at_14 rfl rfl ?_
    refine sw_aldR (pc' := 16) ok dX7_at_15 rfl (fun v3 => ?_)
    refine sw_iload_n (z := x2) (pc' := 17) ok dX7_at_16 rfl rfl ?_
    refine sw_cllV_I (st := []) (as := [.ref v3, .int x2]) (pc' := 20) ok (S_X7_refusePlace a0 v3 x2) (by decide) lk_X7_90 rfl dX7_at_17 rfl (Nat.le_of_ble_eq_true rfl) rfl (fun v4 => ?_)
    refine sw_istore_n (pc' := 21) (l' := [some (.ref a0), some (.int x1), some (.int x2), some (.int v4)]) ok dX7_at_20 rfl (Nat.le_of_ble_eq_true rfl) rfl ?_
    refine sw_iload_n (z := v4) (pc' := 22) ok dX7_at_21 rfl rfl ?_
    refine sw_if_ge (tgt := 29) (pc' := 25) ok dX7_at_22 (by decide) rfl ?_ ?_
    · refine sw_aload_n (z := a0) (pc' := 30) ok dX7_at_29 rfl rfl ?_
      refine sw_aload_n (z := a0) (pc' := 31) ok dX7_at_30 rfl rfl ?_
      refine sw_getR (pc' := 34) ok (fr_X7_11.g) dX7_at_31 rfl (fun v5 => ?_)
      refine sw_iload_n (z := x1) (pc' := 35) ok dX7_at_34 rfl rfl ?_
      refine sw_aldR (pc' := 36) ok dX7_at_35 rfl (fun v6 => ?_)
      refine sw_iload_n (z := x2) (pc' := 37) ok dX7_at_36 rfl rfl ?_
      refine sw_cllV_I (st := [.ref a0]) (as := [.int x2]) (pc' := 40) ok (S_X5_get v6 x2) (by decide) lk_X7_101 rfl dX7_at_37 rfl (Nat.le_of_ble_eq_true rfl) rfl (fun v7 => ?_)
      refine sw_cllV_I (st := []) (as := [.int v7]) (pc' := 43) ok (S_X7_tellAsked a0 v7) (by decide) lk_X7_98 rfl dX7_at_40 rfl (Nat.le_of_ble_eq_true rfl) rfl (fun v8 => ?_)
      exact sw_ret ok okr dX7_at_43 trivial rfl
    refine sw_iload_n (z := v4) (pc' := 26) ok dX7_at_25 rfl rfl ?_
    refine sw_goto (tgt := 43) ok dX7_at_26 (by decide) ?_
    exact sw_ret ok okr dX7_at_43 trivial rfl
  refine sw_iconst (v := (-1)) (pc' := 8) ok dX7_at_7 rfl cc_iconst_m1 ?_
  exact sw_ret ok okr dX7_at_8 trivial rfl
theorem S_X7_at (a0 : Nat) (x1 : Int32) (x2 : Int32) : Sim 2 yX7_at cX7_at 4 (some .int) iI [.ref a0, .int x1, .int x2] (P_X7_at a0 x1 x2) := Sim.intro wd_999 (by decide) (by decide +kernel) (Nat.le_of_ble_eq_true rfl) (fun Γ ok okr => W_X7_at ok okr a0 x1 x2)
theorem dX7_tear_0 : decode cX7_tear 0 = .ok (.iload_n 1, 1) := by decide +kernel
theorem dX7_tear_1 : decode cX7_tear 1 = .ok (.invokestatic 78, 3) := by decide +kernel
theorem dX7_tear_4 : decode cX7_tear 4 = .ok (.ifCond .ne 5, 3) := by decide +kernel
theorem dX7_tear_7 : decode cX7_tear 7 = .ok (.iconst (-1), 1) := by decide +kernel
theorem dX7_tear_8 : decode cX7_tear 8 = .ok (.ireturn, 1) := by decide +kernel
theorem dX7_tear_9 : decode cX7_tear 9 = .ok (.aload_n 0, 1) := by decide +kernel
theorem dX7_tear_10 : decode cX7_tear 10 = .ok (.getfield 11, 3) := by decide +kernel
theorem dX7_tear_13 : decode cX7_tear 13 = .ok (.iload_n 1, 1) := by decide +kernel
theorem dX7_tear_14 : decode cX7_tear 14 = .ok (.aaload, 1) := by decide +kernel
theorem dX7_tear_15 : decode cX7_tear 15 = .ok (.getfield 104, 3) := by decide +kernel
theorem dX7_tear_18 : decode cX7_tear 18 = .ok (.ifCond .ne 9, 3) := by decide +kernel
theorem dX7_tear_21 : decode cX7_tear 21 = .ok (.aload_n 0, 1) := by decide +kernel
theorem dX7_tear_22 : decode cX7_tear 22 = .ok (.iconst 1, 1) := by decide +kernel
theorem dX7_tear_23 : decode cX7_tear 23 = .ok (.invokevirtual 82, 3) := by decide +kernel
theorem dX7_tear_26 : decode cX7_tear 26 = .ok (.ireturn, 1) := by decide +kernel
theorem dX7_tear_27 : decode cX7_tear 27 = .ok (.aload_n 0, 1) := by decide +kernel
theorem dX7_tear_28 : decode cX7_tear 28 = .ok (.getfield 11, 3) := by decide +kernel
theorem dX7_tear_31 : decode cX7_tear 31 = .ok (.iload_n 1, 1) := by decide +kernel
theorem dX7_tear_32 : decode cX7_tear 32 = .ok (.aaload, 1) := by decide +kernel
theorem dX7_tear_33 : decode cX7_tear 33 = .ok (.iconst 0, 1) := by decide +kernel
theorem dX7_tear_34 : decode cX7_tear 34 = .ok (.putfield 104, 3) := by decide +kernel
theorem dX7_tear_37 : decode cX7_tear 37 = .ok (.iconst 1, 1) := by decide +kernel
theorem dX7_tear_38 : decode cX7_tear 38 = .ok (.ireturn, 1) := by decide +kernel
def P_X7_tear (a0 : Nat) (x1 : Int32) : PM Int32 :=
cll0 (P_X7_isRow x1) fun v1 =>
ifB (decide (¬ v1 = 0)) (
getR 7 0 a0 fun v2 =>
aldR v2 x1 fun v3 =>
getI 5 3 v3 fun v4 =>
ifB (decide (¬ v4 = 0)) (
getR 7 0 a0 fun v5 =>
aldR v5 x1 fun v6 =>
setZ 5 3 v6 0 <|
pureM 1) (
cllV 7 a0 (P_X7_found a0 1) fun v7 =>
pureM v7)) (
pureM ((-1)))
set_option maxHeartbeats 4000000 in
set_option maxRecDepth 100000 in
theorem W_X7_tear {Γ : Cx} (ok : OKc Γ cX7_tear RX7 1 "tear") (okr : OKr Γ cX7_tear (some .int)) (a0 : Nat) (x1 : Int32) : SW Γ iI 0 [some (.ref a0), some (.int x1)] [] (P_X7_tear a0 x1) := by
  unfold P_X7_tear
  refine sw_iload_n (z := x1) (pc' := 1) ok dX7_tear_0 rfl rfl ?_
  refine sw_cll0_I (st := []) (as := [.int x1]) (pc' := 4) ok (S_X7_isRow x1) (by decide) lk_X7_78 rfl dX7_tear_1 rfl (Nat.le_of_ble_eq_true rfl) rfl (fun v1 => ?_)
  refine sw_if_ne (tgt := 9) (pc' := 7) ok dX7_tear_4 (by decide) rfl ?_ ?_
  · refine sw_aload_n (z := a0) (pc' := 10) ok dX7_tear_9 rfl rfl ?_
    refine sw_getR (pc' := 13) ok (fr_X7_11.g) dX7_tear_10 rfl (fun v2 => ?_)
    refine sw_iload_n (z := x1) (pc' := 14) ok dX7_tear_13 rfl rfl ?_
    refine sw_aldR (pc' := 15) ok dX7_tear_14 rfl (fun v3 => ?_)
    refine sw_getI (pc' := 18) ok (fr_X7_104.g) dX7_tear_15 rfl (fun v4 => ?_)
    refine sw_if_ne (tgt := 27) (pc' := 21) ok dX7_tear_18 (by decide) rfl ?_ ?_
    · refine sw_aload_n (z := a0) (pc' := 28) ok dX7_tear_27 rfl rfl ?_
      refine sw_getR (pc' := 31) ok (fr_X7_11.g) dX7_tear_28 rfl (fun v5 => ?_)
      refine sw_iload_n (z := x1) (pc' := 32) ok dX7_tear_31 rfl rfl ?_
      refine sw_aldR (pc' := 33) ok dX7_tear_32 rfl (fun v6 => ?_)
      refine sw_iconst (v := 0) (pc' := 34) ok dX7_tear_33 rfl cc_iconst_0 ?_
      refine sw_setZ (pc' := 37) ok fr_X7_104 dX7_tear_34 (fun h => by cases h) rfl ?_
      refine sw_iconst (v := 1) (pc' := 38) ok dX7_tear_37 rfl cc_iconst_1 ?_
      exact sw_ret ok okr dX7_tear_38 trivial rfl
    refine sw_aload_n (z := a0) (pc' := 22) ok dX7_tear_21 rfl rfl ?_
    refine sw_iconst (v := 1) (pc' := 23) ok dX7_tear_22 rfl cc_iconst_1 ?_
    refine sw_cllV_I (st := []) (as := [.int 1]) (pc' := 26) ok (S_X7_found a0 1) (by decide) lk_X7_82 rfl dX7_tear_23 rfl (Nat.le_of_ble_eq_true rfl) rfl (fun v7 => ?_)
    exact sw_ret ok okr dX7_tear_26 trivial rfl
  refine sw_iconst (v := (-1)) (pc' := 8) ok dX7_tear_7 rfl cc_iconst_m1 ?_
  exact sw_ret ok okr dX7_tear_8 trivial rfl
theorem S_X7_tear (a0 : Nat) (x1 : Int32) : Sim 1 yX7_tear cX7_tear 2 (some .int) iI [.ref a0, .int x1] (P_X7_tear a0 x1) := Sim.intro wd_1000 (by decide) (by decide +kernel) (Nat.le_of_ble_eq_true rfl) (fun Γ ok okr => W_X7_tear ok okr a0 x1)
theorem dX7_copy_0 : decode cX7_copy 0 = .ok (.iload_n 1, 1) := by decide +kernel
theorem dX7_copy_1 : decode cX7_copy 1 = .ok (.invokestatic 78, 3) := by decide +kernel
theorem dX7_copy_4 : decode cX7_copy 4 = .ok (.ifCond .eq 10, 3) := by decide +kernel
theorem dX7_copy_7 : decode cX7_copy 7 = .ok (.iload_n 3, 1) := by decide +kernel
theorem dX7_copy_8 : decode cX7_copy 8 = .ok (.invokestatic 78, 3) := by decide +kernel
theorem dX7_copy_11 : decode cX7_copy 11 = .ok (.ifCond .ne 5, 3) := by decide +kernel
theorem dX7_copy_14 : decode cX7_copy 14 = .ok (.iconst (-1), 1) := by decide +kernel
theorem dX7_copy_15 : decode cX7_copy 15 = .ok (.ireturn, 1) := by decide +kernel
theorem dX7_copy_16 : decode cX7_copy 16 = .ok (.iload 5, 2) := by decide +kernel
theorem dX7_copy_18 : decode cX7_copy 18 = .ok (.ifCond .ge 9, 3) := by decide +kernel
theorem dX7_copy_21 : decode cX7_copy 21 = .ok (.aload_n 0, 1) := by decide +kernel
theorem dX7_copy_22 : decode cX7_copy 22 = .ok (.iconst 5, 1) := by decide +kernel
theorem dX7_copy_23 : decode cX7_copy 23 = .ok (.invokevirtual 82, 3) := by decide +kernel
theorem dX7_copy_26 : decode cX7_copy 26 = .ok (.ireturn, 1) := by decide +kernel
theorem dX7_copy_27 : decode cX7_copy 27 = .ok (.aload_n 0, 1) := by decide +kernel
theorem dX7_copy_28 : decode cX7_copy 28 = .ok (.getfield 11, 3) := by decide +kernel
theorem dX7_copy_31 : decode cX7_copy 31 = .ok (.iload_n 1, 1) := by decide +kernel
theorem dX7_copy_32 : decode cX7_copy 32 = .ok (.aaload, 1) := by decide +kernel
theorem dX7_copy_33 : decode cX7_copy 33 = .ok (.getfield 104, 3) := by decide +kernel
theorem dX7_copy_36 : decode cX7_copy 36 = .ok (.ifCond .eq 15, 3) := by decide +kernel
theorem dX7_copy_39 : decode cX7_copy 39 = .ok (.aload_n 0, 1) := by decide +kernel
theorem dX7_copy_40 : decode cX7_copy 40 = .ok (.getfield 11, 3) := by decide +kernel
theorem dX7_copy_43 : decode cX7_copy 43 = .ok (.iload_n 3, 1) := by decide +kernel
theorem dX7_copy_44 : decode cX7_copy 44 = .ok (.aaload, 1) := by decide +kernel
theorem dX7_copy_45 : decode cX7_copy 45 = .ok (.getfield 104, 3) := by decide +kernel
theorem dX7_copy_48 : decode cX7_copy 48 = .ok (.ifCond .ne 9, 3) := by decide +kernel
theorem dX7_copy_51 : decode cX7_copy 51 = .ok (.aload_n 0, 1) := by decide +kernel
theorem dX7_copy_52 : decode cX7_copy 52 = .ok (.iconst 1, 1) := by decide +kernel
theorem dX7_copy_53 : decode cX7_copy 53 = .ok (.invokevirtual 82, 3) := by decide +kernel
theorem dX7_copy_56 : decode cX7_copy 56 = .ok (.ireturn, 1) := by decide +kernel
theorem dX7_copy_57 : decode cX7_copy 57 = .ok (.aload_n 0, 1) := by decide +kernel
theorem dX7_copy_58 : decode cX7_copy 58 = .ok (.getfield 11, 3) := by decide +kernel
theorem dX7_copy_61 : decode cX7_copy 61 = .ok (.iload_n 1, 1) := by decide +kernel
theorem dX7_copy_62 : decode cX7_copy 62 = .ok (.aaload, 1) := by decide +kernel
theorem dX7_copy_63 : decode cX7_copy 63 = .ok (.iload_n 2, 1) := by decide +kernel
theorem dX7_copy_64 : decode cX7_copy 64 = .ok (.iload 5, 2) := by decide +kernel
theorem dX7_copy_66 : decode cX7_copy 66 = .ok (.invokevirtual 108, 3) := by decide +kernel
theorem dX7_copy_69 : decode cX7_copy 69 = .ok (.ifCond .eq 19, 3) := by decide +kernel
theorem dX7_copy_72 : decode cX7_copy 72 = .ok (.aload_n 0, 1) := by decide +kernel
theorem dX7_copy_73 : decode cX7_copy 73 = .ok (.getfield 11, 3) := by decide +kernel
theorem dX7_copy_76 : decode cX7_copy 76 = .ok (.iload_n 3, 1) := by decide +kernel
theorem dX7_copy_77 : decode cX7_copy 77 = .ok (.aaload, 1) := by decide +kernel
theorem dX7_copy_78 : decode cX7_copy 78 = .ok (.iload 4, 2) := by decide +kernel
theorem dX7_copy_80 : decode cX7_copy 80 = .ok (.iload 5, 2) := by decide +kernel
theorem dX7_copy_82 : decode cX7_copy 82 = .ok (.invokevirtual 108, 3) := by decide +kernel
theorem dX7_copy_85 : decode cX7_copy 85 = .ok (.ifCond .ne 9, 3) := by decide +kernel
theorem dX7_copy_88 : decode cX7_copy 88 = .ok (.aload_n 0, 1) := by decide +kernel
theorem dX7_copy_89 : decode cX7_copy 89 = .ok (.iconst 2, 1) := by decide +kernel
theorem dX7_copy_90 : decode cX7_copy 90 = .ok (.invokevirtual 82, 3) := by decide +kernel
theorem dX7_copy_93 : decode cX7_copy 93 = .ok (.ireturn, 1) := by decide +kernel
theorem dX7_copy_94 : decode cX7_copy 94 = .ok (.aload_n 0, 1) := by decide +kernel
theorem dX7_copy_95 : decode cX7_copy 95 = .ok (.getfield 11, 3) := by decide +kernel
theorem dX7_copy_98 : decode cX7_copy 98 = .ok (.iload_n 1, 1) := by decide +kernel
theorem dX7_copy_99 : decode cX7_copy 99 = .ok (.aaload, 1) := by decide +kernel
theorem dX7_copy_100 : decode cX7_copy 100 = .ok (.getfield 112, 3) := by decide +kernel
theorem dX7_copy_103 : decode cX7_copy 103 = .ok (.iload_n 2, 1) := by decide +kernel
theorem dX7_copy_104 : decode cX7_copy 104 = .ok (.aload_n 0, 1) := by decide +kernel
theorem dX7_copy_105 : decode cX7_copy 105 = .ok (.getfield 11, 3) := by decide +kernel
theorem dX7_copy_108 : decode cX7_copy 108 = .ok (.iload_n 3, 1) := by decide +kernel
theorem dX7_copy_109 : decode cX7_copy 109 = .ok (.aaload, 1) := by decide +kernel
theorem dX7_copy_110 : decode cX7_copy 110 = .ok (.getfield 112, 3) := by decide +kernel
theorem dX7_copy_113 : decode cX7_copy 113 = .ok (.iload 4, 2) := by decide +kernel
theorem dX7_copy_115 : decode cX7_copy 115 = .ok (.iload 5, 2) := by decide +kernel
theorem dX7_copy_117 : decode cX7_copy 117 = .ok (.invokestatic 115, 3) := by decide +kernel
theorem dX7_copy_120 : decode cX7_copy 120 = .ok (.iconst 1, 1) := by decide +kernel
theorem dX7_copy_121 : decode cX7_copy 121 = .ok (.ireturn, 1) := by decide +kernel
def P_X7_copy (a0 : Nat) (x1 : Int32) (x2 : Int32) (x3 : Int32) (x4 : Int32) (x5 : Int32) : PM Int32 :=
cll0 (P_X7_isRow x1) fun v1 =>
ifB (decide (v1 = 0)) (
pureM ((-1))) (
cll0 (P_X7_isRow x3) fun v2 =>
ifB (decide (¬ v2 = 0)) (
ifB (decide (0 ≤ x5)) (
getR 7 0 a0 fun v3 =>
aldR v3 x1 fun v4 =>
getI 5 3 v4 fun v5 =>
jn (
cllV 7 a0 (P_X7_found a0 1) fun v6 =>
pureM v6) fun k7 =>
ifB (decide (v5 = 0)) (
k7) (
getR 7 0 a0 fun v8 =>
aldR v8 x3 fun v9 =>
getI 5 3 v9 fun v10 =>
ifB (decide (¬ v10 = 0)) (
getR 7 0 a0 fun v11 =>
aldR v11 x1 fun v12 =>
cllV 5 v12 (P_X5_holdsSpan v12 x2 x5) fun v13 =>
jn (
cllV 7 a0 (P_X7_found a0 2) fun v14 =>
pureM v14) fun k15 =>
ifB (decide (v13 = 0)) (
k15) (
getR 7 0 a0 fun v16 =>
aldR v16 x3 fun v17 =>
cllV 5 v17 (P_X5_holdsSpan v17 x4 x5) fun v18 =>
ifB (decide (¬ v18 = 0)) (
getR 7 0 a0 fun v19 =>
aldR v19 x1 fun v20 =>
getR 5 0 v20 fun v21 =>
getR 7 0 a0 fun v22 =>
aldR v22 x3 fun v23 =>
getR 5 0 v23 fun v24 =>
cpyA v21 x2 v24 x4 x5 <|
pureM 1) (
k15))) (
k7))) (
cllV 7 a0 (P_X7_found a0 5) fun v25 =>
pureM v25)) (
pureM ((-1))))
set_option maxHeartbeats 4000000 in
set_option maxRecDepth 100000 in
theorem W_X7_copy {Γ : Cx} (ok : OKc Γ cX7_copy RX7 1 "copy") (okr : OKr Γ cX7_copy (some .int)) (a0 : Nat) (x1 : Int32) (x2 : Int32) (x3 : Int32) (x4 : Int32) (x5 : Int32) : SW Γ iI 0 [some (.ref a0), some (.int x1), some (.int x2), some (.int x3), some (.int x4), some (.int x5)] [] (P_X7_copy a0 x1 x2 x3 x4 x5) := by
  unfold P_X7_copy
  refine sw_iload_n (z := x1) (pc' := 1) ok dX7_copy_0 rfl rfl ?_
  refine sw_cll0_I (st := []) (as := [.int x1]) (pc' := 4) ok (S_X7_isRow x1) (by decide) lk_X7_78 rfl dX7_copy_1 rfl (Nat.le_of_ble_eq_true rfl) rfl (fun v1 => ?_)
  refine sw_if_eq (tgt := 14) (pc' := 7) ok dX7_copy_4 (by decide) rfl ?_ ?_
  · refine sw_iconst (v := (-1)) (pc' := 15) ok dX7_copy_14 rfl cc_iconst_m1 ?_
    exact sw_ret ok okr dX7_copy_15 trivial rfl
  refine sw_iload_n (z := x3) (pc' := 8) ok dX7_copy_7 rfl rfl ?_
  refine sw_cll0_I (st := []) (as := [.int x3]) (pc' := 11) ok (S_X7_isRow x3) (by decide) lk_X7_78 rfl dX7_copy_8 rfl (Nat.le_of_ble_eq_true rfl) rfl (fun v2 => ?_)
  refine sw_if_ne (tgt := 16) (pc' := 14) ok dX7_copy_11 (by decide) rfl ?_ ?_
  · refine sw_iload (z := x5) (pc' := 18) ok dX7_copy_16 rfl rfl ?_
    refine sw_if_ge (tgt := 27) (pc' := 21) ok dX7_copy_18 (by decide) rfl ?_ ?_
    · refine sw_aload_n (z := a0) (pc' := 28) ok dX7_copy_27 rfl rfl ?_
      refine sw_getR (pc' := 31) ok (fr_X7_11.g) dX7_copy_28 rfl (fun v3 => ?_)
      refine sw_iload_n (z := x1) (pc' := 32) ok dX7_copy_31 rfl rfl ?_
      refine sw_aldR (pc' := 33) ok dX7_copy_32 rfl (fun v4 => ?_)
      refine sw_getI (pc' := 36) ok (fr_X7_104.g) dX7_copy_33 rfl (fun v5 => ?_)
      refine sw_jn (fun k7 : PM Int32 => SW Γ iI 51 [some (.ref a0), none, none, none, none, none] [] (k7)) ?_ (fun k7 hk7 => ?_)
      · refine sw_aload_n (z := a0) (pc' := 52) ok dX7_copy_51 rfl rfl ?_
        refine sw_iconst (v := 1) (pc' := 53) ok dX7_copy_52 rfl cc_iconst_1 ?_
        refine sw_cllV_I (st := []) (as := [.int 1]) (pc' := 56) ok (S_X7_found a0 1) (by decide) lk_X7_82 rfl dX7_copy_53 rfl (Nat.le_of_ble_eq_true rfl) rfl (fun v6 => ?_)
        exact sw_ret ok okr dX7_copy_56 trivial rfl
      refine sw_if_eq (tgt := 51) (pc' := 39) ok dX7_copy_36 (by decide) rfl ?_ ?_
      · refine sw_fg (l' := [some (.ref a0), none, none, none, none, none]) [true, false, false, false, false, false] rfl ?_
        exact hk7
      refine sw_aload_n (z := a0) (pc' := 40) ok dX7_copy_39 rfl rfl ?_
      refine sw_getR (pc' := 43) ok (fr_X7_11.g) dX7_copy_40 rfl (fun v8 => ?_)
      refine sw_iload_n (z := x3) (pc' := 44) ok dX7_copy_43 rfl rfl ?_
      refine sw_aldR (pc' := 45) ok dX7_copy_44 rfl (fun v9 => ?_)
      refine sw_getI (pc' := 48) ok (fr_X7_104.g) dX7_copy_45 rfl (fun v10 => ?_)
      refine sw_if_ne (tgt := 57) (pc' := 51) ok dX7_copy_48 (by decide) rfl ?_ ?_
      · refine sw_aload_n (z := a0) (pc' := 58) ok dX7_copy_57 rfl rfl ?_
        refine sw_getR (pc' := 61) ok (fr_X7_11.g) dX7_copy_58 rfl (fun v11 => ?_)
        refine sw_iload_n (z := x1) (pc' := 62) ok dX7_copy_61 rfl rfl ?_
        refine sw_aldR (pc' := 63) ok dX7_copy_62 rfl (fun v12 => ?_)
        refine sw_iload_n (z := x2) (pc' := 64) ok dX7_copy_63 rfl rfl ?_
        refine sw_iload (z := x5) (pc' := 66) ok dX7_copy_64 rfl rfl ?_
        refine sw_cllV_I (st := []) (as := [.int x2, .int x5]) (pc' := 69) ok (S_X5_holdsSpan v12 x2 x5) (by decide) lk_X7_108 rfl dX7_copy_66 rfl (Nat.le_of_ble_eq_true rfl) rfl (fun v13 => ?_)
        refine sw_jn (fun k15 : PM Int32 => SW Γ iI 88 [some (.ref a0), none, none, none, none, none] [] (k15)) ?_ (fun k15 hk15 => ?_)
        · refine sw_aload_n (z := a0) (pc' := 89) ok dX7_copy_88 rfl rfl ?_
          refine sw_iconst (v := 2) (pc' := 90) ok dX7_copy_89 rfl cc_iconst_2 ?_
          refine sw_cllV_I (st := []) (as := [.int 2]) (pc' := 93) ok (S_X7_found a0 2) (by decide) lk_X7_82 rfl dX7_copy_90 rfl (Nat.le_of_ble_eq_true rfl) rfl (fun v14 => ?_)
          exact sw_ret ok okr dX7_copy_93 trivial rfl
        refine sw_if_eq (tgt := 88) (pc' := 72) ok dX7_copy_69 (by decide) rfl ?_ ?_
        · refine sw_fg (l' := [some (.ref a0), none, none, none, none, none]) [true, false, false, false, false, false] rfl ?_
          exact hk15
        refine sw_aload_n (z := a0) (pc' := 73) ok dX7_copy_72 rfl rfl ?_
        refine sw_getR (pc' := 76) ok (fr_X7_11.g) dX7_copy_73 rfl (fun v16 => ?_)
        refine sw_iload_n (z := x3) (pc' := 77) ok dX7_copy_76 rfl rfl ?_
        refine sw_aldR (pc' := 78) ok dX7_copy_77 rfl (fun v17 => ?_)
        refine sw_iload (z := x4) (pc' := 80) ok dX7_copy_78 rfl rfl ?_
        refine sw_iload (z := x5) (pc' := 82) ok dX7_copy_80 rfl rfl ?_
        refine sw_cllV_I (st := []) (as := [.int x4, .int x5]) (pc' := 85) ok (S_X5_holdsSpan v17 x4 x5) (by decide) lk_X7_108 rfl dX7_copy_82 rfl (Nat.le_of_ble_eq_true rfl) rfl (fun v18 => ?_)
        refine sw_if_ne (tgt := 94) (pc' := 88) ok dX7_copy_85 (by decide) rfl ?_ ?_
        · refine sw_aload_n (z := a0) (pc' := 95) ok dX7_copy_94 rfl rfl ?_
          refine sw_getR (pc' := 98) ok (fr_X7_11.g) dX7_copy_95 rfl (fun v19 => ?_)
          refine sw_iload_n (z := x1) (pc' := 99) ok dX7_copy_98 rfl rfl ?_
          refine sw_aldR (pc' := 100) ok dX7_copy_99 rfl (fun v20 => ?_)
          refine sw_getR (pc' := 103) ok (fr_X7_112) dX7_copy_100 rfl (fun v21 => ?_)
          refine sw_iload_n (z := x2) (pc' := 104) ok dX7_copy_103 rfl rfl ?_
          refine sw_aload_n (z := a0) (pc' := 105) ok dX7_copy_104 rfl rfl ?_
          refine sw_getR (pc' := 108) ok (fr_X7_11.g) dX7_copy_105 rfl (fun v22 => ?_)
          refine sw_iload_n (z := x3) (pc' := 109) ok dX7_copy_108 rfl rfl ?_
          refine sw_aldR (pc' := 110) ok dX7_copy_109 rfl (fun v23 => ?_)
          refine sw_getR (pc' := 113) ok (fr_X7_112) dX7_copy_110 rfl (fun v24 => ?_)
          refine sw_iload (z := x4) (pc' := 115) ok dX7_copy_113 rfl rfl ?_
          refine sw_iload (z := x5) (pc' := 117) ok dX7_copy_115 rfl rfl ?_
          refine sw_cpy (pc' := 120) ok wd_289 wd_290 wd_291 wd_292 (by decide) dX7_copy_117 (Nat.le_of_ble_eq_true rfl) rfl ?_
          refine sw_iconst (v := 1) (pc' := 121) ok dX7_copy_120 rfl cc_iconst_1 ?_
          exact sw_ret ok okr dX7_copy_121 trivial rfl
        refine sw_fg (l' := [some (.ref a0), none, none, none, none, none]) [true, false, false, false, false, false] rfl ?_
        exact hk15
      refine sw_fg (l' := [some (.ref a0), none, none, none, none, none]) [true, false, false, false, false, false] rfl ?_
      exact hk7
    refine sw_aload_n (z := a0) (pc' := 22) ok dX7_copy_21 rfl rfl ?_
    refine sw_iconst (v := 5) (pc' := 23) ok dX7_copy_22 rfl cc_iconst_5 ?_
    refine sw_cllV_I (st := []) (as := [.int 5]) (pc' := 26) ok (S_X7_found a0 5) (by decide) lk_X7_82 rfl dX7_copy_23 rfl (Nat.le_of_ble_eq_true rfl) rfl (fun v25 => ?_)
    exact sw_ret ok okr dX7_copy_26 trivial rfl
  refine sw_iconst (v := (-1)) (pc' := 15) ok dX7_copy_14 rfl cc_iconst_m1 ?_
  exact sw_ret ok okr dX7_copy_15 trivial rfl
theorem S_X7_copy (a0 : Nat) (x1 : Int32) (x2 : Int32) (x3 : Int32) (x4 : Int32) (x5 : Int32) : Sim 1 yX7_copy cX7_copy 6 (some .int) iI [.ref a0, .int x1, .int x2, .int x3, .int x4, .int x5] (P_X7_copy a0 x1 x2 x3 x4 x5) := Sim.intro wd_1001 (by decide) (by decide +kernel) (Nat.le_of_ble_eq_true rfl) (fun Γ ok okr => W_X7_copy ok okr a0 x1 x2 x3 x4 x5)
theorem dX7_mean_0 : decode cX7_mean 0 = .ok (.iload_n 1, 1) := by decide +kernel
theorem dX7_mean_1 : decode cX7_mean 1 = .ok (.invokestatic 78, 3) := by decide +kernel
theorem dX7_mean_4 : decode cX7_mean 4 = .ok (.ifCond .ne 5, 3) := by decide +kernel
theorem dX7_mean_7 : decode cX7_mean 7 = .ok (.iconst (-1), 1) := by decide +kernel
theorem dX7_mean_8 : decode cX7_mean 8 = .ok (.ireturn, 1) := by decide +kernel
theorem dX7_mean_9 : decode cX7_mean 9 = .ok (.aload_n 0, 1) := by decide +kernel
theorem dX7_mean_10 : decode cX7_mean 10 = .ok (.getfield 11, 3) := by decide +kernel
theorem dX7_mean_13 : decode cX7_mean 13 = .ok (.iload_n 1, 1) := by decide +kernel
theorem dX7_mean_14 : decode cX7_mean 14 = .ok (.aaload, 1) := by decide +kernel
theorem dX7_mean_15 : decode cX7_mean 15 = .ok (.getfield 104, 3) := by decide +kernel
theorem dX7_mean_18 : decode cX7_mean 18 = .ok (.ifCond .ne 9, 3) := by decide +kernel
theorem dX7_mean_21 : decode cX7_mean 21 = .ok (.aload_n 0, 1) := by decide +kernel
theorem dX7_mean_22 : decode cX7_mean 22 = .ok (.iconst 1, 1) := by decide +kernel
theorem dX7_mean_23 : decode cX7_mean 23 = .ok (.invokevirtual 82, 3) := by decide +kernel
theorem dX7_mean_26 : decode cX7_mean 26 = .ok (.ireturn, 1) := by decide +kernel
theorem dX7_mean_27 : decode cX7_mean 27 = .ok (.aload_n 0, 1) := by decide +kernel
theorem dX7_mean_28 : decode cX7_mean 28 = .ok (.getfield 11, 3) := by decide +kernel
theorem dX7_mean_31 : decode cX7_mean 31 = .ok (.iload_n 1, 1) := by decide +kernel
theorem dX7_mean_32 : decode cX7_mean 32 = .ok (.aaload, 1) := by decide +kernel
theorem dX7_mean_33 : decode cX7_mean 33 = .ok (.getfield 121, 3) := by decide +kernel
theorem dX7_mean_36 : decode cX7_mean 36 = .ok (.istore_n 2, 1) := by decide +kernel
theorem dX7_mean_37 : decode cX7_mean 37 = .ok (.iload_n 2, 1) := by decide +kernel
theorem dX7_mean_38 : decode cX7_mean 38 = .ok (.ifCond .gt 9, 3) := by decide +kernel
theorem dX7_mean_41 : decode cX7_mean 41 = .ok (.aload_n 0, 1) := by decide +kernel
theorem dX7_mean_42 : decode cX7_mean 42 = .ok (.iconst 4, 1) := by decide +kernel
theorem dX7_mean_43 : decode cX7_mean 43 = .ok (.invokevirtual 82, 3) := by decide +kernel
theorem dX7_mean_46 : decode cX7_mean 46 = .ok (.ireturn, 1) := by decide +kernel
theorem dX7_mean_47 : decode cX7_mean 47 = .ok (.aload_n 0, 1) := by decide +kernel
theorem dX7_mean_48 : decode cX7_mean 48 = .ok (.aload_n 0, 1) := by decide +kernel
theorem dX7_mean_49 : decode cX7_mean 49 = .ok (.getfield 11, 3) := by decide +kernel
theorem dX7_mean_52 : decode cX7_mean 52 = .ok (.iload_n 1, 1) := by decide +kernel
theorem dX7_mean_53 : decode cX7_mean 53 = .ok (.aaload, 1) := by decide +kernel
theorem dX7_mean_54 : decode cX7_mean 54 = .ok (.invokevirtual 124, 3) := by decide +kernel
theorem dX7_mean_57 : decode cX7_mean 57 = .ok (.iload_n 2, 1) := by decide +kernel
theorem dX7_mean_58 : decode cX7_mean 58 = .ok (.i2l, 1) := by decide +kernel
theorem dX7_mean_59 : decode cX7_mean 59 = .ok (.ldiv, 1) := by decide +kernel
theorem dX7_mean_60 : decode cX7_mean 60 = .ok (.l2i, 1) := by decide +kernel
theorem dX7_mean_61 : decode cX7_mean 61 = .ok (.invokevirtual 98, 3) := by decide +kernel
theorem dX7_mean_64 : decode cX7_mean 64 = .ok (.ireturn, 1) := by decide +kernel
def P_X7_mean (a0 : Nat) (x1 : Int32) : PM Int32 :=
cll0 (P_X7_isRow x1) fun v1 =>
ifB (decide (¬ v1 = 0)) (
getR 7 0 a0 fun v2 =>
aldR v2 x1 fun v3 =>
getI 5 3 v3 fun v4 =>
ifB (decide (¬ v4 = 0)) (
getR 7 0 a0 fun v5 =>
aldR v5 x1 fun v6 =>
getI 5 2 v6 fun v7 =>
ifB (decide (0 < v7)) (
getR 7 0 a0 fun v8 =>
aldR v8 x1 fun v9 =>
cllV 5 v9 (P_X5_sum v9) fun v10 =>
divL v10 (Int32.toInt64 v7) fun v11 =>
cllV 7 a0 (P_X7_tellAsked a0 (Int64.toInt32 v11)) fun v12 =>
pureM v12) (
cllV 7 a0 (P_X7_found a0 4) fun v13 =>
pureM v13)) (
cllV 7 a0 (P_X7_found a0 1) fun v14 =>
pureM v14)) (
pureM ((-1)))
set_option maxHeartbeats 4000000 in
set_option maxRecDepth 100000 in
theorem W_X7_mean {Γ : Cx} (ok : OKc Γ cX7_mean RX7 1 "mean") (okr : OKr Γ cX7_mean (some .int)) (a0 : Nat) (x1 : Int32) : SW Γ iI 0 [some (.ref a0), some (.int x1), none] [] (P_X7_mean a0 x1) := by
  unfold P_X7_mean
  refine sw_iload_n (z := x1) (pc' := 1) ok dX7_mean_0 rfl rfl ?_
  refine sw_cll0_I (st := []) (as := [.int x1]) (pc' := 4) ok (S_X7_isRow x1) (by decide) lk_X7_78 rfl dX7_mean_1 rfl (Nat.le_of_ble_eq_true rfl) rfl (fun v1 => ?_)
  refine sw_if_ne (tgt := 9) (pc' := 7) ok dX7_mean_4 (by decide) rfl ?_ ?_
  · refine sw_aload_n (z := a0) (pc' := 10) ok dX7_mean_9 rfl rfl ?_
    refine sw_getR (pc' := 13) ok (fr_X7_11.g) dX7_mean_10 rfl (fun v2 => ?_)
    refine sw_iload_n (z := x1) (pc' := 14) ok dX7_mean_13 rfl rfl ?_
    refine sw_aldR (pc' := 15) ok dX7_mean_14 rfl (fun v3 => ?_)
    refine sw_getI (pc' := 18) ok (fr_X7_104.g) dX7_mean_15 rfl (fun v4 => ?_)
    refine sw_if_ne (tgt := 27) (pc' := 21) ok dX7_mean_18 (by decide) rfl ?_ ?_
    · refine sw_aload_n (z := a0) (pc' := 28) ok dX7_mean_27 rfl rfl ?_
      refine sw_getR (pc' := 31) ok (fr_X7_11.g) dX7_mean_28 rfl (fun v5 => ?_)
      refine sw_iload_n (z := x1) (pc' := 32) ok dX7_mean_31 rfl rfl ?_
      refine sw_aldR (pc' := 33) ok dX7_mean_32 rfl (fun v6 => ?_)
      refine sw_getI (pc' := 36) ok (fr_X7_121.g) dX7_mean_33 rfl (fun v7 => ?_)
      refine sw_istore_n (pc' := 37) (l' := [some (.ref a0), some (.int x1), some (.int v7)]) ok dX7_mean_36 rfl (Nat.le_of_ble_eq_true rfl) rfl ?_
      refine sw_iload_n (z := v7) (pc' := 38) ok dX7_mean_37 rfl rfl ?_
      refine sw_if_gt (tgt := 47) (pc' := 41) ok dX7_mean_38 (by decide) rfl ?_ ?_
      · refine sw_aload_n (z := a0) (pc' := 48) ok dX7_mean_47 rfl rfl ?_
        refine sw_aload_n (z := a0) (pc' := 49) ok dX7_mean_48 rfl rfl ?_
        refine sw_getR (pc' := 52) ok (fr_X7_11.g) dX7_mean_49 rfl (fun v8 => ?_)
        refine sw_iload_n (z := x1) (pc' := 53) ok dX7_mean_52 rfl rfl ?_
        refine sw_aldR (pc' := 54) ok dX7_mean_53 rfl (fun v9 => ?_)
        refine sw_cllV_L (st := [.ref a0]) (as := []) (pc' := 57) ok (S_X5_sum v9) (by decide) lk_X7_124 rfl dX7_mean_54 rfl (Nat.le_of_ble_eq_true rfl) rfl (fun v10 => ?_)
        refine sw_iload_n (z := v7) (pc' := 58) ok dX7_mean_57 rfl rfl ?_
        refine sw_i2l (pc' := 59) ok dX7_mean_58 rfl ?_
        refine sw_divL (pc' := 60) ok dX7_mean_59 rfl (fun v11 => ?_)
        refine sw_l2i (pc' := 61) ok dX7_mean_60 rfl ?_
        refine sw_cllV_I (st := []) (as := [.int (Int64.toInt32 v11)]) (pc' := 64) ok (S_X7_tellAsked a0 (Int64.toInt32 v11)) (by decide) lk_X7_98 rfl dX7_mean_61 rfl (Nat.le_of_ble_eq_true rfl) rfl (fun v12 => ?_)
        exact sw_ret ok okr dX7_mean_64 trivial rfl
      refine sw_aload_n (z := a0) (pc' := 42) ok dX7_mean_41 rfl rfl ?_
      refine sw_iconst (v := 4) (pc' := 43) ok dX7_mean_42 rfl cc_iconst_4 ?_
      refine sw_cllV_I (st := []) (as := [.int 4]) (pc' := 46) ok (S_X7_found a0 4) (by decide) lk_X7_82 rfl dX7_mean_43 rfl (Nat.le_of_ble_eq_true rfl) rfl (fun v13 => ?_)
      exact sw_ret ok okr dX7_mean_46 trivial rfl
    refine sw_aload_n (z := a0) (pc' := 22) ok dX7_mean_21 rfl rfl ?_
    refine sw_iconst (v := 1) (pc' := 23) ok dX7_mean_22 rfl cc_iconst_1 ?_
    refine sw_cllV_I (st := []) (as := [.int 1]) (pc' := 26) ok (S_X7_found a0 1) (by decide) lk_X7_82 rfl dX7_mean_23 rfl (Nat.le_of_ble_eq_true rfl) rfl (fun v14 => ?_)
    exact sw_ret ok okr dX7_mean_26 trivial rfl
  refine sw_iconst (v := (-1)) (pc' := 8) ok dX7_mean_7 rfl cc_iconst_m1 ?_
  exact sw_ret ok okr dX7_mean_8 trivial rfl
theorem S_X7_mean (a0 : Nat) (x1 : Int32) : Sim 1 yX7_mean cX7_mean 3 (some .int) iI [.ref a0, .int x1] (P_X7_mean a0 x1) := Sim.intro wd_1002 (by decide) (by decide +kernel) (Nat.le_of_ble_eq_true rfl) (fun Γ ok okr => W_X7_mean ok okr a0 x1)
theorem dX7_isText_0 : decode cX7_isText 0 = .ok (.iload_n 0, 1) := by decide +kernel
theorem dX7_isText_1 : decode cX7_isText 1 = .ok (.ifCond .lt 12, 3) := by decide +kernel
theorem dX7_isText_4 : decode cX7_isText 4 = .ok (.iload_n 0, 1) := by decide +kernel
theorem dX7_isText_5 : decode cX7_isText 5 = .ok (.iconst 4, 1) := by decide +kernel
theorem dX7_isText_6 : decode cX7_isText 6 = .ok (.if_icmp .ge 7, 3) := by decide +kernel
theorem dX7_isText_9 : decode cX7_isText 9 = .ok (.iconst 1, 1) := by decide +kernel
theorem dX7_isText_10 : decode cX7_isText 10 = .ok (.goto 4, 3) := by decide +kernel
theorem dX7_isText_13 : decode cX7_isText 13 = .ok (.iconst 0, 1) := by decide +kernel
theorem dX7_isText_14 : decode cX7_isText 14 = .ok (.ireturn, 1) := by decide +kernel
def P_X7_isText (x0 : Int32) : PM Int32 :=
jn (
retZ 0) fun k1 =>
ifB (decide (x0 < 0)) (
k1) (
ifB (decide (4 ≤ x0)) (
k1) (
retZ 1))
set_option maxHeartbeats 4000000 in
set_option maxRecDepth 100000 in
theorem W_X7_isText {Γ : Cx} (ok : OKc Γ cX7_isText RX7 0 "isText") (okr : OKr Γ cX7_isText (some .boolean)) (x0 : Int32) : SW Γ iI 0 [some (.int x0)] [] (P_X7_isText x0) := by
  unfold P_X7_isText
  refine sw_iload_n (z := x0) (pc' := 1) ok dX7_isText_0 rfl rfl ?_
  refine sw_jn (fun k1 : PM Int32 => SW Γ iI 13 [none] [] (k1)) ?_ (fun k1 hk1 => ?_)
  · refine sw_iconst (v := 0) (pc' := 14) ok dX7_isText_13 rfl cc_iconst_0 ?_
    exact sw_retZ ok okr dX7_isText_14
  refine sw_if_lt (tgt := 13) (pc' := 4) ok dX7_isText_1 (by decide) rfl ?_ ?_
  · refine sw_fg (l' := [none]) [false] rfl ?_
    exact hk1
  refine sw_iload_n (z := x0) (pc' := 5) ok dX7_isText_4 rfl rfl ?_
  refine sw_iconst (v := 4) (pc' := 6) ok dX7_isText_5 rfl cc_iconst_4 ?_
  refine sw_icmp_ge (tgt := 13) (pc' := 9) ok dX7_isText_6 (by decide) rfl ?_ ?_
  · refine sw_fg (l' := [none]) [false] rfl ?_
    exact hk1
  refine sw_iconst (v := 1) (pc' := 10) ok dX7_isText_9 rfl cc_iconst_1 ?_
  refine sw_goto (tgt := 14) ok dX7_isText_10 (by decide) ?_
  exact sw_retZ ok okr dX7_isText_14
theorem S_X7_isText (x0 : Int32) : Sim 0 yX7_isText cX7_isText 1 (some .boolean) iI [.int x0] (P_X7_isText x0) := Sim.intro wd_1003 (by decide) (by decide +kernel) (Nat.le_of_ble_eq_true rfl) (fun Γ ok okr => W_X7_isText ok okr x0)
