/-! Programs and walks, printed by program (gen.py). -/
theorem dX8_refusedTriples_0 : decode cX8_refusedTriples 0 = .ok (.aload_n 0, 1) := by decide +kernel
theorem dX8_refusedTriples_1 : decode cX8_refusedTriples 1 = .ok (.getfield 13, 3) := by decide +kernel
theorem dX8_refusedTriples_4 : decode cX8_refusedTriples 4 = .ok (.iload_n 1, 1) := by decide +kernel
theorem dX8_refusedTriples_5 : decode cX8_refusedTriples 5 = .ok (.iaload, 1) := by decide +kernel
theorem dX8_refusedTriples_6 : decode cX8_refusedTriples 6 = .ok (.ifCond .ge 5, 3) := by decide +kernel
theorem dX8_refusedTriples_9 : decode cX8_refusedTriples 9 = .ok (.iconst 1, 1) := by decide +kernel
theorem dX8_refusedTriples_10 : decode cX8_refusedTriples 10 = .ok (.ireturn, 1) := by decide +kernel
theorem dX8_refusedTriples_11 : decode cX8_refusedTriples 11 = .ok (.aload_n 0, 1) := by decide +kernel
theorem dX8_refusedTriples_12 : decode cX8_refusedTriples 12 = .ok (.getfield 13, 3) := by decide +kernel
theorem dX8_refusedTriples_15 : decode cX8_refusedTriples 15 = .ok (.iload_n 1, 1) := by decide +kernel
theorem dX8_refusedTriples_16 : decode cX8_refusedTriples 16 = .ok (.iaload, 1) := by decide +kernel
theorem dX8_refusedTriples_17 : decode cX8_refusedTriples 17 = .ok (.iconst 3, 1) := by decide +kernel
theorem dX8_refusedTriples_18 : decode cX8_refusedTriples 18 = .ok (.irem, 1) := by decide +kernel
theorem dX8_refusedTriples_19 : decode cX8_refusedTriples 19 = .ok (.ifCond .eq 5, 3) := by decide +kernel
theorem dX8_refusedTriples_22 : decode cX8_refusedTriples 22 = .ok (.iconst 5, 1) := by decide +kernel
theorem dX8_refusedTriples_23 : decode cX8_refusedTriples 23 = .ok (.ireturn, 1) := by decide +kernel
theorem dX8_refusedTriples_24 : decode cX8_refusedTriples 24 = .ok (.iconst 0, 1) := by decide +kernel
theorem dX8_refusedTriples_25 : decode cX8_refusedTriples 25 = .ok (.istore_n 2, 1) := by decide +kernel
theorem dX8_refusedTriples_26 : decode cX8_refusedTriples 26 = .ok (.iload_n 2, 1) := by decide +kernel
theorem dX8_refusedTriples_27 : decode cX8_refusedTriples 27 = .ok (.aload_n 0, 1) := by decide +kernel
theorem dX8_refusedTriples_28 : decode cX8_refusedTriples 28 = .ok (.getfield 13, 3) := by decide +kernel
theorem dX8_refusedTriples_31 : decode cX8_refusedTriples 31 = .ok (.iload_n 1, 1) := by decide +kernel
theorem dX8_refusedTriples_32 : decode cX8_refusedTriples 32 = .ok (.iaload, 1) := by decide +kernel
theorem dX8_refusedTriples_33 : decode cX8_refusedTriples 33 = .ok (.if_icmp .ge 73, 3) := by decide +kernel
theorem dX8_refusedTriples_36 : decode cX8_refusedTriples 36 = .ok (.bipush 40, 2) := by decide +kernel
theorem dX8_refusedTriples_38 : decode cX8_refusedTriples 38 = .ok (.iload_n 1, 1) := by decide +kernel
theorem dX8_refusedTriples_39 : decode cX8_refusedTriples 39 = .ok (.imul, 1) := by decide +kernel
theorem dX8_refusedTriples_40 : decode cX8_refusedTriples 40 = .ok (.iload_n 2, 1) := by decide +kernel
theorem dX8_refusedTriples_41 : decode cX8_refusedTriples 41 = .ok (.iadd, 1) := by decide +kernel
theorem dX8_refusedTriples_42 : decode cX8_refusedTriples 42 = .ok (.istore_n 3, 1) := by decide +kernel
theorem dX8_refusedTriples_43 : decode cX8_refusedTriples 43 = .ok (.aload_n 0, 1) := by decide +kernel
theorem dX8_refusedTriples_44 : decode cX8_refusedTriples 44 = .ok (.getfield 7, 3) := by decide +kernel
theorem dX8_refusedTriples_47 : decode cX8_refusedTriples 47 = .ok (.iload_n 3, 1) := by decide +kernel
theorem dX8_refusedTriples_48 : decode cX8_refusedTriples 48 = .ok (.iaload, 1) := by decide +kernel
theorem dX8_refusedTriples_49 : decode cX8_refusedTriples 49 = .ok (.i2l, 1) := by decide +kernel
theorem dX8_refusedTriples_50 : decode cX8_refusedTriples 50 = .ok (.lconst 0, 1) := by decide +kernel
theorem dX8_refusedTriples_51 : decode cX8_refusedTriples 51 = .ok (.ldc2_w 283, 3) := by decide +kernel
theorem dX8_refusedTriples_54 : decode cX8_refusedTriples 54 = .ok (.invokestatic 80, 3) := by decide +kernel
theorem dX8_refusedTriples_57 : decode cX8_refusedTriples 57 = .ok (.ifCond .eq 41, 3) := by decide +kernel
theorem dX8_refusedTriples_60 : decode cX8_refusedTriples 60 = .ok (.aload_n 0, 1) := by decide +kernel
theorem dX8_refusedTriples_61 : decode cX8_refusedTriples 61 = .ok (.getfield 7, 3) := by decide +kernel
theorem dX8_refusedTriples_64 : decode cX8_refusedTriples 64 = .ok (.iload_n 3, 1) := by decide +kernel
theorem dX8_refusedTriples_65 : decode cX8_refusedTriples 65 = .ok (.iconst 1, 1) := by decide +kernel
theorem dX8_refusedTriples_66 : decode cX8_refusedTriples 66 = .ok (.iadd, 1) := by decide +kernel
theorem dX8_refusedTriples_67 : decode cX8_refusedTriples 67 = .ok (.iaload, 1) := by decide +kernel
theorem dX8_refusedTriples_68 : decode cX8_refusedTriples 68 = .ok (.i2l, 1) := by decide +kernel
theorem dX8_refusedTriples_69 : decode cX8_refusedTriples 69 = .ok (.lconst 0, 1) := by decide +kernel
theorem dX8_refusedTriples_70 : decode cX8_refusedTriples 70 = .ok (.ldc2_w 285, 3) := by decide +kernel
theorem dX8_refusedTriples_73 : decode cX8_refusedTriples 73 = .ok (.invokestatic 80, 3) := by decide +kernel
theorem dX8_refusedTriples_76 : decode cX8_refusedTriples 76 = .ok (.ifCond .eq 22, 3) := by decide +kernel
theorem dX8_refusedTriples_79 : decode cX8_refusedTriples 79 = .ok (.aload_n 0, 1) := by decide +kernel
theorem dX8_refusedTriples_80 : decode cX8_refusedTriples 80 = .ok (.getfield 7, 3) := by decide +kernel
theorem dX8_refusedTriples_83 : decode cX8_refusedTriples 83 = .ok (.iload_n 3, 1) := by decide +kernel
theorem dX8_refusedTriples_84 : decode cX8_refusedTriples 84 = .ok (.iconst 2, 1) := by decide +kernel
theorem dX8_refusedTriples_85 : decode cX8_refusedTriples 85 = .ok (.iadd, 1) := by decide +kernel
theorem dX8_refusedTriples_86 : decode cX8_refusedTriples 86 = .ok (.iaload, 1) := by decide +kernel
theorem dX8_refusedTriples_87 : decode cX8_refusedTriples 87 = .ok (.i2l, 1) := by decide +kernel
theorem dX8_refusedTriples_88 : decode cX8_refusedTriples 88 = .ok (.lconst 0, 1) := by decide +kernel
theorem dX8_refusedTriples_89 : decode cX8_refusedTriples 89 = .ok (.ldc2_w 287, 3) := by decide +kernel
theorem dX8_refusedTriples_92 : decode cX8_refusedTriples 92 = .ok (.invokestatic 80, 3) := by decide +kernel
theorem dX8_refusedTriples_95 : decode cX8_refusedTriples 95 = .ok (.ifCond .ne 5, 3) := by decide +kernel
theorem dX8_refusedTriples_98 : decode cX8_refusedTriples 98 = .ok (.iconst 3, 1) := by decide +kernel
theorem dX8_refusedTriples_99 : decode cX8_refusedTriples 99 = .ok (.ireturn, 1) := by decide +kernel
theorem dX8_refusedTriples_100 : decode cX8_refusedTriples 100 = .ok (.iinc 2 3, 3) := by decide +kernel
theorem dX8_refusedTriples_103 : decode cX8_refusedTriples 103 = .ok (.goto (-77), 3) := by decide +kernel
theorem dX8_refusedTriples_106 : decode cX8_refusedTriples 106 = .ok (.iconst 0, 1) := by decide +kernel
theorem dX8_refusedTriples_107 : decode cX8_refusedTriples 107 = .ok (.ireturn, 1) := by decide +kernel
def P_X8_refusedTriples_26 (p0 : Nat) (p1 : Int32) : Nat → Int32 → PM Int32
  | 0, _ => failM
  | n + 1, q2 =>
    getR 8 1 p0 fun v6 =>
    ald v6 p1 fun v7 =>
    ifB (decide (v7 ≤ q2)) (
    pureM 0) (
    getR 8 0 p0 fun v8 =>
    ald v8 ((40 * p1) + q2) fun v9 =>
    cll0 (P_X8_in (Int32.toInt64 v9) 0 30) fun v10 =>
    ifB (decide (v10 = 0)) (
    pureM 3) (
    getR 8 0 p0 fun v11 =>
    ald v11 (((40 * p1) + q2) + 1) fun v12 =>
    cll0 (P_X8_in (Int32.toInt64 v12) 0 11) fun v13 =>
    ifB (decide (v13 = 0)) (
    pureM 3) (
    getR 8 0 p0 fun v14 =>
    ald v14 (((40 * p1) + q2) + 2) fun v15 =>
    cll0 (P_X8_in (Int32.toInt64 v15) 0 15) fun v16 =>
    ifB (decide (¬ v16 = 0)) (
    P_X8_refusedTriples_26 p0 p1 n (q2 + 3)) (
    pureM 3))))
def P_X8_refusedTriples (a0 : Nat) (x1 : Int32) : PM Int32 :=
getR 8 1 a0 fun v1 =>
ald v1 x1 fun v2 =>
ifB (decide (0 ≤ v2)) (
getR 8 1 a0 fun v3 =>
ald v3 x1 fun v4 =>
remI v4 3 fun v5 =>
ifB (decide (v5 = 0)) (
P_X8_refusedTriples_26 a0 x1 4000 0) (
pureM 5)) (
pureM 1)
set_option maxHeartbeats 4000000 in
set_option maxRecDepth 100000 in
theorem W_X8_refusedTriples_26 {Γ : Cx} (ok : OKc Γ cX8_refusedTriples RX8 1 "refusedTriples") (okr : OKr Γ cX8_refusedTriples (some .int)) (p0 : Nat) (p1 : Int32) : ∀ (n : Nat) (q2 : Int32), SW Γ iI 26 [some (.ref p0), some (.int p1), some (.int q2), none] [] (P_X8_refusedTriples_26 p0 p1 n q2) := by
  intro n
  induction n with
  | zero =>
    intros
    exact sw_fail
  | succ n ih =>
    intro q2
    unfold P_X8_refusedTriples_26
    refine sw_iload_n (z := q2) (pc' := 27) ok dX8_refusedTriples_26 rfl rfl ?_
    refine sw_aload_n (z := p0) (pc' := 28) ok dX8_refusedTriples_27 rfl rfl ?_
    refine sw_getR (pc' := 31) ok (fr_X8_13.g) dX8_refusedTriples_28 rfl (fun v6 => ?_)
    refine sw_iload_n (z := p1) (pc' := 32) ok dX8_refusedTriples_31 rfl rfl ?_
    refine sw_ald (pc' := 33) ok dX8_refusedTriples_32 rfl (fun v7 => ?_)
    refine sw_icmp_ge (tgt := 106) (pc' := 36) ok dX8_refusedTriples_33 (by decide) rfl ?_ ?_
    · refine sw_iconst (v := 0) (pc' := 107) ok dX8_refusedTriples_106 rfl cc_iconst_0 ?_
      exact sw_ret ok okr dX8_refusedTriples_107 trivial rfl
    refine sw_bipush (v := 40) (pc' := 38) ok dX8_refusedTriples_36 rfl cc_bipush_40 ?_
    refine sw_iload_n (z := p1) (pc' := 39) ok dX8_refusedTriples_38 rfl rfl ?_
    refine sw_imul (pc' := 40) ok dX8_refusedTriples_39 rfl ?_
    refine sw_iload_n (z := q2) (pc' := 41) ok dX8_refusedTriples_40 rfl rfl ?_
    refine sw_iadd (pc' := 42) ok dX8_refusedTriples_41 rfl ?_
    refine sw_istore_n (pc' := 43) (l' := [some (.ref p0), some (.int p1), some (.int q2), some (.int ((40 * p1) + q2))]) ok dX8_refusedTriples_42 rfl (Nat.le_of_ble_eq_true rfl) rfl ?_
    refine sw_aload_n (z := p0) (pc' := 44) ok dX8_refusedTriples_43 rfl rfl ?_
    refine sw_getR (pc' := 47) ok (fr_X8_7.g) dX8_refusedTriples_44 rfl (fun v8 => ?_)
    refine sw_iload_n (z := ((40 * p1) + q2)) (pc' := 48) ok dX8_refusedTriples_47 rfl rfl ?_
    refine sw_ald (pc' := 49) ok dX8_refusedTriples_48 rfl (fun v9 => ?_)
    refine sw_i2l (pc' := 50) ok dX8_refusedTriples_49 rfl ?_
    refine sw_lconst (v := 0) (pc' := 51) ok dX8_refusedTriples_50 rfl cc_lconst_0 ?_
    refine sw_ldc2 (v := 30) (pc' := 54) ok dX8_refusedTriples_51 rfl wd_621 ?_
    refine sw_cll0_I (st := []) (as := [.long (Int32.toInt64 v9), .long 0, .long 30]) (pc' := 57) ok (S_X8_in (Int32.toInt64 v9) 0 30) (by decide) lk_X8_80 rfl dX8_refusedTriples_54 rfl (Nat.le_of_ble_eq_true rfl) rfl (fun v10 => ?_)
    refine sw_if_eq (tgt := 98) (pc' := 60) ok dX8_refusedTriples_57 (by decide) rfl ?_ ?_
    · refine sw_iconst (v := 3) (pc' := 99) ok dX8_refusedTriples_98 rfl cc_iconst_3 ?_
      exact sw_ret ok okr dX8_refusedTriples_99 trivial rfl
    refine sw_aload_n (z := p0) (pc' := 61) ok dX8_refusedTriples_60 rfl rfl ?_
    refine sw_getR (pc' := 64) ok (fr_X8_7.g) dX8_refusedTriples_61 rfl (fun v11 => ?_)
    refine sw_iload_n (z := ((40 * p1) + q2)) (pc' := 65) ok dX8_refusedTriples_64 rfl rfl ?_
    refine sw_iconst (v := 1) (pc' := 66) ok dX8_refusedTriples_65 rfl cc_iconst_1 ?_
    refine sw_iadd (pc' := 67) ok dX8_refusedTriples_66 rfl ?_
    refine sw_ald (pc' := 68) ok dX8_refusedTriples_67 rfl (fun v12 => ?_)
    refine sw_i2l (pc' := 69) ok dX8_refusedTriples_68 rfl ?_
    refine sw_lconst (v := 0) (pc' := 70) ok dX8_refusedTriples_69 rfl cc_lconst_0 ?_
    refine sw_ldc2 (v := 11) (pc' := 73) ok dX8_refusedTriples_70 rfl wd_622 ?_
    refine sw_cll0_I (st := []) (as := [.long (Int32.toInt64 v12), .long 0, .long 11]) (pc' := 76) ok (S_X8_in (Int32.toInt64 v12) 0 11) (by decide) lk_X8_80 rfl dX8_refusedTriples_73 rfl (Nat.le_of_ble_eq_true rfl) rfl (fun v13 => ?_)
    refine sw_if_eq (tgt := 98) (pc' := 79) ok dX8_refusedTriples_76 (by decide) rfl ?_ ?_
    · refine sw_iconst (v := 3) (pc' := 99) ok dX8_refusedTriples_98 rfl cc_iconst_3 ?_
      exact sw_ret ok okr dX8_refusedTriples_99 trivial rfl
    refine sw_aload_n (z := p0) (pc' := 80) ok dX8_refusedTriples_79 rfl rfl ?_
    refine sw_getR (pc' := 83) ok (fr_X8_7.g) dX8_refusedTriples_80 rfl (fun v14 => ?_)
    refine sw_iload_n (z := ((40 * p1) + q2)) (pc' := 84) ok dX8_refusedTriples_83 rfl rfl ?_
    refine sw_iconst (v := 2) (pc' := 85) ok dX8_refusedTriples_84 rfl cc_iconst_2 ?_
    refine sw_iadd (pc' := 86) ok dX8_refusedTriples_85 rfl ?_
    refine sw_ald (pc' := 87) ok dX8_refusedTriples_86 rfl (fun v15 => ?_)
    refine sw_i2l (pc' := 88) ok dX8_refusedTriples_87 rfl ?_
    refine sw_lconst (v := 0) (pc' := 89) ok dX8_refusedTriples_88 rfl cc_lconst_0 ?_
    refine sw_ldc2 (v := 15) (pc' := 92) ok dX8_refusedTriples_89 rfl wd_623 ?_
    refine sw_cll0_I (st := []) (as := [.long (Int32.toInt64 v15), .long 0, .long 15]) (pc' := 95) ok (S_X8_in (Int32.toInt64 v15) 0 15) (by decide) lk_X8_80 rfl dX8_refusedTriples_92 rfl (Nat.le_of_ble_eq_true rfl) rfl (fun v16 => ?_)
    refine sw_if_ne (tgt := 100) (pc' := 98) ok dX8_refusedTriples_95 (by decide) rfl ?_ ?_
    · refine sw_iinc (z := q2) (v := q2 + 3) (pc' := 103) (l' := [some (.ref p0), some (.int p1), some (.int (q2 + 3)), some (.int ((40 * p1) + q2))]) ok dX8_refusedTriples_100 rfl rfl (by rw [cc_iconst_3]) rfl ?_
      refine sw_goto (tgt := 26) ok dX8_refusedTriples_103 (by decide) ?_
      refine sw_fg (l' := [some (.ref p0), some (.int p1), some (.int (q2 + 3)), none]) [true, true, true, false] rfl ?_
      exact ih (q2 + 3)
    refine sw_iconst (v := 3) (pc' := 99) ok dX8_refusedTriples_98 rfl cc_iconst_3 ?_
    exact sw_ret ok okr dX8_refusedTriples_99 trivial rfl
set_option maxHeartbeats 4000000 in
set_option maxRecDepth 100000 in
theorem W_X8_refusedTriples {Γ : Cx} (ok : OKc Γ cX8_refusedTriples RX8 1 "refusedTriples") (okr : OKr Γ cX8_refusedTriples (some .int)) (a0 : Nat) (x1 : Int32) : SW Γ iI 0 [some (.ref a0), some (.int x1), none, none] [] (P_X8_refusedTriples a0 x1) := by
  unfold P_X8_refusedTriples
  refine sw_aload_n (z := a0) (pc' := 1) ok dX8_refusedTriples_0 rfl rfl ?_
  refine sw_getR (pc' := 4) ok (fr_X8_13.g) dX8_refusedTriples_1 rfl (fun v1 => ?_)
  refine sw_iload_n (z := x1) (pc' := 5) ok dX8_refusedTriples_4 rfl rfl ?_
  refine sw_ald (pc' := 6) ok dX8_refusedTriples_5 rfl (fun v2 => ?_)
  refine sw_if_ge (tgt := 11) (pc' := 9) ok dX8_refusedTriples_6 (by decide) rfl ?_ ?_
  · refine sw_aload_n (z := a0) (pc' := 12) ok dX8_refusedTriples_11 rfl rfl ?_
    refine sw_getR (pc' := 15) ok (fr_X8_13.g) dX8_refusedTriples_12 rfl (fun v3 => ?_)
    refine sw_iload_n (z := x1) (pc' := 16) ok dX8_refusedTriples_15 rfl rfl ?_
    refine sw_ald (pc' := 17) ok dX8_refusedTriples_16 rfl (fun v4 => ?_)
    refine sw_iconst (v := 3) (pc' := 18) ok dX8_refusedTriples_17 rfl cc_iconst_3 ?_
    refine sw_remI (pc' := 19) ok dX8_refusedTriples_18 rfl (fun v5 => ?_)
    refine sw_if_eq (tgt := 24) (pc' := 22) ok dX8_refusedTriples_19 (by decide) rfl ?_ ?_
    · refine sw_iconst (v := 0) (pc' := 25) ok dX8_refusedTriples_24 rfl cc_iconst_0 ?_
      refine sw_istore_n (pc' := 26) (l' := [some (.ref a0), some (.int x1), some (.int 0), none]) ok dX8_refusedTriples_25 rfl (Nat.le_of_ble_eq_true rfl) rfl ?_
      exact W_X8_refusedTriples_26 ok okr a0 x1 4000 0
    refine sw_iconst (v := 5) (pc' := 23) ok dX8_refusedTriples_22 rfl cc_iconst_5 ?_
    exact sw_ret ok okr dX8_refusedTriples_23 trivial rfl
  refine sw_iconst (v := 1) (pc' := 10) ok dX8_refusedTriples_9 rfl cc_iconst_1 ?_
  exact sw_ret ok okr dX8_refusedTriples_10 trivial rfl
theorem S_X8_refusedTriples (a0 : Nat) (x1 : Int32) : Sim 1 yX8_refusedTriples cX8_refusedTriples 4 (some .int) iI [.ref a0, .int x1] (P_X8_refusedTriples a0 x1) := Sim.intro wd_1131 (by decide) (by decide +kernel) (Nat.le_of_ble_eq_true rfl) (fun Γ ok okr => W_X8_refusedTriples ok okr a0 x1)
theorem dX8_fits_0 : decode cX8_fits 0 = .ok (.iconst 1, 1) := by decide +kernel
theorem dX8_fits_1 : decode cX8_fits 1 = .ok (.istore 5, 2) := by decide +kernel
theorem dX8_fits_3 : decode cX8_fits 3 = .ok (.iconst 0, 1) := by decide +kernel
theorem dX8_fits_4 : decode cX8_fits 4 = .ok (.istore 6, 2) := by decide +kernel
theorem dX8_fits_6 : decode cX8_fits 6 = .ok (.iload 6, 2) := by decide +kernel
theorem dX8_fits_8 : decode cX8_fits 8 = .ok (.aload_n 0, 1) := by decide +kernel
theorem dX8_fits_9 : decode cX8_fits 9 = .ok (.getfield 13, 3) := by decide +kernel
theorem dX8_fits_12 : decode cX8_fits 12 = .ok (.iload_n 1, 1) := by decide +kernel
theorem dX8_fits_13 : decode cX8_fits 13 = .ok (.iaload, 1) := by decide +kernel
theorem dX8_fits_14 : decode cX8_fits 14 = .ok (.if_icmp .ge 65, 3) := by decide +kernel
theorem dX8_fits_17 : decode cX8_fits 17 = .ok (.bipush 40, 2) := by decide +kernel
theorem dX8_fits_19 : decode cX8_fits 19 = .ok (.iload_n 1, 1) := by decide +kernel
theorem dX8_fits_20 : decode cX8_fits 20 = .ok (.imul, 1) := by decide +kernel
theorem dX8_fits_21 : decode cX8_fits 21 = .ok (.iload 6, 2) := by decide +kernel
theorem dX8_fits_23 : decode cX8_fits 23 = .ok (.iadd, 1) := by decide +kernel
theorem dX8_fits_24 : decode cX8_fits 24 = .ok (.istore 7, 2) := by decide +kernel
theorem dX8_fits_26 : decode cX8_fits 26 = .ok (.iload 5, 2) := by decide +kernel
theorem dX8_fits_28 : decode cX8_fits 28 = .ok (.ifCond .eq 42, 3) := by decide +kernel
theorem dX8_fits_31 : decode cX8_fits 31 = .ok (.iload_n 2, 1) := by decide +kernel
theorem dX8_fits_32 : decode cX8_fits 32 = .ok (.iload_n 3, 1) := by decide +kernel
theorem dX8_fits_33 : decode cX8_fits 33 = .ok (.iload 4, 2) := by decide +kernel
theorem dX8_fits_35 : decode cX8_fits 35 = .ok (.aload_n 0, 1) := by decide +kernel
theorem dX8_fits_36 : decode cX8_fits 36 = .ok (.getfield 7, 3) := by decide +kernel
theorem dX8_fits_39 : decode cX8_fits 39 = .ok (.iload 7, 2) := by decide +kernel
theorem dX8_fits_41 : decode cX8_fits 41 = .ok (.iaload, 1) := by decide +kernel
theorem dX8_fits_42 : decode cX8_fits 42 = .ok (.aload_n 0, 1) := by decide +kernel
theorem dX8_fits_43 : decode cX8_fits 43 = .ok (.getfield 7, 3) := by decide +kernel
theorem dX8_fits_46 : decode cX8_fits 46 = .ok (.iload 7, 2) := by decide +kernel
theorem dX8_fits_48 : decode cX8_fits 48 = .ok (.iconst 1, 1) := by decide +kernel
theorem dX8_fits_49 : decode cX8_fits 49 = .ok (.iadd, 1) := by decide +kernel
theorem dX8_fits_50 : decode cX8_fits 50 = .ok (.iaload, 1) := by decide +kernel
theorem dX8_fits_51 : decode cX8_fits 51 = .ok (.invokestatic 172, 3) := by decide +kernel
theorem dX8_fits_54 : decode cX8_fits 54 = .ok (.aload_n 0, 1) := by decide +kernel
theorem dX8_fits_55 : decode cX8_fits 55 = .ok (.getfield 7, 3) := by decide +kernel
theorem dX8_fits_58 : decode cX8_fits 58 = .ok (.iload 7, 2) := by decide +kernel
theorem dX8_fits_60 : decode cX8_fits 60 = .ok (.iconst 2, 1) := by decide +kernel
theorem dX8_fits_61 : decode cX8_fits 61 = .ok (.iadd, 1) := by decide +kernel
theorem dX8_fits_62 : decode cX8_fits 62 = .ok (.iaload, 1) := by decide +kernel
theorem dX8_fits_63 : decode cX8_fits 63 = .ok (.if_icmp .ne 7, 3) := by decide +kernel
theorem dX8_fits_66 : decode cX8_fits 66 = .ok (.iconst 1, 1) := by decide +kernel
theorem dX8_fits_67 : decode cX8_fits 67 = .ok (.goto 4, 3) := by decide +kernel
theorem dX8_fits_70 : decode cX8_fits 70 = .ok (.iconst 0, 1) := by decide +kernel
theorem dX8_fits_71 : decode cX8_fits 71 = .ok (.istore 5, 2) := by decide +kernel
theorem dX8_fits_73 : decode cX8_fits 73 = .ok (.iinc 6 3, 3) := by decide +kernel
theorem dX8_fits_76 : decode cX8_fits 76 = .ok (.goto (-70), 3) := by decide +kernel
theorem dX8_fits_79 : decode cX8_fits 79 = .ok (.iload 5, 2) := by decide +kernel
theorem dX8_fits_81 : decode cX8_fits 81 = .ok (.ireturn, 1) := by decide +kernel
def P_X8_fits_6 (p0 : Nat) (p1 : Int32) (p2 : Int32) (p3 : Int32) (p4 : Int32) : Nat → Int32 → Int32 → PM Int32
  | 0, _, _ => failM
  | n + 1, q5, q6 =>
    getR 8 1 p0 fun v1 =>
    ald v1 p1 fun v2 =>
    ifB (decide (v2 ≤ q6)) (
    retZ q5) (
    jn (fun (j3 : Int32) =>
    P_X8_fits_6 p0 p1 p2 p3 p4 n j3 (q6 + 3)) fun k4 =>
    jn (
    k4 0) fun k5 =>
    ifB (decide (q5 = 0)) (
    k5) (
    getR 8 0 p0 fun v6 =>
    ald v6 ((40 * p1) + q6) fun v7 =>
    getR 8 0 p0 fun v8 =>
    ald v8 (((40 * p1) + q6) + 1) fun v9 =>
    cll0 (P_X8_tells p2 p3 p4 v7 v9) fun v10 =>
    getR 8 0 p0 fun v11 =>
    ald v11 (((40 * p1) + q6) + 2) fun v12 =>
    ifB (decide (¬ v10 = v12)) (
    k5) (
    k4 1)))
def P_X8_fits (a0 : Nat) (x1 : Int32) (x2 : Int32) (x3 : Int32) (x4 : Int32) : PM Int32 :=
P_X8_fits_6 a0 x1 x2 x3 x4 4000 1 0
set_option maxHeartbeats 4000000 in
set_option maxRecDepth 100000 in
theorem W_X8_fits_6 {Γ : Cx} (ok : OKc Γ cX8_fits RX8 3 "fits") (okr : OKr Γ cX8_fits (some .boolean)) (p0 : Nat) (p1 : Int32) (p2 : Int32) (p3 : Int32) (p4 : Int32) : ∀ (n : Nat) (q5 : Int32) (q6 : Int32), SW Γ iI 6 [some (.ref p0), some (.int p1), some (.int p2), some (.int p3), some (.int p4), some (.int q5), some (.int q6), none] [] (P_X8_fits_6 p0 p1 p2 p3 p4 n q5 q6) := by
  intro n
  induction n with
  | zero =>
    intros
    exact sw_fail
  | succ n ih =>
    intro q5 q6
    unfold P_X8_fits_6
    refine sw_iload (z := q6) (pc' := 8) ok dX8_fits_6 rfl rfl ?_
    refine sw_aload_n (z := p0) (pc' := 9) ok dX8_fits_8 rfl rfl ?_
    refine sw_getR (pc' := 12) ok (fr_X8_13.g) dX8_fits_9 rfl (fun v1 => ?_)
    refine sw_iload_n (z := p1) (pc' := 13) ok dX8_fits_12 rfl rfl ?_
    refine sw_ald (pc' := 14) ok dX8_fits_13 rfl (fun v2 => ?_)
    refine sw_icmp_ge (tgt := 79) (pc' := 17) ok dX8_fits_14 (by decide) rfl ?_ ?_
    · refine sw_iload (z := q5) (pc' := 81) ok dX8_fits_79 rfl rfl ?_
      exact sw_retZ ok okr dX8_fits_81
    refine sw_bipush (v := 40) (pc' := 19) ok dX8_fits_17 rfl cc_bipush_40 ?_
    refine sw_iload_n (z := p1) (pc' := 20) ok dX8_fits_19 rfl rfl ?_
    refine sw_imul (pc' := 21) ok dX8_fits_20 rfl ?_
    refine sw_iload (z := q6) (pc' := 23) ok dX8_fits_21 rfl rfl ?_
    refine sw_iadd (pc' := 24) ok dX8_fits_23 rfl ?_
    refine sw_istore (pc' := 26) (l' := [some (.ref p0), some (.int p1), some (.int p2), some (.int p3), some (.int p4), some (.int q5), some (.int q6), some (.int ((40 * p1) + q6))]) ok dX8_fits_24 rfl (Nat.le_of_ble_eq_true rfl) rfl ?_
    refine sw_iload (z := q5) (pc' := 28) ok dX8_fits_26 rfl rfl ?_
    refine sw_jn (fun k4 : Int32 → PM Int32 => ∀ (j3 : Int32), SW Γ iI 71 [some (.ref p0), some (.int p1), some (.int p2), some (.int p3), some (.int p4), none, some (.int q6), none] [.int j3] (k4 j3)) ?_ (fun k4 hk4 => ?_)
    · intro j3
      refine sw_istore (pc' := 73) (l' := [some (.ref p0), some (.int p1), some (.int p2), some (.int p3), some (.int p4), some (.int j3), some (.int q6), none]) ok dX8_fits_71 rfl (Nat.le_of_ble_eq_true rfl) rfl ?_
      refine sw_iinc (z := q6) (v := q6 + 3) (pc' := 76) (l' := [some (.ref p0), some (.int p1), some (.int p2), some (.int p3), some (.int p4), some (.int j3), some (.int (q6 + 3)), none]) ok dX8_fits_73 rfl rfl (by rw [cc_iconst_3]) rfl ?_
      refine sw_goto (tgt := 6) ok dX8_fits_76 (by decide) ?_
      exact ih j3 (q6 + 3)
    refine sw_jn (fun k5 : PM Int32 => SW Γ iI 70 [some (.ref p0), some (.int p1), some (.int p2), some (.int p3), some (.int p4), none, some (.int q6), none] [] (k5)) ?_ (fun k5 hk5 => ?_)
    · refine sw_iconst (v := 0) (pc' := 71) ok dX8_fits_70 rfl cc_iconst_0 ?_
      exact hk4 0
    refine sw_if_eq (tgt := 70) (pc' := 31) ok dX8_fits_28 (by decide) rfl ?_ ?_
    · refine sw_fg (l' := [some (.ref p0), some (.int p1), some (.int p2), some (.int p3), some (.int p4), none, some (.int q6), none]) [true, true, true, true, true, false, true, false] rfl ?_
      exact hk5
    refine sw_iload_n (z := p2) (pc' := 32) ok dX8_fits_31 rfl rfl ?_
    refine sw_iload_n (z := p3) (pc' := 33) ok dX8_fits_32 rfl rfl ?_
    refine sw_iload (z := p4) (pc' := 35) ok dX8_fits_33 rfl rfl ?_
    refine sw_aload_n (z := p0) (pc' := 36) ok dX8_fits_35 rfl rfl ?_
    refine sw_getR (pc' := 39) ok (fr_X8_7.g) dX8_fits_36 rfl (fun v6 => ?_)
    refine sw_iload (z := ((40 * p1) + q6)) (pc' := 41) ok dX8_fits_39 rfl rfl ?_
    refine sw_ald (pc' := 42) ok dX8_fits_41 rfl (fun v7 => ?_)
    refine sw_aload_n (z := p0) (pc' := 43) ok dX8_fits_42 rfl rfl ?_
    refine sw_getR (pc' := 46) ok (fr_X8_7.g) dX8_fits_43 rfl (fun v8 => ?_)
    refine sw_iload (z := ((40 * p1) + q6)) (pc' := 48) ok dX8_fits_46 rfl rfl ?_
    refine sw_iconst (v := 1) (pc' := 49) ok dX8_fits_48 rfl cc_iconst_1 ?_
    refine sw_iadd (pc' := 50) ok dX8_fits_49 rfl ?_
    refine sw_ald (pc' := 51) ok dX8_fits_50 rfl (fun v9 => ?_)
    refine sw_cll0_I (st := []) (as := [.int p2, .int p3, .int p4, .int v7, .int v9]) (pc' := 54) ok (S_X8_tells p2 p3 p4 v7 v9) (by decide) lk_X8_172 rfl dX8_fits_51 rfl (Nat.le_of_ble_eq_true rfl) rfl (fun v10 => ?_)
    refine sw_aload_n (z := p0) (pc' := 55) ok dX8_fits_54 rfl rfl ?_
    refine sw_getR (pc' := 58) ok (fr_X8_7.g) dX8_fits_55 rfl (fun v11 => ?_)
    refine sw_iload (z := ((40 * p1) + q6)) (pc' := 60) ok dX8_fits_58 rfl rfl ?_
    refine sw_iconst (v := 2) (pc' := 61) ok dX8_fits_60 rfl cc_iconst_2 ?_
    refine sw_iadd (pc' := 62) ok dX8_fits_61 rfl ?_
    refine sw_ald (pc' := 63) ok dX8_fits_62 rfl (fun v12 => ?_)
    refine sw_icmp_ne (tgt := 70) (pc' := 66) ok dX8_fits_63 (by decide) rfl ?_ ?_
    · refine sw_fg (l' := [some (.ref p0), some (.int p1), some (.int p2), some (.int p3), some (.int p4), none, some (.int q6), none]) [true, true, true, true, true, false, true, false] rfl ?_
      exact hk5
    refine sw_iconst (v := 1) (pc' := 67) ok dX8_fits_66 rfl cc_iconst_1 ?_
    refine sw_goto (tgt := 71) ok dX8_fits_67 (by decide) ?_
    refine sw_fg (l' := [some (.ref p0), some (.int p1), some (.int p2), some (.int p3), some (.int p4), none, some (.int q6), none]) [true, true, true, true, true, false, true, false] rfl ?_
    exact hk4 1
set_option maxHeartbeats 4000000 in
set_option maxRecDepth 100000 in
theorem W_X8_fits {Γ : Cx} (ok : OKc Γ cX8_fits RX8 3 "fits") (okr : OKr Γ cX8_fits (some .boolean)) (a0 : Nat) (x1 : Int32) (x2 : Int32) (x3 : Int32) (x4 : Int32) : SW Γ iI 0 [some (.ref a0), some (.int x1), some (.int x2), some (.int x3), some (.int x4), none, none, none] [] (P_X8_fits a0 x1 x2 x3 x4) := by
  unfold P_X8_fits
  refine sw_iconst (v := 1) (pc' := 1) ok dX8_fits_0 rfl cc_iconst_1 ?_
  refine sw_istore (pc' := 3) (l' := [some (.ref a0), some (.int x1), some (.int x2), some (.int x3), some (.int x4), some (.int 1), none, none]) ok dX8_fits_1 rfl (Nat.le_of_ble_eq_true rfl) rfl ?_
  refine sw_iconst (v := 0) (pc' := 4) ok dX8_fits_3 rfl cc_iconst_0 ?_
  refine sw_istore (pc' := 6) (l' := [some (.ref a0), some (.int x1), some (.int x2), some (.int x3), some (.int x4), some (.int 1), some (.int 0), none]) ok dX8_fits_4 rfl (Nat.le_of_ble_eq_true rfl) rfl ?_
  exact W_X8_fits_6 ok okr a0 x1 x2 x3 x4 4000 1 0
theorem S_X8_fits (a0 : Nat) (x1 : Int32) (x2 : Int32) (x3 : Int32) (x4 : Int32) : Sim 3 yX8_fits cX8_fits 8 (some .boolean) iI [.ref a0, .int x1, .int x2, .int x3, .int x4] (P_X8_fits a0 x1 x2 x3 x4) := Sim.intro wd_1132 (by decide) (by decide +kernel) (Nat.le_of_ble_eq_true rfl) (fun Γ ok okr => W_X8_fits ok okr a0 x1 x2 x3 x4)
theorem dX8_lasts_0 : decode cX8_lasts 0 = .ok (.aload_n 0, 1) := by decide +kernel
theorem dX8_lasts_1 : decode cX8_lasts 1 = .ok (.iload_n 1, 1) := by decide +kernel
theorem dX8_lasts_2 : decode cX8_lasts 2 = .ok (.invokevirtual 186, 3) := by decide +kernel
theorem dX8_lasts_5 : decode cX8_lasts 5 = .ok (.ifCond .eq 10, 3) := by decide +kernel
theorem dX8_lasts_8 : decode cX8_lasts 8 = .ok (.iload_n 2, 1) := by decide +kernel
theorem dX8_lasts_9 : decode cX8_lasts 9 = .ok (.invokestatic 86, 3) := by decide +kernel
theorem dX8_lasts_12 : decode cX8_lasts 12 = .ok (.ifCond .ne 5, 3) := by decide +kernel
theorem dX8_lasts_15 : decode cX8_lasts 15 = .ok (.iconst (-1), 1) := by decide +kernel
theorem dX8_lasts_16 : decode cX8_lasts 16 = .ok (.ireturn, 1) := by decide +kernel
theorem dX8_lasts_17 : decode cX8_lasts 17 = .ok (.aload_n 0, 1) := by decide +kernel
theorem dX8_lasts_18 : decode cX8_lasts 18 = .ok (.iload_n 2, 1) := by decide +kernel
theorem dX8_lasts_19 : decode cX8_lasts 19 = .ok (.invokevirtual 289, 3) := by decide +kernel
theorem dX8_lasts_22 : decode cX8_lasts 22 = .ok (.istore_n 3, 1) := by decide +kernel
theorem dX8_lasts_23 : decode cX8_lasts 23 = .ok (.iload_n 3, 1) := by decide +kernel
theorem dX8_lasts_24 : decode cX8_lasts 24 = .ok (.ifCond .le 9, 3) := by decide +kernel
theorem dX8_lasts_27 : decode cX8_lasts 27 = .ok (.aload_n 0, 1) := by decide +kernel
theorem dX8_lasts_28 : decode cX8_lasts 28 = .ok (.iload_n 3, 1) := by decide +kernel
theorem dX8_lasts_29 : decode cX8_lasts 29 = .ok (.invokevirtual 90, 3) := by decide +kernel
theorem dX8_lasts_32 : decode cX8_lasts 32 = .ok (.ireturn, 1) := by decide +kernel
theorem dX8_lasts_33 : decode cX8_lasts 33 = .ok (.iconst 0, 1) := by decide +kernel
theorem dX8_lasts_34 : decode cX8_lasts 34 = .ok (.istore 4, 2) := by decide +kernel
theorem dX8_lasts_36 : decode cX8_lasts 36 = .ok (.iconst 0, 1) := by decide +kernel
theorem dX8_lasts_37 : decode cX8_lasts 37 = .ok (.istore 5, 2) := by decide +kernel
theorem dX8_lasts_39 : decode cX8_lasts 39 = .ok (.iload 5, 2) := by decide +kernel
theorem dX8_lasts_41 : decode cX8_lasts 41 = .ok (.bipush 10, 2) := by decide +kernel
theorem dX8_lasts_43 : decode cX8_lasts 43 = .ok (.if_icmp .ge 44, 3) := by decide +kernel
theorem dX8_lasts_46 : decode cX8_lasts 46 = .ok (.iload 4, 2) := by decide +kernel
theorem dX8_lasts_48 : decode cX8_lasts 48 = .ok (.aload_n 0, 1) := by decide +kernel
theorem dX8_lasts_49 : decode cX8_lasts 49 = .ok (.iload_n 2, 1) := by decide +kernel
theorem dX8_lasts_50 : decode cX8_lasts 50 = .ok (.aload_n 0, 1) := by decide +kernel
theorem dX8_lasts_51 : decode cX8_lasts 51 = .ok (.getfield 28, 3) := by decide +kernel
theorem dX8_lasts_54 : decode cX8_lasts 54 = .ok (.iload_n 1, 1) := by decide +kernel
theorem dX8_lasts_55 : decode cX8_lasts 55 = .ok (.iaload, 1) := by decide +kernel
theorem dX8_lasts_56 : decode cX8_lasts 56 = .ok (.aload_n 0, 1) := by decide +kernel
theorem dX8_lasts_57 : decode cX8_lasts 57 = .ok (.getfield 31, 3) := by decide +kernel
theorem dX8_lasts_60 : decode cX8_lasts 60 = .ok (.iload_n 1, 1) := by decide +kernel
theorem dX8_lasts_61 : decode cX8_lasts 61 = .ok (.iaload, 1) := by decide +kernel
theorem dX8_lasts_62 : decode cX8_lasts 62 = .ok (.iload 5, 2) := by decide +kernel
theorem dX8_lasts_64 : decode cX8_lasts 64 = .ok (.invokevirtual 292, 3) := by decide +kernel
theorem dX8_lasts_67 : decode cX8_lasts 67 = .ok (.ifCond .eq 10, 3) := by decide +kernel
theorem dX8_lasts_70 : decode cX8_lasts 70 = .ok (.iconst 1, 1) := by decide +kernel
theorem dX8_lasts_71 : decode cX8_lasts 71 = .ok (.iload 5, 2) := by decide +kernel
theorem dX8_lasts_73 : decode cX8_lasts 73 = .ok (.ishl, 1) := by decide +kernel
theorem dX8_lasts_74 : decode cX8_lasts 74 = .ok (.goto 4, 3) := by decide +kernel
theorem dX8_lasts_77 : decode cX8_lasts 77 = .ok (.iconst 0, 1) := by decide +kernel
theorem dX8_lasts_78 : decode cX8_lasts 78 = .ok (.ior, 1) := by decide +kernel
theorem dX8_lasts_79 : decode cX8_lasts 79 = .ok (.istore 4, 2) := by decide +kernel
theorem dX8_lasts_81 : decode cX8_lasts 81 = .ok (.iinc 5 1, 3) := by decide +kernel
theorem dX8_lasts_84 : decode cX8_lasts 84 = .ok (.goto (-45), 3) := by decide +kernel
theorem dX8_lasts_87 : decode cX8_lasts 87 = .ok (.iload 4, 2) := by decide +kernel
theorem dX8_lasts_89 : decode cX8_lasts 89 = .ok (.ireturn, 1) := by decide +kernel
def P_X8_lasts_39 (p0 : Nat) (p1 : Int32) (p2 : Int32) : Nat → Int32 → Int32 → PM Int32
  | 0, _, _ => failM
  | n + 1, q4, q5 =>
    ifB (decide (10 ≤ q5)) (
    pureM q4) (
    getR 8 6 p0 fun v4 =>
    ald v4 p1 fun v5 =>
    getR 8 7 p0 fun v6 =>
    ald v6 p1 fun v7 =>
    cllV 8 p0 (P_X8_fits p0 p2 v5 v7 q5) fun v8 =>
    jn (fun (j9 : Int32) (j10 : Int32) =>
    P_X8_lasts_39 p0 p1 p2 n (j9 ||| j10) (q5 + 1)) fun k11 =>
    ifB (decide (v8 = 0)) (
    k11 q4 0) (
    k11 q4 (1 <<< (q5 &&& 31))))
def P_X8_lasts (a0 : Nat) (x1 : Int32) (x2 : Int32) : PM Int32 :=
cllV 8 a0 (P_X8_isOne a0 x1) fun v1 =>
ifB (decide (v1 = 0)) (
pureM ((-1))) (
cll0 (P_X8_isRow x2) fun v2 =>
ifB (decide (¬ v2 = 0)) (
cllV 8 a0 (P_X8_refusedTriples a0 x2) fun v3 =>
ifB (decide (v3 ≤ 0)) (
P_X8_lasts_39 a0 x1 x2 4000 0 0) (
cllV 8 a0 (P_X8_refuse a0 v3) fun v12 =>
pureM v12)) (
pureM ((-1))))
set_option maxHeartbeats 4000000 in
set_option maxRecDepth 100000 in
theorem W_X8_lasts_39 {Γ : Cx} (ok : OKc Γ cX8_lasts RX8 4 "lasts") (okr : OKr Γ cX8_lasts (some .int)) (p0 : Nat) (p1 : Int32) (p2 : Int32) : ∀ (n : Nat) (q4 : Int32) (q5 : Int32), SW Γ iI 39 [some (.ref p0), some (.int p1), some (.int p2), none, some (.int q4), some (.int q5)] [] (P_X8_lasts_39 p0 p1 p2 n q4 q5) := by
  intro n
  induction n with
  | zero =>
    intros
    exact sw_fail
  | succ n ih =>
    intro q4 q5
    unfold P_X8_lasts_39
    refine sw_iload (z := q5) (pc' := 41) ok dX8_lasts_39 rfl rfl ?_
    refine sw_bipush (v := 10) (pc' := 43) ok dX8_lasts_41 rfl cc_bipush_10 ?_
    refine sw_icmp_ge (tgt := 87) (pc' := 46) ok dX8_lasts_43 (by decide) rfl ?_ ?_
    · refine sw_iload (z := q4) (pc' := 89) ok dX8_lasts_87 rfl rfl ?_
      exact sw_ret ok okr dX8_lasts_89 trivial rfl
    refine sw_iload (z := q4) (pc' := 48) ok dX8_lasts_46 rfl rfl ?_
    refine sw_aload_n (z := p0) (pc' := 49) ok dX8_lasts_48 rfl rfl ?_
    refine sw_iload_n (z := p2) (pc' := 50) ok dX8_lasts_49 rfl rfl ?_
    refine sw_aload_n (z := p0) (pc' := 51) ok dX8_lasts_50 rfl rfl ?_
    refine sw_getR (pc' := 54) ok (fr_X8_28.g) dX8_lasts_51 rfl (fun v4 => ?_)
    refine sw_iload_n (z := p1) (pc' := 55) ok dX8_lasts_54 rfl rfl ?_
    refine sw_ald (pc' := 56) ok dX8_lasts_55 rfl (fun v5 => ?_)
    refine sw_aload_n (z := p0) (pc' := 57) ok dX8_lasts_56 rfl rfl ?_
    refine sw_getR (pc' := 60) ok (fr_X8_31.g) dX8_lasts_57 rfl (fun v6 => ?_)
    refine sw_iload_n (z := p1) (pc' := 61) ok dX8_lasts_60 rfl rfl ?_
    refine sw_ald (pc' := 62) ok dX8_lasts_61 rfl (fun v7 => ?_)
    refine sw_iload (z := q5) (pc' := 64) ok dX8_lasts_62 rfl rfl ?_
    refine sw_cllV_I (st := [.int q4]) (as := [.int p2, .int v5, .int v7, .int q5]) (pc' := 67) ok (S_X8_fits p0 p2 v5 v7 q5) (by decide) lk_X8_292 rfl dX8_lasts_64 rfl (Nat.le_of_ble_eq_true rfl) rfl (fun v8 => ?_)
    refine sw_jn (fun k11 : Int32 → Int32 → PM Int32 => ∀ (j9 : Int32) (j10 : Int32), SW Γ iI 78 [some (.ref p0), some (.int p1), some (.int p2), none, none, some (.int q5)] [.int j10, .int j9] (k11 j9 j10)) ?_ (fun k11 hk11 => ?_)
    · intro j9 j10
      refine sw_ior (pc' := 79) ok dX8_lasts_78 rfl ?_
      refine sw_istore (pc' := 81) (l' := [some (.ref p0), some (.int p1), some (.int p2), none, some (.int (j9 ||| j10)), some (.int q5)]) ok dX8_lasts_79 rfl (Nat.le_of_ble_eq_true rfl) rfl ?_
      refine sw_iinc (z := q5) (v := q5 + 1) (pc' := 84) (l' := [some (.ref p0), some (.int p1), some (.int p2), none, some (.int (j9 ||| j10)), some (.int (q5 + 1))]) ok dX8_lasts_81 rfl rfl (by rw [cc_iconst_1]) rfl ?_
      refine sw_goto (tgt := 39) ok dX8_lasts_84 (by decide) ?_
      exact ih (j9 ||| j10) (q5 + 1)
    refine sw_if_eq (tgt := 77) (pc' := 70) ok dX8_lasts_67 (by decide) rfl ?_ ?_
    · refine sw_iconst (v := 0) (pc' := 78) ok dX8_lasts_77 rfl cc_iconst_0 ?_
      refine sw_fg (l' := [some (.ref p0), some (.int p1), some (.int p2), none, none, some (.int q5)]) [true, true, true, false, false, true] rfl ?_
      exact hk11 q4 0
    refine sw_iconst (v := 1) (pc' := 71) ok dX8_lasts_70 rfl cc_iconst_1 ?_
    refine sw_iload (z := q5) (pc' := 73) ok dX8_lasts_71 rfl rfl ?_
    refine sw_ishl (pc' := 74) ok dX8_lasts_73 rfl ?_
    refine sw_goto (tgt := 78) ok dX8_lasts_74 (by decide) ?_
    refine sw_fg (l' := [some (.ref p0), some (.int p1), some (.int p2), none, none, some (.int q5)]) [true, true, true, false, false, true] rfl ?_
    exact hk11 q4 (1 <<< (q5 &&& 31))
set_option maxHeartbeats 4000000 in
set_option maxRecDepth 100000 in
theorem W_X8_lasts {Γ : Cx} (ok : OKc Γ cX8_lasts RX8 4 "lasts") (okr : OKr Γ cX8_lasts (some .int)) (a0 : Nat) (x1 : Int32) (x2 : Int32) : SW Γ iI 0 [some (.ref a0), some (.int x1), some (.int x2), none, none, none] [] (P_X8_lasts a0 x1 x2) := by
  unfold P_X8_lasts
  refine sw_aload_n (z := a0) (pc' := 1) ok dX8_lasts_0 rfl rfl ?_
  refine sw_iload_n (z := x1) (pc' := 2) ok dX8_lasts_1 rfl rfl ?_
  refine sw_cllV_I (st := []) (as := [.int x1]) (pc' := 5) ok (S_X8_isOne a0 x1) (by decide) lk_X8_186 rfl dX8_lasts_2 rfl (Nat.le_of_ble_eq_true rfl) rfl (fun v1 => ?_)
  refine sw_if_eq (tgt := 15) (pc' := 8) ok dX8_lasts_5 (by decide) rfl ?_ ?_
  · refine sw_iconst (v := (-1)) (pc' := 16) ok dX8_lasts_15 rfl cc_iconst_m1 ?_
    exact sw_ret ok okr dX8_lasts_16 trivial rfl
  refine sw_iload_n (z := x2) (pc' := 9) ok dX8_lasts_8 rfl rfl ?_
  refine sw_cll0_I (st := []) (as := [.int x2]) (pc' := 12) ok (S_X8_isRow x2) (by decide) lk_X8_86 rfl dX8_lasts_9 rfl (Nat.le_of_ble_eq_true rfl) rfl (fun v2 => ?_)
  refine sw_if_ne (tgt := 17) (pc' := 15) ok dX8_lasts_12 (by decide) rfl ?_ ?_
  · refine sw_aload_n (z := a0) (pc' := 18) ok dX8_lasts_17 rfl rfl ?_
    refine sw_iload_n (z := x2) (pc' := 19) ok dX8_lasts_18 rfl rfl ?_
    refine sw_cllV_I (st := []) (as := [.int x2]) (pc' := 22) ok (S_X8_refusedTriples a0 x2) (by decide) lk_X8_289 rfl dX8_lasts_19 rfl (Nat.le_of_ble_eq_true rfl) rfl (fun v3 => ?_)
    refine sw_istore_n (pc' := 23) (l' := [some (.ref a0), some (.int x1), some (.int x2), some (.int v3), none, none]) ok dX8_lasts_22 rfl (Nat.le_of_ble_eq_true rfl) rfl ?_
    refine sw_iload_n (z := v3) (pc' := 24) ok dX8_lasts_23 rfl rfl ?_
    refine sw_if_le (tgt := 33) (pc' := 27) ok dX8_lasts_24 (by decide) rfl ?_ ?_
    · refine sw_iconst (v := 0) (pc' := 34) ok dX8_lasts_33 rfl cc_iconst_0 ?_
      refine sw_istore (pc' := 36) (l' := [some (.ref a0), some (.int x1), some (.int x2), some (.int v3), some (.int 0), none]) ok dX8_lasts_34 rfl (Nat.le_of_ble_eq_true rfl) rfl ?_
      refine sw_iconst (v := 0) (pc' := 37) ok dX8_lasts_36 rfl cc_iconst_0 ?_
      refine sw_istore (pc' := 39) (l' := [some (.ref a0), some (.int x1), some (.int x2), some (.int v3), some (.int 0), some (.int 0)]) ok dX8_lasts_37 rfl (Nat.le_of_ble_eq_true rfl) rfl ?_
      refine sw_fg (l' := [some (.ref a0), some (.int x1), some (.int x2), none, some (.int 0), some (.int 0)]) [true, true, true, false, true, true] rfl ?_
      exact W_X8_lasts_39 ok okr a0 x1 x2 4000 0 0
    refine sw_aload_n (z := a0) (pc' := 28) ok dX8_lasts_27 rfl rfl ?_
    refine sw_iload_n (z := v3) (pc' := 29) ok dX8_lasts_28 rfl rfl ?_
    refine sw_cllV_I (st := []) (as := [.int v3]) (pc' := 32) ok (S_X8_refuse a0 v3) (by decide) lk_X8_90 rfl dX8_lasts_29 rfl (Nat.le_of_ble_eq_true rfl) rfl (fun v12 => ?_)
    exact sw_ret ok okr dX8_lasts_32 trivial rfl
  refine sw_iconst (v := (-1)) (pc' := 16) ok dX8_lasts_15 rfl cc_iconst_m1 ?_
  exact sw_ret ok okr dX8_lasts_16 trivial rfl
theorem S_X8_lasts (a0 : Nat) (x1 : Int32) (x2 : Int32) : Sim 4 yX8_lasts cX8_lasts 6 (some .int) iI [.ref a0, .int x1, .int x2] (P_X8_lasts a0 x1 x2) := Sim.intro wd_1133 (by decide) (by decide +kernel) (Nat.le_of_ble_eq_true rfl) (fun Γ ok okr => W_X8_lasts ok okr a0 x1 x2)
theorem dX8_kindsBy_0 : decode cX8_kindsBy 0 = .ok (.iconst 0, 1) := by decide +kernel
theorem dX8_kindsBy_1 : decode cX8_kindsBy 1 = .ok (.istore_n 3, 1) := by decide +kernel
theorem dX8_kindsBy_2 : decode cX8_kindsBy 2 = .ok (.iconst 0, 1) := by decide +kernel
theorem dX8_kindsBy_3 : decode cX8_kindsBy 3 = .ok (.istore 4, 2) := by decide +kernel
theorem dX8_kindsBy_5 : decode cX8_kindsBy 5 = .ok (.iload 4, 2) := by decide +kernel
theorem dX8_kindsBy_7 : decode cX8_kindsBy 7 = .ok (.bipush 6, 2) := by decide +kernel
theorem dX8_kindsBy_9 : decode cX8_kindsBy 9 = .ok (.if_icmp .ge 42, 3) := by decide +kernel
theorem dX8_kindsBy_12 : decode cX8_kindsBy 12 = .ok (.iload_n 3, 1) := by decide +kernel
theorem dX8_kindsBy_13 : decode cX8_kindsBy 13 = .ok (.aload_n 0, 1) := by decide +kernel
theorem dX8_kindsBy_14 : decode cX8_kindsBy 14 = .ok (.iload_n 2, 1) := by decide +kernel
theorem dX8_kindsBy_15 : decode cX8_kindsBy 15 = .ok (.iload 4, 2) := by decide +kernel
theorem dX8_kindsBy_17 : decode cX8_kindsBy 17 = .ok (.aload_n 0, 1) := by decide +kernel
theorem dX8_kindsBy_18 : decode cX8_kindsBy 18 = .ok (.getfield 31, 3) := by decide +kernel
theorem dX8_kindsBy_21 : decode cX8_kindsBy 21 = .ok (.iload_n 1, 1) := by decide +kernel
theorem dX8_kindsBy_22 : decode cX8_kindsBy 22 = .ok (.iaload, 1) := by decide +kernel
theorem dX8_kindsBy_23 : decode cX8_kindsBy 23 = .ok (.aload_n 0, 1) := by decide +kernel
theorem dX8_kindsBy_24 : decode cX8_kindsBy 24 = .ok (.getfield 34, 3) := by decide +kernel
theorem dX8_kindsBy_27 : decode cX8_kindsBy 27 = .ok (.iload_n 1, 1) := by decide +kernel
theorem dX8_kindsBy_28 : decode cX8_kindsBy 28 = .ok (.iaload, 1) := by decide +kernel
theorem dX8_kindsBy_29 : decode cX8_kindsBy 29 = .ok (.invokevirtual 292, 3) := by decide +kernel
theorem dX8_kindsBy_32 : decode cX8_kindsBy 32 = .ok (.ifCond .eq 10, 3) := by decide +kernel
theorem dX8_kindsBy_35 : decode cX8_kindsBy 35 = .ok (.iconst 1, 1) := by decide +kernel
theorem dX8_kindsBy_36 : decode cX8_kindsBy 36 = .ok (.iload 4, 2) := by decide +kernel
theorem dX8_kindsBy_38 : decode cX8_kindsBy 38 = .ok (.ishl, 1) := by decide +kernel
theorem dX8_kindsBy_39 : decode cX8_kindsBy 39 = .ok (.goto 4, 3) := by decide +kernel
theorem dX8_kindsBy_42 : decode cX8_kindsBy 42 = .ok (.iconst 0, 1) := by decide +kernel
theorem dX8_kindsBy_43 : decode cX8_kindsBy 43 = .ok (.ior, 1) := by decide +kernel
theorem dX8_kindsBy_44 : decode cX8_kindsBy 44 = .ok (.istore_n 3, 1) := by decide +kernel
theorem dX8_kindsBy_45 : decode cX8_kindsBy 45 = .ok (.iinc 4 1, 3) := by decide +kernel
theorem dX8_kindsBy_48 : decode cX8_kindsBy 48 = .ok (.goto (-43), 3) := by decide +kernel
theorem dX8_kindsBy_51 : decode cX8_kindsBy 51 = .ok (.iload_n 3, 1) := by decide +kernel
theorem dX8_kindsBy_52 : decode cX8_kindsBy 52 = .ok (.ireturn, 1) := by decide +kernel
def P_X8_kindsBy_5 (p0 : Nat) (p1 : Int32) (p2 : Int32) : Nat → Int32 → Int32 → PM Int32
  | 0, _, _ => failM
  | n + 1, q3, q4 =>
    ifB (decide (6 ≤ q4)) (
    pureM q3) (
    getR 8 7 p0 fun v1 =>
    ald v1 p1 fun v2 =>
    getR 8 8 p0 fun v3 =>
    ald v3 p1 fun v4 =>
    cllV 8 p0 (P_X8_fits p0 p2 q4 v2 v4) fun v5 =>
    jn (fun (j6 : Int32) (j7 : Int32) =>
    P_X8_kindsBy_5 p0 p1 p2 n (j6 ||| j7) (q4 + 1)) fun k8 =>
    ifB (decide (v5 = 0)) (
    k8 q3 0) (
    k8 q3 (1 <<< (q4 &&& 31))))
def P_X8_kindsBy (a0 : Nat) (x1 : Int32) (x2 : Int32) : PM Int32 :=
P_X8_kindsBy_5 a0 x1 x2 4000 0 0
set_option maxHeartbeats 4000000 in
set_option maxRecDepth 100000 in
theorem W_X8_kindsBy_5 {Γ : Cx} (ok : OKc Γ cX8_kindsBy RX8 4 "kindsBy") (okr : OKr Γ cX8_kindsBy (some .int)) (p0 : Nat) (p1 : Int32) (p2 : Int32) : ∀ (n : Nat) (q3 : Int32) (q4 : Int32), SW Γ iI 5 [some (.ref p0), some (.int p1), some (.int p2), some (.int q3), some (.int q4)] [] (P_X8_kindsBy_5 p0 p1 p2 n q3 q4) := by
  intro n
  induction n with
  | zero =>
    intros
    exact sw_fail
  | succ n ih =>
    intro q3 q4
    unfold P_X8_kindsBy_5
    refine sw_iload (z := q4) (pc' := 7) ok dX8_kindsBy_5 rfl rfl ?_
    refine sw_bipush (v := 6) (pc' := 9) ok dX8_kindsBy_7 rfl cc_bipush_6 ?_
    refine sw_icmp_ge (tgt := 51) (pc' := 12) ok dX8_kindsBy_9 (by decide) rfl ?_ ?_
    · refine sw_iload_n (z := q3) (pc' := 52) ok dX8_kindsBy_51 rfl rfl ?_
      exact sw_ret ok okr dX8_kindsBy_52 trivial rfl
    refine sw_iload_n (z := q3) (pc' := 13) ok dX8_kindsBy_12 rfl rfl ?_
    refine sw_aload_n (z := p0) (pc' := 14) ok dX8_kindsBy_13 rfl rfl ?_
    refine sw_iload_n (z := p2) (pc' := 15) ok dX8_kindsBy_14 rfl rfl ?_
    refine sw_iload (z := q4) (pc' := 17) ok dX8_kindsBy_15 rfl rfl ?_
    refine sw_aload_n (z := p0) (pc' := 18) ok dX8_kindsBy_17 rfl rfl ?_
    refine sw_getR (pc' := 21) ok (fr_X8_31.g) dX8_kindsBy_18 rfl (fun v1 => ?_)
    refine sw_iload_n (z := p1) (pc' := 22) ok dX8_kindsBy_21 rfl rfl ?_
    refine sw_ald (pc' := 23) ok dX8_kindsBy_22 rfl (fun v2 => ?_)
    refine sw_aload_n (z := p0) (pc' := 24) ok dX8_kindsBy_23 rfl rfl ?_
    refine sw_getR (pc' := 27) ok (fr_X8_34.g) dX8_kindsBy_24 rfl (fun v3 => ?_)
    refine sw_iload_n (z := p1) (pc' := 28) ok dX8_kindsBy_27 rfl rfl ?_
    refine sw_ald (pc' := 29) ok dX8_kindsBy_28 rfl (fun v4 => ?_)
    refine sw_cllV_I (st := [.int q3]) (as := [.int p2, .int q4, .int v2, .int v4]) (pc' := 32) ok (S_X8_fits p0 p2 q4 v2 v4) (by decide) lk_X8_292 rfl dX8_kindsBy_29 rfl (Nat.le_of_ble_eq_true rfl) rfl (fun v5 => ?_)
    refine sw_jn (fun k8 : Int32 → Int32 → PM Int32 => ∀ (j6 : Int32) (j7 : Int32), SW Γ iI 43 [some (.ref p0), some (.int p1), some (.int p2), none, some (.int q4)] [.int j7, .int j6] (k8 j6 j7)) ?_ (fun k8 hk8 => ?_)
    · intro j6 j7
      refine sw_ior (pc' := 44) ok dX8_kindsBy_43 rfl ?_
      refine sw_istore_n (pc' := 45) (l' := [some (.ref p0), some (.int p1), some (.int p2), some (.int (j6 ||| j7)), some (.int q4)]) ok dX8_kindsBy_44 rfl (Nat.le_of_ble_eq_true rfl) rfl ?_
      refine sw_iinc (z := q4) (v := q4 + 1) (pc' := 48) (l' := [some (.ref p0), some (.int p1), some (.int p2), some (.int (j6 ||| j7)), some (.int (q4 + 1))]) ok dX8_kindsBy_45 rfl rfl (by rw [cc_iconst_1]) rfl ?_
      refine sw_goto (tgt := 5) ok dX8_kindsBy_48 (by decide) ?_
      exact ih (j6 ||| j7) (q4 + 1)
    refine sw_if_eq (tgt := 42) (pc' := 35) ok dX8_kindsBy_32 (by decide) rfl ?_ ?_
    · refine sw_iconst (v := 0) (pc' := 43) ok dX8_kindsBy_42 rfl cc_iconst_0 ?_
      refine sw_fg (l' := [some (.ref p0), some (.int p1), some (.int p2), none, some (.int q4)]) [true, true, true, false, true] rfl ?_
      exact hk8 q3 0
    refine sw_iconst (v := 1) (pc' := 36) ok dX8_kindsBy_35 rfl cc_iconst_1 ?_
    refine sw_iload (z := q4) (pc' := 38) ok dX8_kindsBy_36 rfl rfl ?_
    refine sw_ishl (pc' := 39) ok dX8_kindsBy_38 rfl ?_
    refine sw_goto (tgt := 43) ok dX8_kindsBy_39 (by decide) ?_
    refine sw_fg (l' := [some (.ref p0), some (.int p1), some (.int p2), none, some (.int q4)]) [true, true, true, false, true] rfl ?_
    exact hk8 q3 (1 <<< (q4 &&& 31))
set_option maxHeartbeats 4000000 in
set_option maxRecDepth 100000 in
theorem W_X8_kindsBy {Γ : Cx} (ok : OKc Γ cX8_kindsBy RX8 4 "kindsBy") (okr : OKr Γ cX8_kindsBy (some .int)) (a0 : Nat) (x1 : Int32) (x2 : Int32) : SW Γ iI 0 [some (.ref a0), some (.int x1), some (.int x2), none, none] [] (P_X8_kindsBy a0 x1 x2) := by
  unfold P_X8_kindsBy
  refine sw_iconst (v := 0) (pc' := 1) ok dX8_kindsBy_0 rfl cc_iconst_0 ?_
  refine sw_istore_n (pc' := 2) (l' := [some (.ref a0), some (.int x1), some (.int x2), some (.int 0), none]) ok dX8_kindsBy_1 rfl (Nat.le_of_ble_eq_true rfl) rfl ?_
  refine sw_iconst (v := 0) (pc' := 3) ok dX8_kindsBy_2 rfl cc_iconst_0 ?_
  refine sw_istore (pc' := 5) (l' := [some (.ref a0), some (.int x1), some (.int x2), some (.int 0), some (.int 0)]) ok dX8_kindsBy_3 rfl (Nat.le_of_ble_eq_true rfl) rfl ?_
  exact W_X8_kindsBy_5 ok okr a0 x1 x2 4000 0 0
theorem S_X8_kindsBy (a0 : Nat) (x1 : Int32) (x2 : Int32) : Sim 4 yX8_kindsBy cX8_kindsBy 5 (some .int) iI [.ref a0, .int x1, .int x2] (P_X8_kindsBy a0 x1 x2) := Sim.intro wd_1134 (by decide) (by decide +kernel) (Nat.le_of_ble_eq_true rfl) (fun Γ ok okr => W_X8_kindsBy ok okr a0 x1 x2)
theorem dX8_kinds_0 : decode cX8_kinds 0 = .ok (.aload_n 0, 1) := by decide +kernel
theorem dX8_kinds_1 : decode cX8_kinds 1 = .ok (.iload_n 1, 1) := by decide +kernel
theorem dX8_kinds_2 : decode cX8_kinds 2 = .ok (.invokevirtual 186, 3) := by decide +kernel
theorem dX8_kinds_5 : decode cX8_kinds 5 = .ok (.ifCond .eq 10, 3) := by decide +kernel
theorem dX8_kinds_8 : decode cX8_kinds 8 = .ok (.iload_n 2, 1) := by decide +kernel
theorem dX8_kinds_9 : decode cX8_kinds 9 = .ok (.invokestatic 86, 3) := by decide +kernel
theorem dX8_kinds_12 : decode cX8_kinds 12 = .ok (.ifCond .ne 5, 3) := by decide +kernel
theorem dX8_kinds_15 : decode cX8_kinds 15 = .ok (.iconst (-1), 1) := by decide +kernel
theorem dX8_kinds_16 : decode cX8_kinds 16 = .ok (.ireturn, 1) := by decide +kernel
theorem dX8_kinds_17 : decode cX8_kinds 17 = .ok (.aload_n 0, 1) := by decide +kernel
theorem dX8_kinds_18 : decode cX8_kinds 18 = .ok (.iload_n 2, 1) := by decide +kernel
theorem dX8_kinds_19 : decode cX8_kinds 19 = .ok (.invokevirtual 289, 3) := by decide +kernel
theorem dX8_kinds_22 : decode cX8_kinds 22 = .ok (.istore_n 3, 1) := by decide +kernel
theorem dX8_kinds_23 : decode cX8_kinds 23 = .ok (.iload_n 3, 1) := by decide +kernel
theorem dX8_kinds_24 : decode cX8_kinds 24 = .ok (.ifCond .le 11, 3) := by decide +kernel
theorem dX8_kinds_27 : decode cX8_kinds 27 = .ok (.aload_n 0, 1) := by decide +kernel
theorem dX8_kinds_28 : decode cX8_kinds 28 = .ok (.iload_n 3, 1) := by decide +kernel
theorem dX8_kinds_29 : decode cX8_kinds 29 = .ok (.invokevirtual 90, 3) := by decide +kernel
theorem dX8_kinds_32 : decode cX8_kinds 32 = .ok (.goto 9, 3) := by decide +kernel
theorem dX8_kinds_35 : decode cX8_kinds 35 = .ok (.aload_n 0, 1) := by decide +kernel
theorem dX8_kinds_36 : decode cX8_kinds 36 = .ok (.iload_n 1, 1) := by decide +kernel
theorem dX8_kinds_37 : decode cX8_kinds 37 = .ok (.iload_n 2, 1) := by decide +kernel
theorem dX8_kinds_38 : decode cX8_kinds 38 = .ok (.invokevirtual 296, 3) := by decide +kernel
theorem dX8_kinds_41 : decode cX8_kinds 41 = .ok (.ireturn, 1) := by decide +kernel
def P_X8_kinds (a0 : Nat) (x1 : Int32) (x2 : Int32) : PM Int32 :=
cllV 8 a0 (P_X8_isOne a0 x1) fun v1 =>
ifB (decide (v1 = 0)) (
pureM ((-1))) (
cll0 (P_X8_isRow x2) fun v2 =>
ifB (decide (¬ v2 = 0)) (
cllV 8 a0 (P_X8_refusedTriples a0 x2) fun v3 =>
ifB (decide (v3 ≤ 0)) (
cllV 8 a0 (P_X8_kindsBy a0 x1 x2) fun v4 =>
pureM v4) (
cllV 8 a0 (P_X8_refuse a0 v3) fun v5 =>
pureM v5)) (
pureM ((-1))))
set_option maxHeartbeats 4000000 in
set_option maxRecDepth 100000 in
theorem W_X8_kinds {Γ : Cx} (ok : OKc Γ cX8_kinds RX8 5 "kinds") (okr : OKr Γ cX8_kinds (some .int)) (a0 : Nat) (x1 : Int32) (x2 : Int32) : SW Γ iI 0 [some (.ref a0), some (.int x1), some (.int x2), none] [] (P_X8_kinds a0 x1 x2) := by
  unfold P_X8_kinds
  refine sw_aload_n (z := a0) (pc' := 1) ok dX8_kinds_0 rfl rfl ?_
  refine sw_iload_n (z := x1) (pc' := 2) ok dX8_kinds_1 rfl rfl ?_
  refine sw_cllV_I (st := []) (as := [.int x1]) (pc' := 5) ok (S_X8_isOne a0 x1) (by decide) lk_X8_186 rfl dX8_kinds_2 rfl (Nat.le_of_ble_eq_true rfl) rfl (fun v1 => ?_)
  refine sw_if_eq (tgt := 15) (pc' := 8) ok dX8_kinds_5 (by decide) rfl ?_ ?_
  · refine sw_iconst (v := (-1)) (pc' := 16) ok dX8_kinds_15 rfl cc_iconst_m1 ?_
    exact sw_ret ok okr dX8_kinds_16 trivial rfl
  refine sw_iload_n (z := x2) (pc' := 9) ok dX8_kinds_8 rfl rfl ?_
  refine sw_cll0_I (st := []) (as := [.int x2]) (pc' := 12) ok (S_X8_isRow x2) (by decide) lk_X8_86 rfl dX8_kinds_9 rfl (Nat.le_of_ble_eq_true rfl) rfl (fun v2 => ?_)
  refine sw_if_ne (tgt := 17) (pc' := 15) ok dX8_kinds_12 (by decide) rfl ?_ ?_
  · refine sw_aload_n (z := a0) (pc' := 18) ok dX8_kinds_17 rfl rfl ?_
    refine sw_iload_n (z := x2) (pc' := 19) ok dX8_kinds_18 rfl rfl ?_
    refine sw_cllV_I (st := []) (as := [.int x2]) (pc' := 22) ok (S_X8_refusedTriples a0 x2) (by decide) lk_X8_289 rfl dX8_kinds_19 rfl (Nat.le_of_ble_eq_true rfl) rfl (fun v3 => ?_)
    refine sw_istore_n (pc' := 23) (l' := [some (.ref a0), some (.int x1), some (.int x2), some (.int v3)]) ok dX8_kinds_22 rfl (Nat.le_of_ble_eq_true rfl) rfl ?_
    refine sw_iload_n (z := v3) (pc' := 24) ok dX8_kinds_23 rfl rfl ?_
    refine sw_if_le (tgt := 35) (pc' := 27) ok dX8_kinds_24 (by decide) rfl ?_ ?_
    · refine sw_aload_n (z := a0) (pc' := 36) ok dX8_kinds_35 rfl rfl ?_
      refine sw_iload_n (z := x1) (pc' := 37) ok dX8_kinds_36 rfl rfl ?_
      refine sw_iload_n (z := x2) (pc' := 38) ok dX8_kinds_37 rfl rfl ?_
      refine sw_cllV_I (st := []) (as := [.int x1, .int x2]) (pc' := 41) ok (S_X8_kindsBy a0 x1 x2) (by decide) lk_X8_296 rfl dX8_kinds_38 rfl (Nat.le_of_ble_eq_true rfl) rfl (fun v4 => ?_)
      exact sw_ret ok okr dX8_kinds_41 trivial rfl
    refine sw_aload_n (z := a0) (pc' := 28) ok dX8_kinds_27 rfl rfl ?_
    refine sw_iload_n (z := v3) (pc' := 29) ok dX8_kinds_28 rfl rfl ?_
    refine sw_cllV_I (st := []) (as := [.int v3]) (pc' := 32) ok (S_X8_refuse a0 v3) (by decide) lk_X8_90 rfl dX8_kinds_29 rfl (Nat.le_of_ble_eq_true rfl) rfl (fun v5 => ?_)
    refine sw_goto (tgt := 41) ok dX8_kinds_32 (by decide) ?_
    exact sw_ret ok okr dX8_kinds_41 trivial rfl
  refine sw_iconst (v := (-1)) (pc' := 16) ok dX8_kinds_15 rfl cc_iconst_m1 ?_
  exact sw_ret ok okr dX8_kinds_16 trivial rfl
theorem S_X8_kinds (a0 : Nat) (x1 : Int32) (x2 : Int32) : Sim 5 yX8_kinds cX8_kinds 4 (some .int) iI [.ref a0, .int x1, .int x2] (P_X8_kinds a0 x1 x2) := Sim.intro wd_1135 (by decide) (by decide +kernel) (Nat.le_of_ble_eq_true rfl) (fun Γ ok okr => W_X8_kinds ok okr a0 x1 x2)
theorem dX8_greatestPart_0 : decode cX8_greatestPart 0 = .ok (.iconst 0, 1) := by decide +kernel
theorem dX8_greatestPart_1 : decode cX8_greatestPart 1 = .ok (.istore 4, 2) := by decide +kernel
theorem dX8_greatestPart_3 : decode cX8_greatestPart 3 = .ok (.iconst 0, 1) := by decide +kernel
theorem dX8_greatestPart_4 : decode cX8_greatestPart 4 = .ok (.istore 5, 2) := by decide +kernel
theorem dX8_greatestPart_6 : decode cX8_greatestPart 6 = .ok (.iload 5, 2) := by decide +kernel
theorem dX8_greatestPart_8 : decode cX8_greatestPart 8 = .ok (.bipush 6, 2) := by decide +kernel
theorem dX8_greatestPart_10 : decode cX8_greatestPart 10 = .ok (.if_icmp .ge 139, 3) := by decide +kernel
theorem dX8_greatestPart_13 : decode cX8_greatestPart 13 = .ok (.iconst 0, 1) := by decide +kernel
theorem dX8_greatestPart_14 : decode cX8_greatestPart 14 = .ok (.istore 6, 2) := by decide +kernel
theorem dX8_greatestPart_16 : decode cX8_greatestPart 16 = .ok (.iconst 0, 1) := by decide +kernel
theorem dX8_greatestPart_17 : decode cX8_greatestPart 17 = .ok (.istore 7, 2) := by decide +kernel
theorem dX8_greatestPart_19 : decode cX8_greatestPart 19 = .ok (.iload 7, 2) := by decide +kernel
theorem dX8_greatestPart_21 : decode cX8_greatestPart 21 = .ok (.bipush 6, 2) := by decide +kernel
theorem dX8_greatestPart_23 : decode cX8_greatestPart 23 = .ok (.if_icmp .ge 104, 3) := by decide +kernel
theorem dX8_greatestPart_26 : decode cX8_greatestPart 26 = .ok (.iload 5, 2) := by decide +kernel
theorem dX8_greatestPart_28 : decode cX8_greatestPart 28 = .ok (.aload_n 0, 1) := by decide +kernel
theorem dX8_greatestPart_29 : decode cX8_greatestPart 29 = .ok (.getfield 31, 3) := by decide +kernel
theorem dX8_greatestPart_32 : decode cX8_greatestPart 32 = .ok (.iload_n 1, 1) := by decide +kernel
theorem dX8_greatestPart_33 : decode cX8_greatestPart 33 = .ok (.iaload, 1) := by decide +kernel
theorem dX8_greatestPart_34 : decode cX8_greatestPart 34 = .ok (.aload_n 0, 1) := by decide +kernel
theorem dX8_greatestPart_35 : decode cX8_greatestPart 35 = .ok (.getfield 34, 3) := by decide +kernel
theorem dX8_greatestPart_38 : decode cX8_greatestPart 38 = .ok (.iload_n 1, 1) := by decide +kernel
theorem dX8_greatestPart_39 : decode cX8_greatestPart 39 = .ok (.iaload, 1) := by decide +kernel
theorem dX8_greatestPart_40 : decode cX8_greatestPart 40 = .ok (.aload_n 0, 1) := by decide +kernel
theorem dX8_greatestPart_41 : decode cX8_greatestPart 41 = .ok (.getfield 22, 3) := by decide +kernel
theorem dX8_greatestPart_44 : decode cX8_greatestPart 44 = .ok (.iconst 5, 1) := by decide +kernel
theorem dX8_greatestPart_45 : decode cX8_greatestPart 45 = .ok (.iload_n 1, 1) := by decide +kernel
theorem dX8_greatestPart_46 : decode cX8_greatestPart 46 = .ok (.iadd, 1) := by decide +kernel
theorem dX8_greatestPart_47 : decode cX8_greatestPart 47 = .ok (.iaload, 1) := by decide +kernel
theorem dX8_greatestPart_48 : decode cX8_greatestPart 48 = .ok (.iload_n 3, 1) := by decide +kernel
theorem dX8_greatestPart_49 : decode cX8_greatestPart 49 = .ok (.invokestatic 172, 3) := by decide +kernel
theorem dX8_greatestPart_52 : decode cX8_greatestPart 52 = .ok (.iload 7, 2) := by decide +kernel
theorem dX8_greatestPart_54 : decode cX8_greatestPart 54 = .ok (.aload_n 0, 1) := by decide +kernel
theorem dX8_greatestPart_55 : decode cX8_greatestPart 55 = .ok (.getfield 31, 3) := by decide +kernel
theorem dX8_greatestPart_58 : decode cX8_greatestPart 58 = .ok (.iload_n 1, 1) := by decide +kernel
theorem dX8_greatestPart_59 : decode cX8_greatestPart 59 = .ok (.iaload, 1) := by decide +kernel
theorem dX8_greatestPart_60 : decode cX8_greatestPart 60 = .ok (.aload_n 0, 1) := by decide +kernel
theorem dX8_greatestPart_61 : decode cX8_greatestPart 61 = .ok (.getfield 34, 3) := by decide +kernel
theorem dX8_greatestPart_64 : decode cX8_greatestPart 64 = .ok (.iload_n 1, 1) := by decide +kernel
theorem dX8_greatestPart_65 : decode cX8_greatestPart 65 = .ok (.iaload, 1) := by decide +kernel
theorem dX8_greatestPart_66 : decode cX8_greatestPart 66 = .ok (.aload_n 0, 1) := by decide +kernel
theorem dX8_greatestPart_67 : decode cX8_greatestPart 67 = .ok (.getfield 22, 3) := by decide +kernel
theorem dX8_greatestPart_70 : decode cX8_greatestPart 70 = .ok (.iconst 5, 1) := by decide +kernel
theorem dX8_greatestPart_71 : decode cX8_greatestPart 71 = .ok (.iload_n 1, 1) := by decide +kernel
theorem dX8_greatestPart_72 : decode cX8_greatestPart 72 = .ok (.iadd, 1) := by decide +kernel
theorem dX8_greatestPart_73 : decode cX8_greatestPart 73 = .ok (.iaload, 1) := by decide +kernel
theorem dX8_greatestPart_74 : decode cX8_greatestPart 74 = .ok (.iload_n 3, 1) := by decide +kernel
theorem dX8_greatestPart_75 : decode cX8_greatestPart 75 = .ok (.invokestatic 172, 3) := by decide +kernel
theorem dX8_greatestPart_78 : decode cX8_greatestPart 78 = .ok (.if_icmp .ne 7, 3) := by decide +kernel
theorem dX8_greatestPart_81 : decode cX8_greatestPart 81 = .ok (.iconst 1, 1) := by decide +kernel
theorem dX8_greatestPart_82 : decode cX8_greatestPart 82 = .ok (.goto 4, 3) := by decide +kernel
theorem dX8_greatestPart_85 : decode cX8_greatestPart 85 = .ok (.iconst 0, 1) := by decide +kernel
theorem dX8_greatestPart_86 : decode cX8_greatestPart 86 = .ok (.istore 8, 2) := by decide +kernel
theorem dX8_greatestPart_88 : decode cX8_greatestPart 88 = .ok (.iload 6, 2) := by decide +kernel
theorem dX8_greatestPart_90 : decode cX8_greatestPart 90 = .ok (.iload_n 2, 1) := by decide +kernel
theorem dX8_greatestPart_91 : decode cX8_greatestPart 91 = .ok (.iload 5, 2) := by decide +kernel
theorem dX8_greatestPart_93 : decode cX8_greatestPart 93 = .ok (.invokestatic 179, 3) := by decide +kernel
theorem dX8_greatestPart_96 : decode cX8_greatestPart 96 = .ok (.ifCond .eq 21, 3) := by decide +kernel
theorem dX8_greatestPart_99 : decode cX8_greatestPart 99 = .ok (.iload_n 2, 1) := by decide +kernel
theorem dX8_greatestPart_100 : decode cX8_greatestPart 100 = .ok (.iload 7, 2) := by decide +kernel
theorem dX8_greatestPart_102 : decode cX8_greatestPart 102 = .ok (.invokestatic 179, 3) := by decide +kernel
theorem dX8_greatestPart_105 : decode cX8_greatestPart 105 = .ok (.ifCond .eq 12, 3) := by decide +kernel
theorem dX8_greatestPart_108 : decode cX8_greatestPart 108 = .ok (.iload 8, 2) := by decide +kernel
theorem dX8_greatestPart_110 : decode cX8_greatestPart 110 = .ok (.ifCond .eq 7, 3) := by decide +kernel
theorem dX8_greatestPart_113 : decode cX8_greatestPart 113 = .ok (.iconst 1, 1) := by decide +kernel
theorem dX8_greatestPart_114 : decode cX8_greatestPart 114 = .ok (.goto 4, 3) := by decide +kernel
theorem dX8_greatestPart_117 : decode cX8_greatestPart 117 = .ok (.iconst 0, 1) := by decide +kernel
theorem dX8_greatestPart_118 : decode cX8_greatestPart 118 = .ok (.iadd, 1) := by decide +kernel
theorem dX8_greatestPart_119 : decode cX8_greatestPart 119 = .ok (.istore 6, 2) := by decide +kernel
theorem dX8_greatestPart_121 : decode cX8_greatestPart 121 = .ok (.iinc 7 1, 3) := by decide +kernel
theorem dX8_greatestPart_124 : decode cX8_greatestPart 124 = .ok (.goto (-105), 3) := by decide +kernel
theorem dX8_greatestPart_127 : decode cX8_greatestPart 127 = .ok (.iload 6, 2) := by decide +kernel
theorem dX8_greatestPart_129 : decode cX8_greatestPart 129 = .ok (.iload 4, 2) := by decide +kernel
theorem dX8_greatestPart_131 : decode cX8_greatestPart 131 = .ok (.if_icmp .le 8, 3) := by decide +kernel
theorem dX8_greatestPart_134 : decode cX8_greatestPart 134 = .ok (.iload 6, 2) := by decide +kernel
theorem dX8_greatestPart_136 : decode cX8_greatestPart 136 = .ok (.goto 5, 3) := by decide +kernel
theorem dX8_greatestPart_139 : decode cX8_greatestPart 139 = .ok (.iload 4, 2) := by decide +kernel
theorem dX8_greatestPart_141 : decode cX8_greatestPart 141 = .ok (.istore 4, 2) := by decide +kernel
theorem dX8_greatestPart_143 : decode cX8_greatestPart 143 = .ok (.iinc 5 1, 3) := by decide +kernel
theorem dX8_greatestPart_146 : decode cX8_greatestPart 146 = .ok (.goto (-140), 3) := by decide +kernel
theorem dX8_greatestPart_149 : decode cX8_greatestPart 149 = .ok (.iload 4, 2) := by decide +kernel
theorem dX8_greatestPart_151 : decode cX8_greatestPart 151 = .ok (.ireturn, 1) := by decide +kernel
def P_X8_greatestPart_19 (k_127 : Int32 → PM Int32) (p0 : Nat) (p1 : Int32) (p2 : Int32) (p3 : Int32) (p4 : Int32) (p5 : Int32) : Nat → Int32 → Int32 → PM Int32
  | 0, _, _ => failM
  | n + 1, q6, q7 =>
    ifB (decide (6 ≤ q7)) (
    k_127 q6) (
    getR 8 7 p0 fun v5 =>
    ald v5 p1 fun v6 =>
    getR 8 8 p0 fun v7 =>
    ald v7 p1 fun v8 =>
    getR 8 4 p0 fun v9 =>
    ald v9 (5 + p1) fun v10 =>
    cll0 (P_X8_tells p5 v6 v8 v10 p3) fun v11 =>
    getR 8 7 p0 fun v12 =>
    ald v12 p1 fun v13 =>
    getR 8 8 p0 fun v14 =>
    ald v14 p1 fun v15 =>
    getR 8 4 p0 fun v16 =>
    ald v16 (5 + p1) fun v17 =>
    cll0 (P_X8_tells q7 v13 v15 v17 p3) fun v18 =>
    jn (fun (j19 : Int32) =>
    cll0 (P_X8_has p2 p5) fun v20 =>
    jn (fun (j21 : Int32) (j22 : Int32) =>
    P_X8_greatestPart_19 k_127 p0 p1 p2 p3 p4 p5 n (j21 + j22) (q7 + 1)) fun k23 =>
    jn (fun (j24 : Int32) =>
    k23 j24 0) fun k25 =>
    ifB (decide (v20 = 0)) (
    k25 q6) (
    cll0 (P_X8_has p2 q7) fun v26 =>
    ifB (decide (v26 = 0)) (
    k25 q6) (
    ifB (decide (j19 = 0)) (
    k25 q6) (
    k23 q6 1)))) fun k27 =>
    ifB (decide (¬ v11 = v18)) (
    k27 0) (
    k27 1))
def P_X8_greatestPart_6 (p0 : Nat) (p1 : Int32) (p2 : Int32) (p3 : Int32) : Nat → Int32 → Int32 → PM Int32
  | 0, _, _ => failM
  | n + 1, q4, q5 =>
    ifB (decide (6 ≤ q5)) (
    pureM q4) (
    jn (fun (e1 : Int32) =>
    jn (fun (j2 : Int32) =>
    P_X8_greatestPart_6 p0 p1 p2 p3 n j2 (q5 + 1)) fun k3 =>
    ifB (decide (e1 ≤ q4)) (
    k3 q4) (
    k3 e1)) fun k4 =>
    P_X8_greatestPart_19 k4 p0 p1 p2 p3 q4 q5 4000 0 0)
def P_X8_greatestPart (a0 : Nat) (x1 : Int32) (x2 : Int32) (x3 : Int32) : PM Int32 :=
P_X8_greatestPart_6 a0 x1 x2 x3 4000 0 0
set_option maxHeartbeats 4000000 in
set_option maxRecDepth 100000 in
theorem W_X8_greatestPart_19 {Γ : Cx} (ok : OKc Γ cX8_greatestPart RX8 3 "greatestPart") (okr : OKr Γ cX8_greatestPart (some .int)) (k_127 : Int32 → PM Int32) (p0 : Nat) (p1 : Int32) (p2 : Int32) (p3 : Int32) (p4 : Int32) (p5 : Int32) (hk_127 : ∀ (y6 : Int32), SW Γ iI 127 [some (.ref p0), some (.int p1), some (.int p2), some (.int p3), some (.int p4), some (.int p5), some (.int y6), none, none] [] (k_127 y6)) : ∀ (n : Nat) (q6 : Int32) (q7 : Int32), SW Γ iI 19 [some (.ref p0), some (.int p1), some (.int p2), some (.int p3), some (.int p4), some (.int p5), some (.int q6), some (.int q7), none] [] (P_X8_greatestPart_19 k_127 p0 p1 p2 p3 p4 p5 n q6 q7) := by
  intro n
  induction n with
  | zero =>
    intros
    exact sw_fail
  | succ n ih =>
    intro q6 q7
    unfold P_X8_greatestPart_19
    refine sw_iload (z := q7) (pc' := 21) ok dX8_greatestPart_19 rfl rfl ?_
    refine sw_bipush (v := 6) (pc' := 23) ok dX8_greatestPart_21 rfl cc_bipush_6 ?_
    refine sw_icmp_ge (tgt := 127) (pc' := 26) ok dX8_greatestPart_23 (by decide) rfl ?_ ?_
    · refine sw_fg (l' := [some (.ref p0), some (.int p1), some (.int p2), some (.int p3), some (.int p4), some (.int p5), some (.int q6), none, none]) [true, true, true, true, true, true, true, false, false] rfl ?_
      exact hk_127 q6
    refine sw_iload (z := p5) (pc' := 28) ok dX8_greatestPart_26 rfl rfl ?_
    refine sw_aload_n (z := p0) (pc' := 29) ok dX8_greatestPart_28 rfl rfl ?_
    refine sw_getR (pc' := 32) ok (fr_X8_31.g) dX8_greatestPart_29 rfl (fun v5 => ?_)
    refine sw_iload_n (z := p1) (pc' := 33) ok dX8_greatestPart_32 rfl rfl ?_
    refine sw_ald (pc' := 34) ok dX8_greatestPart_33 rfl (fun v6 => ?_)
    refine sw_aload_n (z := p0) (pc' := 35) ok dX8_greatestPart_34 rfl rfl ?_
    refine sw_getR (pc' := 38) ok (fr_X8_34.g) dX8_greatestPart_35 rfl (fun v7 => ?_)
    refine sw_iload_n (z := p1) (pc' := 39) ok dX8_greatestPart_38 rfl rfl ?_
    refine sw_ald (pc' := 40) ok dX8_greatestPart_39 rfl (fun v8 => ?_)
    refine sw_aload_n (z := p0) (pc' := 41) ok dX8_greatestPart_40 rfl rfl ?_
    refine sw_getR (pc' := 44) ok (fr_X8_22.g) dX8_greatestPart_41 rfl (fun v9 => ?_)
    refine sw_iconst (v := 5) (pc' := 45) ok dX8_greatestPart_44 rfl cc_iconst_5 ?_
    refine sw_iload_n (z := p1) (pc' := 46) ok dX8_greatestPart_45 rfl rfl ?_
    refine sw_iadd (pc' := 47) ok dX8_greatestPart_46 rfl ?_
    refine sw_ald (pc' := 48) ok dX8_greatestPart_47 rfl (fun v10 => ?_)
    refine sw_iload_n (z := p3) (pc' := 49) ok dX8_greatestPart_48 rfl rfl ?_
    refine sw_cll0_I (st := []) (as := [.int p5, .int v6, .int v8, .int v10, .int p3]) (pc' := 52) ok (S_X8_tells p5 v6 v8 v10 p3) (by decide) lk_X8_172 rfl dX8_greatestPart_49 rfl (Nat.le_of_ble_eq_true rfl) rfl (fun v11 => ?_)
    refine sw_iload (z := q7) (pc' := 54) ok dX8_greatestPart_52 rfl rfl ?_
    refine sw_aload_n (z := p0) (pc' := 55) ok dX8_greatestPart_54 rfl rfl ?_
    refine sw_getR (pc' := 58) ok (fr_X8_31.g) dX8_greatestPart_55 rfl (fun v12 => ?_)
    refine sw_iload_n (z := p1) (pc' := 59) ok dX8_greatestPart_58 rfl rfl ?_
    refine sw_ald (pc' := 60) ok dX8_greatestPart_59 rfl (fun v13 => ?_)
    refine sw_aload_n (z := p0) (pc' := 61) ok dX8_greatestPart_60 rfl rfl ?_
    refine sw_getR (pc' := 64) ok (fr_X8_34.g) dX8_greatestPart_61 rfl (fun v14 => ?_)
    refine sw_iload_n (z := p1) (pc' := 65) ok dX8_greatestPart_64 rfl rfl ?_
    refine sw_ald (pc' := 66) ok dX8_greatestPart_65 rfl (fun v15 => ?_)
    refine sw_aload_n (z := p0) (pc' := 67) ok dX8_greatestPart_66 rfl rfl ?_
    refine sw_getR (pc' := 70) ok (fr_X8_22.g) dX8_greatestPart_67 rfl (fun v16 => ?_)
    refine sw_iconst (v := 5) (pc' := 71) ok dX8_greatestPart_70 rfl cc_iconst_5 ?_
    refine sw_iload_n (z := p1) (pc' := 72) ok dX8_greatestPart_71 rfl rfl ?_
    refine sw_iadd (pc' := 73) ok dX8_greatestPart_72 rfl ?_
    refine sw_ald (pc' := 74) ok dX8_greatestPart_73 rfl (fun v17 => ?_)
    refine sw_iload_n (z := p3) (pc' := 75) ok dX8_greatestPart_74 rfl rfl ?_
    refine sw_cll0_I (st := [.int v11]) (as := [.int q7, .int v13, .int v15, .int v17, .int p3]) (pc' := 78) ok (S_X8_tells q7 v13 v15 v17 p3) (by decide) lk_X8_172 rfl dX8_greatestPart_75 rfl (Nat.le_of_ble_eq_true rfl) rfl (fun v18 => ?_)
    refine sw_jn (fun k27 : Int32 → PM Int32 => ∀ (j19 : Int32), SW Γ iI 86 [some (.ref p0), some (.int p1), some (.int p2), some (.int p3), some (.int p4), some (.int p5), some (.int q6), some (.int q7), none] [.int j19] (k27 j19)) ?_ (fun k27 hk27 => ?_)
    · intro j19
      refine sw_istore (pc' := 88) (l' := [some (.ref p0), some (.int p1), some (.int p2), some (.int p3), some (.int p4), some (.int p5), some (.int q6), some (.int q7), some (.int j19)]) ok dX8_greatestPart_86 rfl (Nat.le_of_ble_eq_true rfl) rfl ?_
      refine sw_iload (z := q6) (pc' := 90) ok dX8_greatestPart_88 rfl rfl ?_
      refine sw_iload_n (z := p2) (pc' := 91) ok dX8_greatestPart_90 rfl rfl ?_
      refine sw_iload (z := p5) (pc' := 93) ok dX8_greatestPart_91 rfl rfl ?_
      refine sw_cll0_I (st := [.int q6]) (as := [.int p2, .int p5]) (pc' := 96) ok (S_X8_has p2 p5) (by decide) lk_X8_179 rfl dX8_greatestPart_93 rfl (Nat.le_of_ble_eq_true rfl) rfl (fun v20 => ?_)
      refine sw_jn (fun k23 : Int32 → Int32 → PM Int32 => ∀ (j21 : Int32) (j22 : Int32), SW Γ iI 118 [some (.ref p0), some (.int p1), some (.int p2), some (.int p3), some (.int p4), some (.int p5), none, some (.int q7), none] [.int j22, .int j21] (k23 j21 j22)) ?_ (fun k23 hk23 => ?_)
      · intro j21 j22
        refine sw_iadd (pc' := 119) ok dX8_greatestPart_118 rfl ?_
        refine sw_istore (pc' := 121) (l' := [some (.ref p0), some (.int p1), some (.int p2), some (.int p3), some (.int p4), some (.int p5), some (.int (j21 + j22)), some (.int q7), none]) ok dX8_greatestPart_119 rfl (Nat.le_of_ble_eq_true rfl) rfl ?_
        refine sw_iinc (z := q7) (v := q7 + 1) (pc' := 124) (l' := [some (.ref p0), some (.int p1), some (.int p2), some (.int p3), some (.int p4), some (.int p5), some (.int (j21 + j22)), some (.int (q7 + 1)), none]) ok dX8_greatestPart_121 rfl rfl (by rw [cc_iconst_1]) rfl ?_
        refine sw_goto (tgt := 19) ok dX8_greatestPart_124 (by decide) ?_
        exact ih (j21 + j22) (q7 + 1)
      refine sw_jn (fun k25 : Int32 → PM Int32 => ∀ (j24 : Int32), SW Γ iI 117 [some (.ref p0), some (.int p1), some (.int p2), some (.int p3), some (.int p4), some (.int p5), none, some (.int q7), none] [.int j24] (k25 j24)) ?_ (fun k25 hk25 => ?_)
      · intro j24
        refine sw_iconst (v := 0) (pc' := 118) ok dX8_greatestPart_117 rfl cc_iconst_0 ?_
        exact hk23 j24 0
      refine sw_if_eq (tgt := 117) (pc' := 99) ok dX8_greatestPart_96 (by decide) rfl ?_ ?_
      · refine sw_fg (l' := [some (.ref p0), some (.int p1), some (.int p2), some (.int p3), some (.int p4), some (.int p5), none, some (.int q7), none]) [true, true, true, true, true, true, false, true, false] rfl ?_
        exact hk25 q6
      refine sw_iload_n (z := p2) (pc' := 100) ok dX8_greatestPart_99 rfl rfl ?_
      refine sw_iload (z := q7) (pc' := 102) ok dX8_greatestPart_100 rfl rfl ?_
      refine sw_cll0_I (st := [.int q6]) (as := [.int p2, .int q7]) (pc' := 105) ok (S_X8_has p2 q7) (by decide) lk_X8_179 rfl dX8_greatestPart_102 rfl (Nat.le_of_ble_eq_true rfl) rfl (fun v26 => ?_)
      refine sw_if_eq (tgt := 117) (pc' := 108) ok dX8_greatestPart_105 (by decide) rfl ?_ ?_
      · refine sw_fg (l' := [some (.ref p0), some (.int p1), some (.int p2), some (.int p3), some (.int p4), some (.int p5), none, some (.int q7), none]) [true, true, true, true, true, true, false, true, false] rfl ?_
        exact hk25 q6
      refine sw_iload (z := j19) (pc' := 110) ok dX8_greatestPart_108 rfl rfl ?_
      refine sw_if_eq (tgt := 117) (pc' := 113) ok dX8_greatestPart_110 (by decide) rfl ?_ ?_
      · refine sw_fg (l' := [some (.ref p0), some (.int p1), some (.int p2), some (.int p3), some (.int p4), some (.int p5), none, some (.int q7), none]) [true, true, true, true, true, true, false, true, false] rfl ?_
        exact hk25 q6
      refine sw_iconst (v := 1) (pc' := 114) ok dX8_greatestPart_113 rfl cc_iconst_1 ?_
      refine sw_goto (tgt := 118) ok dX8_greatestPart_114 (by decide) ?_
      refine sw_fg (l' := [some (.ref p0), some (.int p1), some (.int p2), some (.int p3), some (.int p4), some (.int p5), none, some (.int q7), none]) [true, true, true, true, true, true, false, true, false] rfl ?_
      exact hk23 q6 1
    refine sw_icmp_ne (tgt := 85) (pc' := 81) ok dX8_greatestPart_78 (by decide) rfl ?_ ?_
    · refine sw_iconst (v := 0) (pc' := 86) ok dX8_greatestPart_85 rfl cc_iconst_0 ?_
      exact hk27 0
    refine sw_iconst (v := 1) (pc' := 82) ok dX8_greatestPart_81 rfl cc_iconst_1 ?_
    refine sw_goto (tgt := 86) ok dX8_greatestPart_82 (by decide) ?_
    exact hk27 1
set_option maxHeartbeats 4000000 in
set_option maxRecDepth 100000 in
theorem W_X8_greatestPart_6 {Γ : Cx} (ok : OKc Γ cX8_greatestPart RX8 3 "greatestPart") (okr : OKr Γ cX8_greatestPart (some .int)) (p0 : Nat) (p1 : Int32) (p2 : Int32) (p3 : Int32) : ∀ (n : Nat) (q4 : Int32) (q5 : Int32), SW Γ iI 6 [some (.ref p0), some (.int p1), some (.int p2), some (.int p3), some (.int q4), some (.int q5), none, none, none] [] (P_X8_greatestPart_6 p0 p1 p2 p3 n q4 q5) := by
  intro n
  induction n with
  | zero =>
    intros
    exact sw_fail
  | succ n ih =>
    intro q4 q5
    unfold P_X8_greatestPart_6
    refine sw_iload (z := q5) (pc' := 8) ok dX8_greatestPart_6 rfl rfl ?_
    refine sw_bipush (v := 6) (pc' := 10) ok dX8_greatestPart_8 rfl cc_bipush_6 ?_
    refine sw_icmp_ge (tgt := 149) (pc' := 13) ok dX8_greatestPart_10 (by decide) rfl ?_ ?_
    · refine sw_iload (z := q4) (pc' := 151) ok dX8_greatestPart_149 rfl rfl ?_
      exact sw_ret ok okr dX8_greatestPart_151 trivial rfl
    refine sw_iconst (v := 0) (pc' := 14) ok dX8_greatestPart_13 rfl cc_iconst_0 ?_
    refine sw_istore (pc' := 16) (l' := [some (.ref p0), some (.int p1), some (.int p2), some (.int p3), some (.int q4), some (.int q5), some (.int 0), none, none]) ok dX8_greatestPart_14 rfl (Nat.le_of_ble_eq_true rfl) rfl ?_
    refine sw_iconst (v := 0) (pc' := 17) ok dX8_greatestPart_16 rfl cc_iconst_0 ?_
    refine sw_istore (pc' := 19) (l' := [some (.ref p0), some (.int p1), some (.int p2), some (.int p3), some (.int q4), some (.int q5), some (.int 0), some (.int 0), none]) ok dX8_greatestPart_17 rfl (Nat.le_of_ble_eq_true rfl) rfl ?_
    refine sw_jn (fun k4 : Int32 → PM Int32 => ∀ (e1 : Int32), SW Γ iI 127 [some (.ref p0), some (.int p1), some (.int p2), some (.int p3), some (.int q4), some (.int q5), some (.int e1), none, none] [] (k4 e1)) ?_ (fun k4 hk4 => ?_)
    · intro e1
      refine sw_iload (z := e1) (pc' := 129) ok dX8_greatestPart_127 rfl rfl ?_
      refine sw_iload (z := q4) (pc' := 131) ok dX8_greatestPart_129 rfl rfl ?_
      refine sw_jn (fun k3 : Int32 → PM Int32 => ∀ (j2 : Int32), SW Γ iI 141 [some (.ref p0), some (.int p1), some (.int p2), some (.int p3), none, some (.int q5), none, none, none] [.int j2] (k3 j2)) ?_ (fun k3 hk3 => ?_)
      · intro j2
        refine sw_istore (pc' := 143) (l' := [some (.ref p0), some (.int p1), some (.int p2), some (.int p3), some (.int j2), some (.int q5), none, none, none]) ok dX8_greatestPart_141 rfl (Nat.le_of_ble_eq_true rfl) rfl ?_
        refine sw_iinc (z := q5) (v := q5 + 1) (pc' := 146) (l' := [some (.ref p0), some (.int p1), some (.int p2), some (.int p3), some (.int j2), some (.int (q5 + 1)), none, none, none]) ok dX8_greatestPart_143 rfl rfl (by rw [cc_iconst_1]) rfl ?_
        refine sw_goto (tgt := 6) ok dX8_greatestPart_146 (by decide) ?_
        exact ih j2 (q5 + 1)
      refine sw_icmp_le (tgt := 139) (pc' := 134) ok dX8_greatestPart_131 (by decide) rfl ?_ ?_
      · refine sw_iload (z := q4) (pc' := 141) ok dX8_greatestPart_139 rfl rfl ?_
        refine sw_fg (l' := [some (.ref p0), some (.int p1), some (.int p2), some (.int p3), none, some (.int q5), none, none, none]) [true, true, true, true, false, true, false, false, false] rfl ?_
        exact hk3 q4
      refine sw_iload (z := e1) (pc' := 136) ok dX8_greatestPart_134 rfl rfl ?_
      refine sw_goto (tgt := 141) ok dX8_greatestPart_136 (by decide) ?_
      refine sw_fg (l' := [some (.ref p0), some (.int p1), some (.int p2), some (.int p3), none, some (.int q5), none, none, none]) [true, true, true, true, false, true, false, false, false] rfl ?_
      exact hk3 e1
    exact W_X8_greatestPart_19 ok okr k4 p0 p1 p2 p3 q4 q5 hk4 4000 0 0
set_option maxHeartbeats 4000000 in
set_option maxRecDepth 100000 in
theorem W_X8_greatestPart {Γ : Cx} (ok : OKc Γ cX8_greatestPart RX8 3 "greatestPart") (okr : OKr Γ cX8_greatestPart (some .int)) (a0 : Nat) (x1 : Int32) (x2 : Int32) (x3 : Int32) : SW Γ iI 0 [some (.ref a0), some (.int x1), some (.int x2), some (.int x3), none, none, none, none, none] [] (P_X8_greatestPart a0 x1 x2 x3) := by
  unfold P_X8_greatestPart
  refine sw_iconst (v := 0) (pc' := 1) ok dX8_greatestPart_0 rfl cc_iconst_0 ?_
  refine sw_istore (pc' := 3) (l' := [some (.ref a0), some (.int x1), some (.int x2), some (.int x3), some (.int 0), none, none, none, none]) ok dX8_greatestPart_1 rfl (Nat.le_of_ble_eq_true rfl) rfl ?_
  refine sw_iconst (v := 0) (pc' := 4) ok dX8_greatestPart_3 rfl cc_iconst_0 ?_
  refine sw_istore (pc' := 6) (l' := [some (.ref a0), some (.int x1), some (.int x2), some (.int x3), some (.int 0), some (.int 0), none, none, none]) ok dX8_greatestPart_4 rfl (Nat.le_of_ble_eq_true rfl) rfl ?_
  exact W_X8_greatestPart_6 ok okr a0 x1 x2 x3 4000 0 0
theorem S_X8_greatestPart (a0 : Nat) (x1 : Int32) (x2 : Int32) (x3 : Int32) : Sim 3 yX8_greatestPart cX8_greatestPart 9 (some .int) iI [.ref a0, .int x1, .int x2, .int x3] (P_X8_greatestPart a0 x1 x2 x3) := Sim.intro wd_1136 (by decide) (by decide +kernel) (Nat.le_of_ble_eq_true rfl) (fun Γ ok okr => W_X8_greatestPart ok okr a0 x1 x2 x3)
theorem dX8_test_0 : decode cX8_test 0 = .ok (.aload_n 0, 1) := by decide +kernel
theorem dX8_test_1 : decode cX8_test 1 = .ok (.iload_n 1, 1) := by decide +kernel
theorem dX8_test_2 : decode cX8_test 2 = .ok (.invokevirtual 186, 3) := by decide +kernel
theorem dX8_test_5 : decode cX8_test 5 = .ok (.ifCond .eq 10, 3) := by decide +kernel
theorem dX8_test_8 : decode cX8_test 8 = .ok (.iload_n 2, 1) := by decide +kernel
theorem dX8_test_9 : decode cX8_test 9 = .ok (.invokestatic 86, 3) := by decide +kernel
theorem dX8_test_12 : decode cX8_test 12 = .ok (.ifCond .ne 5, 3) := by decide +kernel
theorem dX8_test_15 : decode cX8_test 15 = .ok (.iconst (-1), 1) := by decide +kernel
theorem dX8_test_16 : decode cX8_test 16 = .ok (.ireturn, 1) := by decide +kernel
theorem dX8_test_17 : decode cX8_test 17 = .ok (.aload_n 0, 1) := by decide +kernel
theorem dX8_test_18 : decode cX8_test 18 = .ok (.iload_n 2, 1) := by decide +kernel
theorem dX8_test_19 : decode cX8_test 19 = .ok (.invokevirtual 289, 3) := by decide +kernel
theorem dX8_test_22 : decode cX8_test 22 = .ok (.istore_n 3, 1) := by decide +kernel
theorem dX8_test_23 : decode cX8_test 23 = .ok (.iload_n 3, 1) := by decide +kernel
theorem dX8_test_24 : decode cX8_test 24 = .ok (.ifCond .le 9, 3) := by decide +kernel
theorem dX8_test_27 : decode cX8_test 27 = .ok (.aload_n 0, 1) := by decide +kernel
theorem dX8_test_28 : decode cX8_test 28 = .ok (.iload_n 3, 1) := by decide +kernel
theorem dX8_test_29 : decode cX8_test 29 = .ok (.invokevirtual 90, 3) := by decide +kernel
theorem dX8_test_32 : decode cX8_test 32 = .ok (.ireturn, 1) := by decide +kernel
theorem dX8_test_33 : decode cX8_test 33 = .ok (.aload_n 0, 1) := by decide +kernel
theorem dX8_test_34 : decode cX8_test 34 = .ok (.iload_n 1, 1) := by decide +kernel
theorem dX8_test_35 : decode cX8_test 35 = .ok (.iload_n 2, 1) := by decide +kernel
theorem dX8_test_36 : decode cX8_test 36 = .ok (.invokevirtual 296, 3) := by decide +kernel
theorem dX8_test_39 : decode cX8_test 39 = .ok (.istore 4, 2) := by decide +kernel
theorem dX8_test_41 : decode cX8_test 41 = .ok (.iload 4, 2) := by decide +kernel
theorem dX8_test_43 : decode cX8_test 43 = .ok (.ifCond .ne 6, 3) := by decide +kernel
theorem dX8_test_46 : decode cX8_test 46 = .ok (.bipush (-9), 2) := by decide +kernel
theorem dX8_test_48 : decode cX8_test 48 = .ok (.ireturn, 1) := by decide +kernel
theorem dX8_test_49 : decode cX8_test 49 = .ok (.iconst 0, 1) := by decide +kernel
theorem dX8_test_50 : decode cX8_test 50 = .ok (.istore 5, 2) := by decide +kernel
theorem dX8_test_52 : decode cX8_test 52 = .ok (.bipush 7, 2) := by decide +kernel
theorem dX8_test_54 : decode cX8_test 54 = .ok (.istore 6, 2) := by decide +kernel
theorem dX8_test_56 : decode cX8_test 56 = .ok (.iconst 0, 1) := by decide +kernel
theorem dX8_test_57 : decode cX8_test 57 = .ok (.istore 7, 2) := by decide +kernel
theorem dX8_test_59 : decode cX8_test 59 = .ok (.iload 7, 2) := by decide +kernel
theorem dX8_test_61 : decode cX8_test 61 = .ok (.bipush 12, 2) := by decide +kernel
theorem dX8_test_63 : decode cX8_test 63 = .ok (.if_icmp .ge 52, 3) := by decide +kernel
theorem dX8_test_66 : decode cX8_test 66 = .ok (.aload_n 0, 1) := by decide +kernel
theorem dX8_test_67 : decode cX8_test 67 = .ok (.iload_n 1, 1) := by decide +kernel
theorem dX8_test_68 : decode cX8_test 68 = .ok (.iload 4, 2) := by decide +kernel
theorem dX8_test_70 : decode cX8_test 70 = .ok (.iload 7, 2) := by decide +kernel
theorem dX8_test_72 : decode cX8_test 72 = .ok (.invokevirtual 299, 3) := by decide +kernel
theorem dX8_test_75 : decode cX8_test 75 = .ok (.istore 8, 2) := by decide +kernel
theorem dX8_test_77 : decode cX8_test 77 = .ok (.iload 8, 2) := by decide +kernel
theorem dX8_test_79 : decode cX8_test 79 = .ok (.iload 6, 2) := by decide +kernel
theorem dX8_test_81 : decode cX8_test 81 = .ok (.if_icmp .ge 8, 3) := by decide +kernel
theorem dX8_test_84 : decode cX8_test 84 = .ok (.iload 7, 2) := by decide +kernel
theorem dX8_test_86 : decode cX8_test 86 = .ok (.goto 5, 3) := by decide +kernel
theorem dX8_test_89 : decode cX8_test 89 = .ok (.iload 5, 2) := by decide +kernel
theorem dX8_test_91 : decode cX8_test 91 = .ok (.istore 5, 2) := by decide +kernel
theorem dX8_test_93 : decode cX8_test 93 = .ok (.iload 8, 2) := by decide +kernel
theorem dX8_test_95 : decode cX8_test 95 = .ok (.iload 6, 2) := by decide +kernel
theorem dX8_test_97 : decode cX8_test 97 = .ok (.if_icmp .ge 8, 3) := by decide +kernel
theorem dX8_test_100 : decode cX8_test 100 = .ok (.iload 8, 2) := by decide +kernel
theorem dX8_test_102 : decode cX8_test 102 = .ok (.goto 5, 3) := by decide +kernel
theorem dX8_test_105 : decode cX8_test 105 = .ok (.iload 6, 2) := by decide +kernel
theorem dX8_test_107 : decode cX8_test 107 = .ok (.istore 6, 2) := by decide +kernel
theorem dX8_test_109 : decode cX8_test 109 = .ok (.iinc 7 1, 3) := by decide +kernel
theorem dX8_test_112 : decode cX8_test 112 = .ok (.goto (-53), 3) := by decide +kernel
theorem dX8_test_115 : decode cX8_test 115 = .ok (.aload_n 0, 1) := by decide +kernel
theorem dX8_test_116 : decode cX8_test 116 = .ok (.iload 6, 2) := by decide +kernel
theorem dX8_test_118 : decode cX8_test 118 = .ok (.putfield 98, 3) := by decide +kernel
theorem dX8_test_121 : decode cX8_test 121 = .ok (.iload 5, 2) := by decide +kernel
theorem dX8_test_123 : decode cX8_test 123 = .ok (.ireturn, 1) := by decide +kernel
def P_X8_test_59 (k_115 : Int32 → Int32 → PM Int32) (p0 : Nat) (p1 : Int32) (p4 : Int32) : Nat → Int32 → Int32 → Int32 → PM Int32
  | 0, _, _, _ => failM
  | n + 1, q5, q6, q7 =>
    ifB (decide (12 ≤ q7)) (
    k_115 q5 q6) (
    cllV 8 p0 (P_X8_greatestPart p0 p1 p4 q7) fun v8 =>
    jn (fun (j9 : Int32) =>
    jn (fun (j10 : Int32) =>
    P_X8_test_59 k_115 p0 p1 p4 n j9 j10 (q7 + 1)) fun k11 =>
    ifB (decide (q6 ≤ v8)) (
    k11 q6) (
    k11 v8)) fun k12 =>
    ifB (decide (q6 ≤ v8)) (
    k12 q5) (
    k12 q7))
def P_X8_test (a0 : Nat) (x1 : Int32) (x2 : Int32) : PM Int32 :=
cllV 8 a0 (P_X8_isOne a0 x1) fun v1 =>
ifB (decide (v1 = 0)) (
pureM ((-1))) (
cll0 (P_X8_isRow x2) fun v2 =>
ifB (decide (¬ v2 = 0)) (
cllV 8 a0 (P_X8_refusedTriples a0 x2) fun v3 =>
ifB (decide (v3 ≤ 0)) (
cllV 8 a0 (P_X8_kindsBy a0 x1 x2) fun v4 =>
ifB (decide (¬ v4 = 0)) (
jn (fun (e5 : Int32) (e6 : Int32) =>
setI 8 14 a0 e6 <|
pureM e5) fun k7 =>
P_X8_test_59 k7 a0 x1 v4 4000 0 7 0) (
pureM ((-9)))) (
cllV 8 a0 (P_X8_refuse a0 v3) fun v13 =>
pureM v13)) (
pureM ((-1))))
set_option maxHeartbeats 4000000 in
set_option maxRecDepth 100000 in
theorem W_X8_test_59 {Γ : Cx} (ok : OKc Γ cX8_test RX8 5 "test") (okr : OKr Γ cX8_test (some .int)) (k_115 : Int32 → Int32 → PM Int32) (p0 : Nat) (p1 : Int32) (p4 : Int32) (hk_115 : ∀ (y5 : Int32) (y6 : Int32), SW Γ iI 115 [some (.ref p0), none, none, none, none, some (.int y5), some (.int y6), none, none] [] (k_115 y5 y6)) : ∀ (n : Nat) (q5 : Int32) (q6 : Int32) (q7 : Int32), SW Γ iI 59 [some (.ref p0), some (.int p1), none, none, some (.int p4), some (.int q5), some (.int q6), some (.int q7), none] [] (P_X8_test_59 k_115 p0 p1 p4 n q5 q6 q7) := by
  intro n
  induction n with
  | zero =>
    intros
    exact sw_fail
  | succ n ih =>
    intro q5 q6 q7
    unfold P_X8_test_59
    refine sw_iload (z := q7) (pc' := 61) ok dX8_test_59 rfl rfl ?_
    refine sw_bipush (v := 12) (pc' := 63) ok dX8_test_61 rfl cc_bipush_12 ?_
    refine sw_icmp_ge (tgt := 115) (pc' := 66) ok dX8_test_63 (by decide) rfl ?_ ?_
    · refine sw_fg (l' := [some (.ref p0), none, none, none, none, some (.int q5), some (.int q6), none, none]) [true, false, false, false, false, true, true, false, false] rfl ?_
      exact hk_115 q5 q6
    refine sw_aload_n (z := p0) (pc' := 67) ok dX8_test_66 rfl rfl ?_
    refine sw_iload_n (z := p1) (pc' := 68) ok dX8_test_67 rfl rfl ?_
    refine sw_iload (z := p4) (pc' := 70) ok dX8_test_68 rfl rfl ?_
    refine sw_iload (z := q7) (pc' := 72) ok dX8_test_70 rfl rfl ?_
    refine sw_cllV_I (st := []) (as := [.int p1, .int p4, .int q7]) (pc' := 75) ok (S_X8_greatestPart p0 p1 p4 q7) (by decide) lk_X8_299 rfl dX8_test_72 rfl (Nat.le_of_ble_eq_true rfl) rfl (fun v8 => ?_)
    refine sw_istore (pc' := 77) (l' := [some (.ref p0), some (.int p1), none, none, some (.int p4), some (.int q5), some (.int q6), some (.int q7), some (.int v8)]) ok dX8_test_75 rfl (Nat.le_of_ble_eq_true rfl) rfl ?_
    refine sw_iload (z := v8) (pc' := 79) ok dX8_test_77 rfl rfl ?_
    refine sw_iload (z := q6) (pc' := 81) ok dX8_test_79 rfl rfl ?_
    refine sw_jn (fun k12 : Int32 → PM Int32 => ∀ (j9 : Int32), SW Γ iI 91 [some (.ref p0), some (.int p1), none, none, some (.int p4), none, some (.int q6), some (.int q7), some (.int v8)] [.int j9] (k12 j9)) ?_ (fun k12 hk12 => ?_)
    · intro j9
      refine sw_istore (pc' := 93) (l' := [some (.ref p0), some (.int p1), none, none, some (.int p4), some (.int j9), some (.int q6), some (.int q7), some (.int v8)]) ok dX8_test_91 rfl (Nat.le_of_ble_eq_true rfl) rfl ?_
      refine sw_iload (z := v8) (pc' := 95) ok dX8_test_93 rfl rfl ?_
      refine sw_iload (z := q6) (pc' := 97) ok dX8_test_95 rfl rfl ?_
      refine sw_jn (fun k11 : Int32 → PM Int32 => ∀ (j10 : Int32), SW Γ iI 107 [some (.ref p0), some (.int p1), none, none, some (.int p4), some (.int j9), none, some (.int q7), none] [.int j10] (k11 j10)) ?_ (fun k11 hk11 => ?_)
      · intro j10
        refine sw_istore (pc' := 109) (l' := [some (.ref p0), some (.int p1), none, none, some (.int p4), some (.int j9), some (.int j10), some (.int q7), none]) ok dX8_test_107 rfl (Nat.le_of_ble_eq_true rfl) rfl ?_
        refine sw_iinc (z := q7) (v := q7 + 1) (pc' := 112) (l' := [some (.ref p0), some (.int p1), none, none, some (.int p4), some (.int j9), some (.int j10), some (.int (q7 + 1)), none]) ok dX8_test_109 rfl rfl (by rw [cc_iconst_1]) rfl ?_
        refine sw_goto (tgt := 59) ok dX8_test_112 (by decide) ?_
        exact ih j9 j10 (q7 + 1)
      refine sw_icmp_ge (tgt := 105) (pc' := 100) ok dX8_test_97 (by decide) rfl ?_ ?_
      · refine sw_iload (z := q6) (pc' := 107) ok dX8_test_105 rfl rfl ?_
        refine sw_fg (l' := [some (.ref p0), some (.int p1), none, none, some (.int p4), some (.int j9), none, some (.int q7), none]) [true, true, false, false, true, true, false, true, false] rfl ?_
        exact hk11 q6
      refine sw_iload (z := v8) (pc' := 102) ok dX8_test_100 rfl rfl ?_
      refine sw_goto (tgt := 107) ok dX8_test_102 (by decide) ?_
      refine sw_fg (l' := [some (.ref p0), some (.int p1), none, none, some (.int p4), some (.int j9), none, some (.int q7), none]) [true, true, false, false, true, true, false, true, false] rfl ?_
      exact hk11 v8
    refine sw_icmp_ge (tgt := 89) (pc' := 84) ok dX8_test_81 (by decide) rfl ?_ ?_
    · refine sw_iload (z := q5) (pc' := 91) ok dX8_test_89 rfl rfl ?_
      refine sw_fg (l' := [some (.ref p0), some (.int p1), none, none, some (.int p4), none, some (.int q6), some (.int q7), some (.int v8)]) [true, true, false, false, true, false, true, true, true] rfl ?_
      exact hk12 q5
    refine sw_iload (z := q7) (pc' := 86) ok dX8_test_84 rfl rfl ?_
    refine sw_goto (tgt := 91) ok dX8_test_86 (by decide) ?_
    refine sw_fg (l' := [some (.ref p0), some (.int p1), none, none, some (.int p4), none, some (.int q6), some (.int q7), some (.int v8)]) [true, true, false, false, true, false, true, true, true] rfl ?_
    exact hk12 q7
set_option maxHeartbeats 4000000 in
set_option maxRecDepth 100000 in
theorem W_X8_test {Γ : Cx} (ok : OKc Γ cX8_test RX8 5 "test") (okr : OKr Γ cX8_test (some .int)) (a0 : Nat) (x1 : Int32) (x2 : Int32) : SW Γ iI 0 [some (.ref a0), some (.int x1), some (.int x2), none, none, none, none, none, none] [] (P_X8_test a0 x1 x2) := by
  unfold P_X8_test
  refine sw_aload_n (z := a0) (pc' := 1) ok dX8_test_0 rfl rfl ?_
  refine sw_iload_n (z := x1) (pc' := 2) ok dX8_test_1 rfl rfl ?_
  refine sw_cllV_I (st := []) (as := [.int x1]) (pc' := 5) ok (S_X8_isOne a0 x1) (by decide) lk_X8_186 rfl dX8_test_2 rfl (Nat.le_of_ble_eq_true rfl) rfl (fun v1 => ?_)
  refine sw_if_eq (tgt := 15) (pc' := 8) ok dX8_test_5 (by decide) rfl ?_ ?_
  · refine sw_iconst (v := (-1)) (pc' := 16) ok dX8_test_15 rfl cc_iconst_m1 ?_
    exact sw_ret ok okr dX8_test_16 trivial rfl
  refine sw_iload_n (z := x2) (pc' := 9) ok dX8_test_8 rfl rfl ?_
  refine sw_cll0_I (st := []) (as := [.int x2]) (pc' := 12) ok (S_X8_isRow x2) (by decide) lk_X8_86 rfl dX8_test_9 rfl (Nat.le_of_ble_eq_true rfl) rfl (fun v2 => ?_)
  refine sw_if_ne (tgt := 17) (pc' := 15) ok dX8_test_12 (by decide) rfl ?_ ?_
  · refine sw_aload_n (z := a0) (pc' := 18) ok dX8_test_17 rfl rfl ?_
    refine sw_iload_n (z := x2) (pc' := 19) ok dX8_test_18 rfl rfl ?_
    refine sw_cllV_I (st := []) (as := [.int x2]) (pc' := 22) ok (S_X8_refusedTriples a0 x2) (by decide) lk_X8_289 rfl dX8_test_19 rfl (Nat.le_of_ble_eq_true rfl) rfl (fun v3 => ?_)
    refine sw_istore_n (pc' := 23) (l' := [some (.ref a0), some (.int x1), some (.int x2), some (.int v3), none, none, none, none, none]) ok dX8_test_22 rfl (Nat.le_of_ble_eq_true rfl) rfl ?_
    refine sw_iload_n (z := v3) (pc' := 24) ok dX8_test_23 rfl rfl ?_
    refine sw_if_le (tgt := 33) (pc' := 27) ok dX8_test_24 (by decide) rfl ?_ ?_
    · refine sw_aload_n (z := a0) (pc' := 34) ok dX8_test_33 rfl rfl ?_
      refine sw_iload_n (z := x1) (pc' := 35) ok dX8_test_34 rfl rfl ?_
      refine sw_iload_n (z := x2) (pc' := 36) ok dX8_test_35 rfl rfl ?_
      refine sw_cllV_I (st := []) (as := [.int x1, .int x2]) (pc' := 39) ok (S_X8_kindsBy a0 x1 x2) (by decide) lk_X8_296 rfl dX8_test_36 rfl (Nat.le_of_ble_eq_true rfl) rfl (fun v4 => ?_)
      refine sw_istore (pc' := 41) (l' := [some (.ref a0), some (.int x1), some (.int x2), some (.int v3), some (.int v4), none, none, none, none]) ok dX8_test_39 rfl (Nat.le_of_ble_eq_true rfl) rfl ?_
      refine sw_iload (z := v4) (pc' := 43) ok dX8_test_41 rfl rfl ?_
      refine sw_if_ne (tgt := 49) (pc' := 46) ok dX8_test_43 (by decide) rfl ?_ ?_
      · refine sw_iconst (v := 0) (pc' := 50) ok dX8_test_49 rfl cc_iconst_0 ?_
        refine sw_istore (pc' := 52) (l' := [some (.ref a0), some (.int x1), some (.int x2), some (.int v3), some (.int v4), some (.int 0), none, none, none]) ok dX8_test_50 rfl (Nat.le_of_ble_eq_true rfl) rfl ?_
        refine sw_bipush (v := 7) (pc' := 54) ok dX8_test_52 rfl cc_bipush_7 ?_
        refine sw_istore (pc' := 56) (l' := [some (.ref a0), some (.int x1), some (.int x2), some (.int v3), some (.int v4), some (.int 0), some (.int 7), none, none]) ok dX8_test_54 rfl (Nat.le_of_ble_eq_true rfl) rfl ?_
        refine sw_iconst (v := 0) (pc' := 57) ok dX8_test_56 rfl cc_iconst_0 ?_
        refine sw_istore (pc' := 59) (l' := [some (.ref a0), some (.int x1), some (.int x2), some (.int v3), some (.int v4), some (.int 0), some (.int 7), some (.int 0), none]) ok dX8_test_57 rfl (Nat.le_of_ble_eq_true rfl) rfl ?_
        refine sw_jn (fun k7 : Int32 → Int32 → PM Int32 => ∀ (e5 : Int32) (e6 : Int32), SW Γ iI 115 [some (.ref a0), none, none, none, none, some (.int e5), some (.int e6), none, none] [] (k7 e5 e6)) ?_ (fun k7 hk7 => ?_)
        · intro e5 e6
          refine sw_aload_n (z := a0) (pc' := 116) ok dX8_test_115 rfl rfl ?_
          refine sw_iload (z := e6) (pc' := 118) ok dX8_test_116 rfl rfl ?_
          refine sw_setI (pc' := 121) ok fr_X8_98 dX8_test_118 (fun h => by cases h) rfl ?_
          refine sw_iload (z := e5) (pc' := 123) ok dX8_test_121 rfl rfl ?_
          exact sw_ret ok okr dX8_test_123 trivial rfl
        refine sw_fg (l' := [some (.ref a0), some (.int x1), none, none, some (.int v4), some (.int 0), some (.int 7), some (.int 0), none]) [true, true, false, false, true, true, true, true, false] rfl ?_
        exact W_X8_test_59 ok okr k7 a0 x1 v4 hk7 4000 0 7 0
      refine sw_bipush (v := (-9)) (pc' := 48) ok dX8_test_46 rfl cc_bipush_m9 ?_
      exact sw_ret ok okr dX8_test_48 trivial rfl
    refine sw_aload_n (z := a0) (pc' := 28) ok dX8_test_27 rfl rfl ?_
    refine sw_iload_n (z := v3) (pc' := 29) ok dX8_test_28 rfl rfl ?_
    refine sw_cllV_I (st := []) (as := [.int v3]) (pc' := 32) ok (S_X8_refuse a0 v3) (by decide) lk_X8_90 rfl dX8_test_29 rfl (Nat.le_of_ble_eq_true rfl) rfl (fun v13 => ?_)
    exact sw_ret ok okr dX8_test_32 trivial rfl
  refine sw_iconst (v := (-1)) (pc' := 16) ok dX8_test_15 rfl cc_iconst_m1 ?_
  exact sw_ret ok okr dX8_test_16 trivial rfl
theorem S_X8_test (a0 : Nat) (x1 : Int32) (x2 : Int32) : Sim 5 yX8_test cX8_test 9 (some .int) iI [.ref a0, .int x1, .int x2] (P_X8_test a0 x1 x2) := Sim.intro wd_1137 (by decide) (by decide +kernel) (Nat.le_of_ble_eq_true rfl) (fun Γ ok okr => W_X8_test ok okr a0 x1 x2)
