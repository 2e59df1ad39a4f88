/-! Programs and walks, printed by program (gen.py). -/
theorem dX7_best_0 : decode cX7_best 0 = .ok (.iload_n 1, 1) := by decide +kernel
theorem dX7_best_1 : decode cX7_best 1 = .ok (.invokestatic 227, 3) := by decide +kernel
theorem dX7_best_4 : decode cX7_best 4 = .ok (.ifCond .eq 10, 3) := by decide +kernel
theorem dX7_best_7 : decode cX7_best 7 = .ok (.iload_n 2, 1) := by decide +kernel
theorem dX7_best_8 : decode cX7_best 8 = .ok (.invokestatic 78, 3) := by decide +kernel
theorem dX7_best_11 : decode cX7_best 11 = .ok (.ifCond .ne 5, 3) := by decide +kernel
theorem dX7_best_14 : decode cX7_best 14 = .ok (.iconst (-1), 1) := by decide +kernel
theorem dX7_best_15 : decode cX7_best 15 = .ok (.ireturn, 1) := by decide +kernel
theorem dX7_best_16 : decode cX7_best 16 = .ok (.aload_n 0, 1) := by decide +kernel
theorem dX7_best_17 : decode cX7_best 17 = .ok (.getfield 27, 3) := by decide +kernel
theorem dX7_best_20 : decode cX7_best 20 = .ok (.invokevirtual 200, 3) := by decide +kernel
theorem dX7_best_23 : decode cX7_best 23 = .ok (.ifCond .eq 6, 3) := by decide +kernel
theorem dX7_best_26 : decode cX7_best 26 = .ok (.bipush (-4), 2) := by decide +kernel
theorem dX7_best_28 : decode cX7_best 28 = .ok (.ireturn, 1) := by decide +kernel
theorem dX7_best_29 : decode cX7_best 29 = .ok (.aload_n 0, 1) := by decide +kernel
theorem dX7_best_30 : decode cX7_best 30 = .ok (.getfield 46, 3) := by decide +kernel
theorem dX7_best_33 : decode cX7_best 33 = .ok (.aload_n 0, 1) := by decide +kernel
theorem dX7_best_34 : decode cX7_best 34 = .ok (.getfield 27, 3) := by decide +kernel
theorem dX7_best_37 : decode cX7_best 37 = .ok (.aload_n 0, 1) := by decide +kernel
theorem dX7_best_38 : decode cX7_best 38 = .ok (.getfield 39, 3) := by decide +kernel
theorem dX7_best_41 : decode cX7_best 41 = .ok (.getfield 156, 3) := by decide +kernel
theorem dX7_best_44 : decode cX7_best 44 = .ok (.iload_n 1, 1) := by decide +kernel
theorem dX7_best_45 : decode cX7_best 45 = .ok (.invokevirtual 230, 3) := by decide +kernel
theorem dX7_best_48 : decode cX7_best 48 = .ok (.istore_n 3, 1) := by decide +kernel
theorem dX7_best_49 : decode cX7_best 49 = .ok (.aload_n 0, 1) := by decide +kernel
theorem dX7_best_50 : decode cX7_best 50 = .ok (.getfield 11, 3) := by decide +kernel
theorem dX7_best_53 : decode cX7_best 53 = .ok (.iload_n 2, 1) := by decide +kernel
theorem dX7_best_54 : decode cX7_best 54 = .ok (.aaload, 1) := by decide +kernel
theorem dX7_best_55 : decode cX7_best 55 = .ok (.iload_n 1, 1) := by decide +kernel
theorem dX7_best_56 : decode cX7_best 56 = .ok (.invokevirtual 86, 3) := by decide +kernel
theorem dX7_best_59 : decode cX7_best 59 = .ok (.iconst 0, 1) := by decide +kernel
theorem dX7_best_60 : decode cX7_best 60 = .ok (.istore 4, 2) := by decide +kernel
theorem dX7_best_62 : decode cX7_best 62 = .ok (.iload 4, 2) := by decide +kernel
theorem dX7_best_64 : decode cX7_best 64 = .ok (.iload_n 1, 1) := by decide +kernel
theorem dX7_best_65 : decode cX7_best 65 = .ok (.if_icmp .ge 31, 3) := by decide +kernel
theorem dX7_best_68 : decode cX7_best 68 = .ok (.aload_n 0, 1) := by decide +kernel
theorem dX7_best_69 : decode cX7_best 69 = .ok (.getfield 11, 3) := by decide +kernel
theorem dX7_best_72 : decode cX7_best 72 = .ok (.iload_n 2, 1) := by decide +kernel
theorem dX7_best_73 : decode cX7_best 73 = .ok (.aaload, 1) := by decide +kernel
theorem dX7_best_74 : decode cX7_best 74 = .ok (.iload 4, 2) := by decide +kernel
theorem dX7_best_76 : decode cX7_best 76 = .ok (.aload_n 0, 1) := by decide +kernel
theorem dX7_best_77 : decode cX7_best 77 = .ok (.getfield 46, 3) := by decide +kernel
theorem dX7_best_80 : decode cX7_best 80 = .ok (.getfield 234, 3) := by decide +kernel
theorem dX7_best_83 : decode cX7_best 83 = .ok (.iload 4, 2) := by decide +kernel
theorem dX7_best_85 : decode cX7_best 85 = .ok (.iaload, 1) := by decide +kernel
theorem dX7_best_86 : decode cX7_best 86 = .ok (.invokevirtual 94, 3) := by decide +kernel
theorem dX7_best_89 : decode cX7_best 89 = .ok (.pop, 1) := by decide +kernel
theorem dX7_best_90 : decode cX7_best 90 = .ok (.iinc 4 1, 3) := by decide +kernel
theorem dX7_best_93 : decode cX7_best 93 = .ok (.goto (-31), 3) := by decide +kernel
theorem dX7_best_96 : decode cX7_best 96 = .ok (.iload_n 3, 1) := by decide +kernel
theorem dX7_best_97 : decode cX7_best 97 = .ok (.ireturn, 1) := by decide +kernel
def P_X7_best_62 (p0 : Nat) (p1 : Int32) (p2 : Int32) (p3 : Int32) : Nat → Int32 → PM Int32
  | 0, _ => failM
  | n + 1, q4 =>
    ifB (decide (p1 ≤ q4)) (
    pureM p3) (
    getR 7 0 p0 fun v12 =>
    aldR v12 p2 fun v13 =>
    getR 7 6 p0 fun v14 =>
    getR 6 2 v14 fun v15 =>
    ald v15 q4 fun v16 =>
    cllV 5 v13 (P_X5_swap v13 q4 v16) fun v17 =>
    P_X7_best_62 p0 p1 p2 p3 n (q4 + 1))
def P_X7_best (a0 : Nat) (x1 : Int32) (x2 : Int32) : PM Int32 :=
cll0 (P_X7_isTurns x1) fun v1 =>
ifB (decide (v1 = 0)) (
pureM ((-1))) (
cll0 (P_X7_isRow x2) fun v2 =>
ifB (decide (¬ v2 = 0)) (
getR 7 3 a0 fun v3 =>
cllV 0 v3 (P_X0_isNobody v3) fun v4 =>
ifB (decide (v4 = 0)) (
getR 7 6 a0 fun v5 =>
getR 7 3 a0 fun v6 =>
getR 7 5 a0 fun v7 =>
getR 3 0 v7 fun v8 =>
cllV 6 v5 (P_X6_strongest v5 v6 v8 x1) fun v9 =>
getR 7 0 a0 fun v10 =>
aldR v10 x2 fun v11 =>
cllV 5 v11 (P_X5_begin v11 x1) fun _ =>
P_X7_best_62 a0 x1 x2 v9 4000 0) (
pureM ((-4)))) (
pureM ((-1))))
set_option maxHeartbeats 4000000 in
set_option maxRecDepth 100000 in
theorem W_X7_best_62 {Γ : Cx} (ok : OKc Γ cX7_best RX7 16 "best") (okr : OKr Γ cX7_best (some .int)) (p0 : Nat) (p1 : Int32) (p2 : Int32) (p3 : Int32) : ∀ (n : Nat) (q4 : Int32), SW Γ iI 62 [some (.ref p0), some (.int p1), some (.int p2), some (.int p3), some (.int q4)] [] (P_X7_best_62 p0 p1 p2 p3 n q4) := by
  intro n
  induction n with
  | zero =>
    intros
    exact sw_fail
  | succ n ih =>
    intro q4
    unfold P_X7_best_62
    refine sw_iload (z := q4) (pc' := 64) ok dX7_best_62 rfl rfl ?_
    refine sw_iload_n (z := p1) (pc' := 65) ok dX7_best_64 rfl rfl ?_
    refine sw_icmp_ge (tgt := 96) (pc' := 68) ok dX7_best_65 (by decide) rfl ?_ ?_
    · refine sw_iload_n (z := p3) (pc' := 97) ok dX7_best_96 rfl rfl ?_
      exact sw_ret ok okr dX7_best_97 trivial rfl
    refine sw_aload_n (z := p0) (pc' := 69) ok dX7_best_68 rfl rfl ?_
    refine sw_getR (pc' := 72) ok (fr_X7_11.g) dX7_best_69 rfl (fun v12 => ?_)
    refine sw_iload_n (z := p2) (pc' := 73) ok dX7_best_72 rfl rfl ?_
    refine sw_aldR (pc' := 74) ok dX7_best_73 rfl (fun v13 => ?_)
    refine sw_iload (z := q4) (pc' := 76) ok dX7_best_74 rfl rfl ?_
    refine sw_aload_n (z := p0) (pc' := 77) ok dX7_best_76 rfl rfl ?_
    refine sw_getR (pc' := 80) ok (fr_X7_46.g) dX7_best_77 rfl (fun v14 => ?_)
    refine sw_getR (pc' := 83) ok (fr_X7_234) dX7_best_80 rfl (fun v15 => ?_)
    refine sw_iload (z := q4) (pc' := 85) ok dX7_best_83 rfl rfl ?_
    refine sw_ald (pc' := 86) ok dX7_best_85 rfl (fun v16 => ?_)
    refine sw_cllV_I (st := []) (as := [.int q4, .int v16]) (pc' := 89) ok (S_X5_swap v13 q4 v16) (by decide) lk_X7_94 rfl dX7_best_86 rfl (Nat.le_of_ble_eq_true rfl) rfl (fun v17 => ?_)
    refine sw_pop (pc' := 90) ok dX7_best_89 rfl rfl ?_
    refine sw_iinc (z := q4) (v := q4 + 1) (pc' := 93) (l' := [some (.ref p0), some (.int p1), some (.int p2), some (.int p3), some (.int (q4 + 1))]) ok dX7_best_90 rfl rfl (by rw [cc_iconst_1]) rfl ?_
    refine sw_goto (tgt := 62) ok dX7_best_93 (by decide) ?_
    exact ih (q4 + 1)
set_option maxHeartbeats 4000000 in
set_option maxRecDepth 100000 in
theorem W_X7_best {Γ : Cx} (ok : OKc Γ cX7_best RX7 16 "best") (okr : OKr Γ cX7_best (some .int)) (a0 : Nat) (x1 : Int32) (x2 : Int32) : SW Γ iI 0 [some (.ref a0), some (.int x1), some (.int x2), none, none] [] (P_X7_best a0 x1 x2) := by
  unfold P_X7_best
  refine sw_iload_n (z := x1) (pc' := 1) ok dX7_best_0 rfl rfl ?_
  refine sw_cll0_I (st := []) (as := [.int x1]) (pc' := 4) ok (S_X7_isTurns x1) (by decide) lk_X7_227 rfl dX7_best_1 rfl (Nat.le_of_ble_eq_true rfl) rfl (fun v1 => ?_)
  refine sw_if_eq (tgt := 14) (pc' := 7) ok dX7_best_4 (by decide) rfl ?_ ?_
  · refine sw_iconst (v := (-1)) (pc' := 15) ok dX7_best_14 rfl cc_iconst_m1 ?_
    exact sw_ret ok okr dX7_best_15 trivial rfl
  refine sw_iload_n (z := x2) (pc' := 8) ok dX7_best_7 rfl rfl ?_
  refine sw_cll0_I (st := []) (as := [.int x2]) (pc' := 11) ok (S_X7_isRow x2) (by decide) lk_X7_78 rfl dX7_best_8 rfl (Nat.le_of_ble_eq_true rfl) rfl (fun v2 => ?_)
  refine sw_if_ne (tgt := 16) (pc' := 14) ok dX7_best_11 (by decide) rfl ?_ ?_
  · refine sw_aload_n (z := a0) (pc' := 17) ok dX7_best_16 rfl rfl ?_
    refine sw_getR (pc' := 20) ok (fr_X7_27.g) dX7_best_17 rfl (fun v3 => ?_)
    refine sw_cllV_I (st := []) (as := []) (pc' := 23) ok (S_X0_isNobody v3) (by decide) lk_X7_200 rfl dX7_best_20 rfl (Nat.le_of_ble_eq_true rfl) rfl (fun v4 => ?_)
    refine sw_if_eq (tgt := 29) (pc' := 26) ok dX7_best_23 (by decide) rfl ?_ ?_
    · refine sw_aload_n (z := a0) (pc' := 30) ok dX7_best_29 rfl rfl ?_
      refine sw_getR (pc' := 33) ok (fr_X7_46.g) dX7_best_30 rfl (fun v5 => ?_)
      refine sw_aload_n (z := a0) (pc' := 34) ok dX7_best_33 rfl rfl ?_
      refine sw_getR (pc' := 37) ok (fr_X7_27.g) dX7_best_34 rfl (fun v6 => ?_)
      refine sw_aload_n (z := a0) (pc' := 38) ok dX7_best_37 rfl rfl ?_
      refine sw_getR (pc' := 41) ok (fr_X7_39.g) dX7_best_38 rfl (fun v7 => ?_)
      refine sw_getR (pc' := 44) ok (fr_X7_156) dX7_best_41 rfl (fun v8 => ?_)
      refine sw_iload_n (z := x1) (pc' := 45) ok dX7_best_44 rfl rfl ?_
      refine sw_cllV_I (st := []) (as := [.ref v6, .ref v8, .int x1]) (pc' := 48) ok (S_X6_strongest v5 v6 v8 x1) (by decide) lk_X7_230 rfl dX7_best_45 rfl (Nat.le_of_ble_eq_true rfl) rfl (fun v9 => ?_)
      refine sw_istore_n (pc' := 49) (l' := [some (.ref a0), some (.int x1), some (.int x2), some (.int v9), none]) ok dX7_best_48 rfl (Nat.le_of_ble_eq_true rfl) rfl ?_
      refine sw_aload_n (z := a0) (pc' := 50) ok dX7_best_49 rfl rfl ?_
      refine sw_getR (pc' := 53) ok (fr_X7_11.g) dX7_best_50 rfl (fun v10 => ?_)
      refine sw_iload_n (z := x2) (pc' := 54) ok dX7_best_53 rfl rfl ?_
      refine sw_aldR (pc' := 55) ok dX7_best_54 rfl (fun v11 => ?_)
      refine sw_iload_n (z := x1) (pc' := 56) ok dX7_best_55 rfl rfl ?_
      refine sw_cllV_U (st := []) (as := [.int x1]) (pc' := 59) ok (S_X5_begin v11 x1) (by decide) lk_X7_86 rfl dX7_best_56 rfl (Nat.le_of_ble_eq_true rfl) rfl (fun _ => ?_)
      refine sw_iconst (v := 0) (pc' := 60) ok dX7_best_59 rfl cc_iconst_0 ?_
      refine sw_istore (pc' := 62) (l' := [some (.ref a0), some (.int x1), some (.int x2), some (.int v9), some (.int 0)]) ok dX7_best_60 rfl (Nat.le_of_ble_eq_true rfl) rfl ?_
      exact W_X7_best_62 ok okr a0 x1 x2 v9 4000 0
    refine sw_bipush (v := (-4)) (pc' := 28) ok dX7_best_26 rfl cc_bipush_m4 ?_
    exact sw_ret ok okr dX7_best_28 trivial rfl
  refine sw_iconst (v := (-1)) (pc' := 15) ok dX7_best_14 rfl cc_iconst_m1 ?_
  exact sw_ret ok okr dX7_best_15 trivial rfl
theorem S_X7_best (a0 : Nat) (x1 : Int32) (x2 : Int32) : Sim 16 yX7_best cX7_best 5 (some .int) iI [.ref a0, .int x1, .int x2] (P_X7_best a0 x1 x2) := Sim.intro wd_1022 (by decide) (by decide +kernel) (Nat.le_of_ble_eq_true rfl) (fun Γ ok okr => W_X7_best ok okr a0 x1 x2)
theorem dX7_refuseWatches_0 : decode cX7_refuseWatches 0 = .ok (.iload_n 1, 1) := by decide +kernel
theorem dX7_refuseWatches_1 : decode cX7_refuseWatches 1 = .ok (.invokestatic 78, 3) := by decide +kernel
theorem dX7_refuseWatches_4 : decode cX7_refuseWatches 4 = .ok (.ifCond .ne 5, 3) := by decide +kernel
theorem dX7_refuseWatches_7 : decode cX7_refuseWatches 7 = .ok (.iconst (-1), 1) := by decide +kernel
theorem dX7_refuseWatches_8 : decode cX7_refuseWatches 8 = .ok (.ireturn, 1) := by decide +kernel
theorem dX7_refuseWatches_9 : decode cX7_refuseWatches 9 = .ok (.aload_n 0, 1) := by decide +kernel
theorem dX7_refuseWatches_10 : decode cX7_refuseWatches 10 = .ok (.getfield 27, 3) := by decide +kernel
theorem dX7_refuseWatches_13 : decode cX7_refuseWatches 13 = .ok (.invokevirtual 200, 3) := by decide +kernel
theorem dX7_refuseWatches_16 : decode cX7_refuseWatches 16 = .ok (.ifCond .eq 6, 3) := by decide +kernel
theorem dX7_refuseWatches_19 : decode cX7_refuseWatches 19 = .ok (.bipush (-4), 2) := by decide +kernel
theorem dX7_refuseWatches_21 : decode cX7_refuseWatches 21 = .ok (.ireturn, 1) := by decide +kernel
theorem dX7_refuseWatches_22 : decode cX7_refuseWatches 22 = .ok (.aload_n 0, 1) := by decide +kernel
theorem dX7_refuseWatches_23 : decode cX7_refuseWatches 23 = .ok (.getfield 11, 3) := by decide +kernel
theorem dX7_refuseWatches_26 : decode cX7_refuseWatches 26 = .ok (.iload_n 1, 1) := by decide +kernel
theorem dX7_refuseWatches_27 : decode cX7_refuseWatches 27 = .ok (.aaload, 1) := by decide +kernel
theorem dX7_refuseWatches_28 : decode cX7_refuseWatches 28 = .ok (.getfield 104, 3) := by decide +kernel
theorem dX7_refuseWatches_31 : decode cX7_refuseWatches 31 = .ok (.ifCond .ne 9, 3) := by decide +kernel
theorem dX7_refuseWatches_34 : decode cX7_refuseWatches 34 = .ok (.aload_n 0, 1) := by decide +kernel
theorem dX7_refuseWatches_35 : decode cX7_refuseWatches 35 = .ok (.iconst 1, 1) := by decide +kernel
theorem dX7_refuseWatches_36 : decode cX7_refuseWatches 36 = .ok (.invokevirtual 82, 3) := by decide +kernel
theorem dX7_refuseWatches_39 : decode cX7_refuseWatches 39 = .ok (.ireturn, 1) := by decide +kernel
theorem dX7_refuseWatches_40 : decode cX7_refuseWatches 40 = .ok (.aload_n 0, 1) := by decide +kernel
theorem dX7_refuseWatches_41 : decode cX7_refuseWatches 41 = .ok (.getfield 11, 3) := by decide +kernel
theorem dX7_refuseWatches_44 : decode cX7_refuseWatches 44 = .ok (.iload_n 1, 1) := by decide +kernel
theorem dX7_refuseWatches_45 : decode cX7_refuseWatches 45 = .ok (.aaload, 1) := by decide +kernel
theorem dX7_refuseWatches_46 : decode cX7_refuseWatches 46 = .ok (.getfield 121, 3) := by decide +kernel
theorem dX7_refuseWatches_49 : decode cX7_refuseWatches 49 = .ok (.bipush 20, 2) := by decide +kernel
theorem dX7_refuseWatches_51 : decode cX7_refuseWatches 51 = .ok (.if_icmp .le 9, 3) := by decide +kernel
theorem dX7_refuseWatches_54 : decode cX7_refuseWatches 54 = .ok (.aload_n 0, 1) := by decide +kernel
theorem dX7_refuseWatches_55 : decode cX7_refuseWatches 55 = .ok (.iconst 5, 1) := by decide +kernel
theorem dX7_refuseWatches_56 : decode cX7_refuseWatches 56 = .ok (.invokevirtual 82, 3) := by decide +kernel
theorem dX7_refuseWatches_59 : decode cX7_refuseWatches 59 = .ok (.ireturn, 1) := by decide +kernel
theorem dX7_refuseWatches_60 : decode cX7_refuseWatches 60 = .ok (.iconst 0, 1) := by decide +kernel
theorem dX7_refuseWatches_61 : decode cX7_refuseWatches 61 = .ok (.istore_n 2, 1) := by decide +kernel
theorem dX7_refuseWatches_62 : decode cX7_refuseWatches 62 = .ok (.iload_n 2, 1) := by decide +kernel
theorem dX7_refuseWatches_63 : decode cX7_refuseWatches 63 = .ok (.aload_n 0, 1) := by decide +kernel
theorem dX7_refuseWatches_64 : decode cX7_refuseWatches 64 = .ok (.getfield 11, 3) := by decide +kernel
theorem dX7_refuseWatches_67 : decode cX7_refuseWatches 67 = .ok (.iload_n 1, 1) := by decide +kernel
theorem dX7_refuseWatches_68 : decode cX7_refuseWatches 68 = .ok (.aaload, 1) := by decide +kernel
theorem dX7_refuseWatches_69 : decode cX7_refuseWatches 69 = .ok (.getfield 121, 3) := by decide +kernel
theorem dX7_refuseWatches_72 : decode cX7_refuseWatches 72 = .ok (.if_icmp .ge 35, 3) := by decide +kernel
theorem dX7_refuseWatches_75 : decode cX7_refuseWatches 75 = .ok (.aload_n 0, 1) := by decide +kernel
theorem dX7_refuseWatches_76 : decode cX7_refuseWatches 76 = .ok (.getfield 27, 3) := by decide +kernel
theorem dX7_refuseWatches_79 : decode cX7_refuseWatches 79 = .ok (.aload_n 0, 1) := by decide +kernel
theorem dX7_refuseWatches_80 : decode cX7_refuseWatches 80 = .ok (.getfield 11, 3) := by decide +kernel
theorem dX7_refuseWatches_83 : decode cX7_refuseWatches 83 = .ok (.iload_n 1, 1) := by decide +kernel
theorem dX7_refuseWatches_84 : decode cX7_refuseWatches 84 = .ok (.aaload, 1) := by decide +kernel
theorem dX7_refuseWatches_85 : decode cX7_refuseWatches 85 = .ok (.iload_n 2, 1) := by decide +kernel
theorem dX7_refuseWatches_86 : decode cX7_refuseWatches 86 = .ok (.invokevirtual 101, 3) := by decide +kernel
theorem dX7_refuseWatches_89 : decode cX7_refuseWatches 89 = .ok (.invokevirtual 369, 3) := by decide +kernel
theorem dX7_refuseWatches_92 : decode cX7_refuseWatches 92 = .ok (.ifCond .ne 9, 3) := by decide +kernel
theorem dX7_refuseWatches_95 : decode cX7_refuseWatches 95 = .ok (.aload_n 0, 1) := by decide +kernel
theorem dX7_refuseWatches_96 : decode cX7_refuseWatches 96 = .ok (.iconst 3, 1) := by decide +kernel
theorem dX7_refuseWatches_97 : decode cX7_refuseWatches 97 = .ok (.invokevirtual 82, 3) := by decide +kernel
theorem dX7_refuseWatches_100 : decode cX7_refuseWatches 100 = .ok (.ireturn, 1) := by decide +kernel
theorem dX7_refuseWatches_101 : decode cX7_refuseWatches 101 = .ok (.iinc 2 1, 3) := by decide +kernel
theorem dX7_refuseWatches_104 : decode cX7_refuseWatches 104 = .ok (.goto (-42), 3) := by decide +kernel
theorem dX7_refuseWatches_107 : decode cX7_refuseWatches 107 = .ok (.iconst 0, 1) := by decide +kernel
theorem dX7_refuseWatches_108 : decode cX7_refuseWatches 108 = .ok (.ireturn, 1) := by decide +kernel
def P_X7_refuseWatches_62 (k_95 : PM Int32) (p0 : Nat) (p1 : Int32) : Nat → Int32 → PM Int32
  | 0, _ => failM
  | n + 1, q2 =>
    getR 7 0 p0 fun v12 =>
    aldR v12 p1 fun v13 =>
    getI 5 2 v13 fun v14 =>
    ifB (decide (v14 ≤ q2)) (
    pureM 0) (
    getR 7 3 p0 fun v15 =>
    getR 7 0 p0 fun v16 =>
    aldR v16 p1 fun v17 =>
    cllV 5 v17 (P_X5_get v17 q2) fun v18 =>
    cllV 0 v15 (P_X0_isWatch v15 v18) fun v19 =>
    ifB (decide (¬ v19 = 0)) (
    P_X7_refuseWatches_62 k_95 p0 p1 n (q2 + 1)) (
    k_95))
def P_X7_refuseWatches (a0 : Nat) (x1 : Int32) : PM Int32 :=
cll0 (P_X7_isRow x1) fun v1 =>
ifB (decide (¬ v1 = 0)) (
getR 7 3 a0 fun v2 =>
cllV 0 v2 (P_X0_isNobody v2) fun v3 =>
ifB (decide (v3 = 0)) (
getR 7 0 a0 fun v4 =>
aldR v4 x1 fun v5 =>
getI 5 3 v5 fun v6 =>
ifB (decide (¬ v6 = 0)) (
getR 7 0 a0 fun v7 =>
aldR v7 x1 fun v8 =>
getI 5 2 v8 fun v9 =>
ifB (decide (v9 ≤ 20)) (
jn (
cllV 7 a0 (P_X7_found a0 3) fun v10 =>
pureM v10) fun k11 =>
P_X7_refuseWatches_62 k11 a0 x1 4000 0) (
cllV 7 a0 (P_X7_found a0 5) fun v20 =>
pureM v20)) (
cllV 7 a0 (P_X7_found a0 1) fun v21 =>
pureM v21)) (
pureM ((-4)))) (
pureM ((-1)))
set_option maxHeartbeats 4000000 in
set_option maxRecDepth 100000 in
theorem W_X7_refuseWatches_62 {Γ : Cx} (ok : OKc Γ cX7_refuseWatches RX7 2 "refuseWatches") (okr : OKr Γ cX7_refuseWatches (some .int)) (k_95 : PM Int32) (p0 : Nat) (p1 : Int32) (hk_95 : SW Γ iI 95 [some (.ref p0), none, none] [] (k_95)) : ∀ (n : Nat) (q2 : Int32), SW Γ iI 62 [some (.ref p0), some (.int p1), some (.int q2)] [] (P_X7_refuseWatches_62 k_95 p0 p1 n q2) := by
  intro n
  induction n with
  | zero =>
    intros
    exact sw_fail
  | succ n ih =>
    intro q2
    unfold P_X7_refuseWatches_62
    refine sw_iload_n (z := q2) (pc' := 63) ok dX7_refuseWatches_62 rfl rfl ?_
    refine sw_aload_n (z := p0) (pc' := 64) ok dX7_refuseWatches_63 rfl rfl ?_
    refine sw_getR (pc' := 67) ok (fr_X7_11.g) dX7_refuseWatches_64 rfl (fun v12 => ?_)
    refine sw_iload_n (z := p1) (pc' := 68) ok dX7_refuseWatches_67 rfl rfl ?_
    refine sw_aldR (pc' := 69) ok dX7_refuseWatches_68 rfl (fun v13 => ?_)
    refine sw_getI (pc' := 72) ok (fr_X7_121.g) dX7_refuseWatches_69 rfl (fun v14 => ?_)
    refine sw_icmp_ge (tgt := 107) (pc' := 75) ok dX7_refuseWatches_72 (by decide) rfl ?_ ?_
    · refine sw_iconst (v := 0) (pc' := 108) ok dX7_refuseWatches_107 rfl cc_iconst_0 ?_
      exact sw_ret ok okr dX7_refuseWatches_108 trivial rfl
    refine sw_aload_n (z := p0) (pc' := 76) ok dX7_refuseWatches_75 rfl rfl ?_
    refine sw_getR (pc' := 79) ok (fr_X7_27.g) dX7_refuseWatches_76 rfl (fun v15 => ?_)
    refine sw_aload_n (z := p0) (pc' := 80) ok dX7_refuseWatches_79 rfl rfl ?_
    refine sw_getR (pc' := 83) ok (fr_X7_11.g) dX7_refuseWatches_80 rfl (fun v16 => ?_)
    refine sw_iload_n (z := p1) (pc' := 84) ok dX7_refuseWatches_83 rfl rfl ?_
    refine sw_aldR (pc' := 85) ok dX7_refuseWatches_84 rfl (fun v17 => ?_)
    refine sw_iload_n (z := q2) (pc' := 86) ok dX7_refuseWatches_85 rfl rfl ?_
    refine sw_cllV_I (st := [.ref v15]) (as := [.int q2]) (pc' := 89) ok (S_X5_get v17 q2) (by decide) lk_X7_101 rfl dX7_refuseWatches_86 rfl (Nat.le_of_ble_eq_true rfl) rfl (fun v18 => ?_)
    refine sw_cllV_I (st := []) (as := [.int v18]) (pc' := 92) ok (S_X0_isWatch v15 v18) (by decide) lk_X7_369 rfl dX7_refuseWatches_89 rfl (Nat.le_of_ble_eq_true rfl) rfl (fun v19 => ?_)
    refine sw_if_ne (tgt := 101) (pc' := 95) ok dX7_refuseWatches_92 (by decide) rfl ?_ ?_
    · refine sw_iinc (z := q2) (v := q2 + 1) (pc' := 104) (l' := [some (.ref p0), some (.int p1), some (.int (q2 + 1))]) ok dX7_refuseWatches_101 rfl rfl (by rw [cc_iconst_1]) rfl ?_
      refine sw_goto (tgt := 62) ok dX7_refuseWatches_104 (by decide) ?_
      exact ih (q2 + 1)
    refine sw_fg (l' := [some (.ref p0), none, none]) [true, false, false] rfl ?_
    exact hk_95
set_option maxHeartbeats 4000000 in
set_option maxRecDepth 100000 in
theorem W_X7_refuseWatches {Γ : Cx} (ok : OKc Γ cX7_refuseWatches RX7 2 "refuseWatches") (okr : OKr Γ cX7_refuseWatches (some .int)) (a0 : Nat) (x1 : Int32) : SW Γ iI 0 [some (.ref a0), some (.int x1), none] [] (P_X7_refuseWatches a0 x1) := by
  unfold P_X7_refuseWatches
  refine sw_iload_n (z := x1) (pc' := 1) ok dX7_refuseWatches_0 rfl rfl ?_
  refine sw_cll0_I (st := []) (as := [.int x1]) (pc' := 4) ok (S_X7_isRow x1) (by decide) lk_X7_78 rfl dX7_refuseWatches_1 rfl (Nat.le_of_ble_eq_true rfl) rfl (fun v1 => ?_)
  refine sw_if_ne (tgt := 9) (pc' := 7) ok dX7_refuseWatches_4 (by decide) rfl ?_ ?_
  · refine sw_aload_n (z := a0) (pc' := 10) ok dX7_refuseWatches_9 rfl rfl ?_
    refine sw_getR (pc' := 13) ok (fr_X7_27.g) dX7_refuseWatches_10 rfl (fun v2 => ?_)
    refine sw_cllV_I (st := []) (as := []) (pc' := 16) ok (S_X0_isNobody v2) (by decide) lk_X7_200 rfl dX7_refuseWatches_13 rfl (Nat.le_of_ble_eq_true rfl) rfl (fun v3 => ?_)
    refine sw_if_eq (tgt := 22) (pc' := 19) ok dX7_refuseWatches_16 (by decide) rfl ?_ ?_
    · refine sw_aload_n (z := a0) (pc' := 23) ok dX7_refuseWatches_22 rfl rfl ?_
      refine sw_getR (pc' := 26) ok (fr_X7_11.g) dX7_refuseWatches_23 rfl (fun v4 => ?_)
      refine sw_iload_n (z := x1) (pc' := 27) ok dX7_refuseWatches_26 rfl rfl ?_
      refine sw_aldR (pc' := 28) ok dX7_refuseWatches_27 rfl (fun v5 => ?_)
      refine sw_getI (pc' := 31) ok (fr_X7_104.g) dX7_refuseWatches_28 rfl (fun v6 => ?_)
      refine sw_if_ne (tgt := 40) (pc' := 34) ok dX7_refuseWatches_31 (by decide) rfl ?_ ?_
      · refine sw_aload_n (z := a0) (pc' := 41) ok dX7_refuseWatches_40 rfl rfl ?_
        refine sw_getR (pc' := 44) ok (fr_X7_11.g) dX7_refuseWatches_41 rfl (fun v7 => ?_)
        refine sw_iload_n (z := x1) (pc' := 45) ok dX7_refuseWatches_44 rfl rfl ?_
        refine sw_aldR (pc' := 46) ok dX7_refuseWatches_45 rfl (fun v8 => ?_)
        refine sw_getI (pc' := 49) ok (fr_X7_121.g) dX7_refuseWatches_46 rfl (fun v9 => ?_)
        refine sw_bipush (v := 20) (pc' := 51) ok dX7_refuseWatches_49 rfl cc_bipush_20 ?_
        refine sw_icmp_le (tgt := 60) (pc' := 54) ok dX7_refuseWatches_51 (by decide) rfl ?_ ?_
        · refine sw_iconst (v := 0) (pc' := 61) ok dX7_refuseWatches_60 rfl cc_iconst_0 ?_
          refine sw_istore_n (pc' := 62) (l' := [some (.ref a0), some (.int x1), some (.int 0)]) ok dX7_refuseWatches_61 rfl (Nat.le_of_ble_eq_true rfl) rfl ?_
          refine sw_jn (fun k11 : PM Int32 => SW Γ iI 95 [some (.ref a0), none, none] [] (k11)) ?_ (fun k11 hk11 => ?_)
          · refine sw_aload_n (z := a0) (pc' := 96) ok dX7_refuseWatches_95 rfl rfl ?_
            refine sw_iconst (v := 3) (pc' := 97) ok dX7_refuseWatches_96 rfl cc_iconst_3 ?_
            refine sw_cllV_I (st := []) (as := [.int 3]) (pc' := 100) ok (S_X7_found a0 3) (by decide) lk_X7_82 rfl dX7_refuseWatches_97 rfl (Nat.le_of_ble_eq_true rfl) rfl (fun v10 => ?_)
            exact sw_ret ok okr dX7_refuseWatches_100 trivial rfl
          exact W_X7_refuseWatches_62 ok okr k11 a0 x1 hk11 4000 0
        refine sw_aload_n (z := a0) (pc' := 55) ok dX7_refuseWatches_54 rfl rfl ?_
        refine sw_iconst (v := 5) (pc' := 56) ok dX7_refuseWatches_55 rfl cc_iconst_5 ?_
        refine sw_cllV_I (st := []) (as := [.int 5]) (pc' := 59) ok (S_X7_found a0 5) (by decide) lk_X7_82 rfl dX7_refuseWatches_56 rfl (Nat.le_of_ble_eq_true rfl) rfl (fun v20 => ?_)
        exact sw_ret ok okr dX7_refuseWatches_59 trivial rfl
      refine sw_aload_n (z := a0) (pc' := 35) ok dX7_refuseWatches_34 rfl rfl ?_
      refine sw_iconst (v := 1) (pc' := 36) ok dX7_refuseWatches_35 rfl cc_iconst_1 ?_
      refine sw_cllV_I (st := []) (as := [.int 1]) (pc' := 39) ok (S_X7_found a0 1) (by decide) lk_X7_82 rfl dX7_refuseWatches_36 rfl (Nat.le_of_ble_eq_true rfl) rfl (fun v21 => ?_)
      exact sw_ret ok okr dX7_refuseWatches_39 trivial rfl
    refine sw_bipush (v := (-4)) (pc' := 21) ok dX7_refuseWatches_19 rfl cc_bipush_m4 ?_
    exact sw_ret ok okr dX7_refuseWatches_21 trivial rfl
  refine sw_iconst (v := (-1)) (pc' := 8) ok dX7_refuseWatches_7 rfl cc_iconst_m1 ?_
  exact sw_ret ok okr dX7_refuseWatches_8 trivial rfl
theorem S_X7_refuseWatches (a0 : Nat) (x1 : Int32) : Sim 2 yX7_refuseWatches cX7_refuseWatches 3 (some .int) iI [.ref a0, .int x1] (P_X7_refuseWatches a0 x1) := Sim.intro wd_1023 (by decide) (by decide +kernel) (Nat.le_of_ble_eq_true rfl) (fun Γ ok okr => W_X7_refuseWatches ok okr a0 x1)
theorem dX7_through_0 : decode cX7_through 0 = .ok (.aload_n 0, 1) := by decide +kernel
theorem dX7_through_1 : decode cX7_through 1 = .ok (.iload_n 1, 1) := by decide +kernel
theorem dX7_through_2 : decode cX7_through 2 = .ok (.invokevirtual 237, 3) := by decide +kernel
theorem dX7_through_5 : decode cX7_through 5 = .ok (.istore_n 2, 1) := by decide +kernel
theorem dX7_through_6 : decode cX7_through 6 = .ok (.iload_n 2, 1) := by decide +kernel
theorem dX7_through_7 : decode cX7_through 7 = .ok (.ifCond .ge 5, 3) := by decide +kernel
theorem dX7_through_10 : decode cX7_through 10 = .ok (.iload_n 2, 1) := by decide +kernel
theorem dX7_through_11 : decode cX7_through 11 = .ok (.ireturn, 1) := by decide +kernel
theorem dX7_through_12 : decode cX7_through 12 = .ok (.aload_n 0, 1) := by decide +kernel
theorem dX7_through_13 : decode cX7_through 13 = .ok (.getfield 46, 3) := by decide +kernel
theorem dX7_through_16 : decode cX7_through 16 = .ok (.aload_n 0, 1) := by decide +kernel
theorem dX7_through_17 : decode cX7_through 17 = .ok (.getfield 39, 3) := by decide +kernel
theorem dX7_through_20 : decode cX7_through 20 = .ok (.getfield 156, 3) := by decide +kernel
theorem dX7_through_23 : decode cX7_through 23 = .ok (.invokevirtual 240, 3) := by decide +kernel
theorem dX7_through_26 : decode cX7_through 26 = .ok (.astore_n 3, 1) := by decide +kernel
theorem dX7_through_27 : decode cX7_through 27 = .ok (.aload_n 3, 1) := by decide +kernel
theorem dX7_through_28 : decode cX7_through 28 = .ok (.getfield 244, 3) := by decide +kernel
theorem dX7_through_31 : decode cX7_through 31 = .ok (.istore 4, 2) := by decide +kernel
theorem dX7_through_33 : decode cX7_through 33 = .ok (.iconst 0, 1) := by decide +kernel
theorem dX7_through_34 : decode cX7_through 34 = .ok (.istore 5, 2) := by decide +kernel
theorem dX7_through_36 : decode cX7_through 36 = .ok (.iload 5, 2) := by decide +kernel
theorem dX7_through_38 : decode cX7_through 38 = .ok (.aload_n 0, 1) := by decide +kernel
theorem dX7_through_39 : decode cX7_through 39 = .ok (.getfield 11, 3) := by decide +kernel
theorem dX7_through_42 : decode cX7_through 42 = .ok (.iload_n 1, 1) := by decide +kernel
theorem dX7_through_43 : decode cX7_through 43 = .ok (.aaload, 1) := by decide +kernel
theorem dX7_through_44 : decode cX7_through 44 = .ok (.getfield 121, 3) := by decide +kernel
theorem dX7_through_47 : decode cX7_through 47 = .ok (.if_icmp .ge 56, 3) := by decide +kernel
theorem dX7_through_50 : decode cX7_through 50 = .ok (.aload_n 3, 1) := by decide +kernel
theorem dX7_through_51 : decode cX7_through 51 = .ok (.aload_n 0, 1) := by decide +kernel
theorem dX7_through_52 : decode cX7_through 52 = .ok (.getfield 27, 3) := by decide +kernel
theorem dX7_through_55 : decode cX7_through 55 = .ok (.aload_n 0, 1) := by decide +kernel
theorem dX7_through_56 : decode cX7_through 56 = .ok (.getfield 11, 3) := by decide +kernel
theorem dX7_through_59 : decode cX7_through 59 = .ok (.iload_n 1, 1) := by decide +kernel
theorem dX7_through_60 : decode cX7_through 60 = .ok (.aaload, 1) := by decide +kernel
theorem dX7_through_61 : decode cX7_through 61 = .ok (.iload 5, 2) := by decide +kernel
theorem dX7_through_63 : decode cX7_through 63 = .ok (.invokevirtual 101, 3) := by decide +kernel
theorem dX7_through_66 : decode cX7_through 66 = .ok (.bipush 10, 2) := by decide +kernel
theorem dX7_through_68 : decode cX7_through 68 = .ok (.idiv, 1) := by decide +kernel
theorem dX7_through_69 : decode cX7_through 69 = .ok (.aload_n 0, 1) := by decide +kernel
theorem dX7_through_70 : decode cX7_through 70 = .ok (.getfield 11, 3) := by decide +kernel
theorem dX7_through_73 : decode cX7_through 73 = .ok (.iload_n 1, 1) := by decide +kernel
theorem dX7_through_74 : decode cX7_through 74 = .ok (.aaload, 1) := by decide +kernel
theorem dX7_through_75 : decode cX7_through 75 = .ok (.iload 5, 2) := by decide +kernel
theorem dX7_through_77 : decode cX7_through 77 = .ok (.invokevirtual 101, 3) := by decide +kernel
theorem dX7_through_80 : decode cX7_through 80 = .ok (.bipush 10, 2) := by decide +kernel
theorem dX7_through_82 : decode cX7_through 82 = .ok (.irem, 1) := by decide +kernel
theorem dX7_through_83 : decode cX7_through 83 = .ok (.invokevirtual 247, 3) := by decide +kernel
theorem dX7_through_86 : decode cX7_through 86 = .ok (.iload 4, 2) := by decide +kernel
theorem dX7_through_88 : decode cX7_through 88 = .ok (.aload_n 3, 1) := by decide +kernel
theorem dX7_through_89 : decode cX7_through 89 = .ok (.getfield 244, 3) := by decide +kernel
theorem dX7_through_92 : decode cX7_through 92 = .ok (.invokestatic 251, 3) := by decide +kernel
theorem dX7_through_95 : decode cX7_through 95 = .ok (.istore 4, 2) := by decide +kernel
theorem dX7_through_97 : decode cX7_through 97 = .ok (.iinc 5 1, 3) := by decide +kernel
theorem dX7_through_100 : decode cX7_through 100 = .ok (.goto (-64), 3) := by decide +kernel
theorem dX7_through_103 : decode cX7_through 103 = .ok (.aload_n 0, 1) := by decide +kernel
theorem dX7_through_104 : decode cX7_through 104 = .ok (.iload 4, 2) := by decide +kernel
theorem dX7_through_106 : decode cX7_through 106 = .ok (.invokevirtual 98, 3) := by decide +kernel
theorem dX7_through_109 : decode cX7_through 109 = .ok (.pop, 1) := by decide +kernel
theorem dX7_through_110 : decode cX7_through 110 = .ok (.aload_n 3, 1) := by decide +kernel
theorem dX7_through_111 : decode cX7_through 111 = .ok (.getfield 244, 3) := by decide +kernel
theorem dX7_through_114 : decode cX7_through 114 = .ok (.ireturn, 1) := by decide +kernel
def P_X7_through_36 (k_103 : Int32 → PM Int32) (p0 : Nat) (p1 : Int32) (p3 : Nat) : Nat → Int32 → Int32 → PM Int32
  | 0, _, _ => failM
  | n + 1, q4, q5 =>
    getR 7 0 p0 fun v11 =>
    aldR v11 p1 fun v12 =>
    getI 5 2 v12 fun v13 =>
    ifB (decide (v13 ≤ q5)) (
    k_103 q4) (
    getR 7 3 p0 fun v14 =>
    getR 7 0 p0 fun v15 =>
    aldR v15 p1 fun v16 =>
    cllV 5 v16 (P_X5_get v16 q5) fun v17 =>
    divI v17 10 fun v18 =>
    getR 7 0 p0 fun v19 =>
    aldR v19 p1 fun v20 =>
    cllV 5 v20 (P_X5_get v20 q5) fun v21 =>
    remI v21 10 fun v22 =>
    cllV 1 p3 (P_X1_passWatch p3 v14 v18 v22) fun _ =>
    getI 1 2 p3 fun v23 =>
    cll0 (P_J9_min_7cf53 q4 v23) fun v24 =>
    P_X7_through_36 k_103 p0 p1 p3 n v24 (q5 + 1))
def P_X7_through (a0 : Nat) (x1 : Int32) : PM Int32 :=
cllV 7 a0 (P_X7_refuseWatches a0 x1) fun v1 =>
ifB (decide (0 ≤ v1)) (
getR 7 6 a0 fun v2 =>
getR 7 5 a0 fun v3 =>
getR 3 0 v3 fun v4 =>
cllV 6 v2 (P_X6_beginAside v2 v4) fun v5 =>
getI 1 2 v5 fun v6 =>
jn (fun (e7 : Int32) =>
cllV 7 a0 (P_X7_tellAsked a0 e7) fun v8 =>
getI 1 2 v5 fun v9 =>
pureM v9) fun k10 =>
P_X7_through_36 k10 a0 x1 v5 4000 v6 0) (
pureM v1)
set_option maxHeartbeats 4000000 in
set_option maxRecDepth 100000 in
theorem W_X7_through_36 {Γ : Cx} (ok : OKc Γ cX7_through RX7 4 "through") (okr : OKr Γ cX7_through (some .int)) (k_103 : Int32 → PM Int32) (p0 : Nat) (p1 : Int32) (p3 : Nat) (hk_103 : ∀ (y4 : Int32), SW Γ iI 103 [some (.ref p0), none, none, some (.ref p3), some (.int y4), none] [] (k_103 y4)) : ∀ (n : Nat) (q4 : Int32) (q5 : Int32), SW Γ iI 36 [some (.ref p0), some (.int p1), none, some (.ref p3), some (.int q4), some (.int q5)] [] (P_X7_through_36 k_103 p0 p1 p3 n q4 q5) := by
  intro n
  induction n with
  | zero =>
    intros
    exact sw_fail
  | succ n ih =>
    intro q4 q5
    unfold P_X7_through_36
    refine sw_iload (z := q5) (pc' := 38) ok dX7_through_36 rfl rfl ?_
    refine sw_aload_n (z := p0) (pc' := 39) ok dX7_through_38 rfl rfl ?_
    refine sw_getR (pc' := 42) ok (fr_X7_11.g) dX7_through_39 rfl (fun v11 => ?_)
    refine sw_iload_n (z := p1) (pc' := 43) ok dX7_through_42 rfl rfl ?_
    refine sw_aldR (pc' := 44) ok dX7_through_43 rfl (fun v12 => ?_)
    refine sw_getI (pc' := 47) ok (fr_X7_121.g) dX7_through_44 rfl (fun v13 => ?_)
    refine sw_icmp_ge (tgt := 103) (pc' := 50) ok dX7_through_47 (by decide) rfl ?_ ?_
    · refine sw_fg (l' := [some (.ref p0), none, none, some (.ref p3), some (.int q4), none]) [true, false, false, true, true, false] rfl ?_
      exact hk_103 q4
    refine sw_aload_n (z := p3) (pc' := 51) ok dX7_through_50 rfl rfl ?_
    refine sw_aload_n (z := p0) (pc' := 52) ok dX7_through_51 rfl rfl ?_
    refine sw_getR (pc' := 55) ok (fr_X7_27.g) dX7_through_52 rfl (fun v14 => ?_)
    refine sw_aload_n (z := p0) (pc' := 56) ok dX7_through_55 rfl rfl ?_
    refine sw_getR (pc' := 59) ok (fr_X7_11.g) dX7_through_56 rfl (fun v15 => ?_)
    refine sw_iload_n (z := p1) (pc' := 60) ok dX7_through_59 rfl rfl ?_
    refine sw_aldR (pc' := 61) ok dX7_through_60 rfl (fun v16 => ?_)
    refine sw_iload (z := q5) (pc' := 63) ok dX7_through_61 rfl rfl ?_
    refine sw_cllV_I (st := [.ref v14, .ref p3]) (as := [.int q5]) (pc' := 66) ok (S_X5_get v16 q5) (by decide) lk_X7_101 rfl dX7_through_63 rfl (Nat.le_of_ble_eq_true rfl) rfl (fun v17 => ?_)
    refine sw_bipush (v := 10) (pc' := 68) ok dX7_through_66 rfl cc_bipush_10 ?_
    refine sw_divI (pc' := 69) ok dX7_through_68 rfl (fun v18 => ?_)
    refine sw_aload_n (z := p0) (pc' := 70) ok dX7_through_69 rfl rfl ?_
    refine sw_getR (pc' := 73) ok (fr_X7_11.g) dX7_through_70 rfl (fun v19 => ?_)
    refine sw_iload_n (z := p1) (pc' := 74) ok dX7_through_73 rfl rfl ?_
    refine sw_aldR (pc' := 75) ok dX7_through_74 rfl (fun v20 => ?_)
    refine sw_iload (z := q5) (pc' := 77) ok dX7_through_75 rfl rfl ?_
    refine sw_cllV_I (st := [.int v18, .ref v14, .ref p3]) (as := [.int q5]) (pc' := 80) ok (S_X5_get v20 q5) (by decide) lk_X7_101 rfl dX7_through_77 rfl (Nat.le_of_ble_eq_true rfl) rfl (fun v21 => ?_)
    refine sw_bipush (v := 10) (pc' := 82) ok dX7_through_80 rfl cc_bipush_10 ?_
    refine sw_remI (pc' := 83) ok dX7_through_82 rfl (fun v22 => ?_)
    refine sw_cllV_U (st := []) (as := [.ref v14, .int v18, .int v22]) (pc' := 86) ok (S_X1_passWatch p3 v14 v18 v22) (by decide) lk_X7_247 rfl dX7_through_83 rfl (Nat.le_of_ble_eq_true rfl) rfl (fun _ => ?_)
    refine sw_iload (z := q4) (pc' := 88) ok dX7_through_86 rfl rfl ?_
    refine sw_aload_n (z := p3) (pc' := 89) ok dX7_through_88 rfl rfl ?_
    refine sw_getI (pc' := 92) ok (fr_X7_244.g) dX7_through_89 rfl (fun v23 => ?_)
    refine sw_cll0_I (st := []) (as := [.int q4, .int v23]) (pc' := 95) ok (S_J9_min_7cf53 q4 v23) (by decide) lk_X7_251 rfl dX7_through_92 rfl (Nat.le_of_ble_eq_true rfl) rfl (fun v24 => ?_)
    refine sw_istore (pc' := 97) (l' := [some (.ref p0), some (.int p1), none, some (.ref p3), some (.int v24), some (.int q5)]) ok dX7_through_95 rfl (Nat.le_of_ble_eq_true rfl) rfl ?_
    refine sw_iinc (z := q5) (v := q5 + 1) (pc' := 100) (l' := [some (.ref p0), some (.int p1), none, some (.ref p3), some (.int v24), some (.int (q5 + 1))]) ok dX7_through_97 rfl rfl (by rw [cc_iconst_1]) rfl ?_
    refine sw_goto (tgt := 36) ok dX7_through_100 (by decide) ?_
    exact ih v24 (q5 + 1)
set_option maxHeartbeats 4000000 in
set_option maxRecDepth 100000 in
theorem W_X7_through {Γ : Cx} (ok : OKc Γ cX7_through RX7 4 "through") (okr : OKr Γ cX7_through (some .int)) (a0 : Nat) (x1 : Int32) : SW Γ iI 0 [some (.ref a0), some (.int x1), none, none, none, none] [] (P_X7_through a0 x1) := by
  unfold P_X7_through
  refine sw_aload_n (z := a0) (pc' := 1) ok dX7_through_0 rfl rfl ?_
  refine sw_iload_n (z := x1) (pc' := 2) ok dX7_through_1 rfl rfl ?_
  refine sw_cllV_I (st := []) (as := [.int x1]) (pc' := 5) ok (S_X7_refuseWatches a0 x1) (by decide) lk_X7_237 rfl dX7_through_2 rfl (Nat.le_of_ble_eq_true rfl) rfl (fun v1 => ?_)
  refine sw_istore_n (pc' := 6) (l' := [some (.ref a0), some (.int x1), some (.int v1), none, none, none]) ok dX7_through_5 rfl (Nat.le_of_ble_eq_true rfl) rfl ?_
  refine sw_iload_n (z := v1) (pc' := 7) ok dX7_through_6 rfl rfl ?_
  refine sw_if_ge (tgt := 12) (pc' := 10) ok dX7_through_7 (by decide) rfl ?_ ?_
  · refine sw_aload_n (z := a0) (pc' := 13) ok dX7_through_12 rfl rfl ?_
    refine sw_getR (pc' := 16) ok (fr_X7_46.g) dX7_through_13 rfl (fun v2 => ?_)
    refine sw_aload_n (z := a0) (pc' := 17) ok dX7_through_16 rfl rfl ?_
    refine sw_getR (pc' := 20) ok (fr_X7_39.g) dX7_through_17 rfl (fun v3 => ?_)
    refine sw_getR (pc' := 23) ok (fr_X7_156) dX7_through_20 rfl (fun v4 => ?_)
    refine sw_cllV_R (st := []) (as := [.ref v4]) (pc' := 26) ok (S_X6_beginAside v2 v4) (by decide) lk_X7_240 rfl dX7_through_23 rfl (Nat.le_of_ble_eq_true rfl) rfl (fun v5 => ?_)
    refine sw_astore_n (pc' := 27) (l' := [some (.ref a0), some (.int x1), some (.int v1), some (.ref v5), none, none]) ok dX7_through_26 rfl (Nat.le_of_ble_eq_true rfl) rfl ?_
    refine sw_aload_n (z := v5) (pc' := 28) ok dX7_through_27 rfl rfl ?_
    refine sw_getI (pc' := 31) ok (fr_X7_244.g) dX7_through_28 rfl (fun v6 => ?_)
    refine sw_istore (pc' := 33) (l' := [some (.ref a0), some (.int x1), some (.int v1), some (.ref v5), some (.int v6), none]) ok dX7_through_31 rfl (Nat.le_of_ble_eq_true rfl) rfl ?_
    refine sw_iconst (v := 0) (pc' := 34) ok dX7_through_33 rfl cc_iconst_0 ?_
    refine sw_istore (pc' := 36) (l' := [some (.ref a0), some (.int x1), some (.int v1), some (.ref v5), some (.int v6), some (.int 0)]) ok dX7_through_34 rfl (Nat.le_of_ble_eq_true rfl) rfl ?_
    refine sw_jn (fun k10 : Int32 → PM Int32 => ∀ (e7 : Int32), SW Γ iI 103 [some (.ref a0), none, none, some (.ref v5), some (.int e7), none] [] (k10 e7)) ?_ (fun k10 hk10 => ?_)
    · intro e7
      refine sw_aload_n (z := a0) (pc' := 104) ok dX7_through_103 rfl rfl ?_
      refine sw_iload (z := e7) (pc' := 106) ok dX7_through_104 rfl rfl ?_
      refine sw_cllV_I (st := []) (as := [.int e7]) (pc' := 109) ok (S_X7_tellAsked a0 e7) (by decide) lk_X7_98 rfl dX7_through_106 rfl (Nat.le_of_ble_eq_true rfl) rfl (fun v8 => ?_)
      refine sw_pop (pc' := 110) ok dX7_through_109 rfl rfl ?_
      refine sw_aload_n (z := v5) (pc' := 111) ok dX7_through_110 rfl rfl ?_
      refine sw_getI (pc' := 114) ok (fr_X7_244.g) dX7_through_111 rfl (fun v9 => ?_)
      exact sw_ret ok okr dX7_through_114 trivial rfl
    refine sw_fg (l' := [some (.ref a0), some (.int x1), none, some (.ref v5), some (.int v6), some (.int 0)]) [true, true, false, true, true, true] rfl ?_
    exact W_X7_through_36 ok okr k10 a0 x1 v5 hk10 4000 v6 0
  refine sw_iload_n (z := v1) (pc' := 11) ok dX7_through_10 rfl rfl ?_
  exact sw_ret ok okr dX7_through_11 trivial rfl
theorem S_X7_through (a0 : Nat) (x1 : Int32) : Sim 4 yX7_through cX7_through 6 (some .int) iI [.ref a0, .int x1] (P_X7_through a0 x1) := Sim.intro wd_1024 (by decide) (by decide +kernel) (Nat.le_of_ble_eq_true rfl) (fun Γ ok okr => W_X7_through ok okr a0 x1)
theorem dX7_when_0 : decode cX7_when 0 = .ok (.iload_n 2, 1) := by decide +kernel
theorem dX7_when_1 : decode cX7_when 1 = .ok (.invokestatic 197, 3) := by decide +kernel
theorem dX7_when_4 : decode cX7_when 4 = .ok (.ifCond .ne 5, 3) := by decide +kernel
theorem dX7_when_7 : decode cX7_when 7 = .ok (.iconst (-1), 1) := by decide +kernel
theorem dX7_when_8 : decode cX7_when 8 = .ok (.ireturn, 1) := by decide +kernel
theorem dX7_when_9 : decode cX7_when 9 = .ok (.aload_n 0, 1) := by decide +kernel
theorem dX7_when_10 : decode cX7_when 10 = .ok (.iload_n 1, 1) := by decide +kernel
theorem dX7_when_11 : decode cX7_when 11 = .ok (.invokevirtual 237, 3) := by decide +kernel
theorem dX7_when_14 : decode cX7_when 14 = .ok (.istore_n 3, 1) := by decide +kernel
theorem dX7_when_15 : decode cX7_when 15 = .ok (.iload_n 3, 1) := by decide +kernel
theorem dX7_when_16 : decode cX7_when 16 = .ok (.ifCond .ge 5, 3) := by decide +kernel
theorem dX7_when_19 : decode cX7_when 19 = .ok (.iload_n 3, 1) := by decide +kernel
theorem dX7_when_20 : decode cX7_when 20 = .ok (.ireturn, 1) := by decide +kernel
theorem dX7_when_21 : decode cX7_when 21 = .ok (.aload_n 0, 1) := by decide +kernel
theorem dX7_when_22 : decode cX7_when 22 = .ok (.getfield 46, 3) := by decide +kernel
theorem dX7_when_25 : decode cX7_when 25 = .ok (.aload_n 0, 1) := by decide +kernel
theorem dX7_when_26 : decode cX7_when 26 = .ok (.getfield 39, 3) := by decide +kernel
theorem dX7_when_29 : decode cX7_when 29 = .ok (.getfield 156, 3) := by decide +kernel
theorem dX7_when_32 : decode cX7_when 32 = .ok (.invokevirtual 240, 3) := by decide +kernel
theorem dX7_when_35 : decode cX7_when 35 = .ok (.astore 4, 2) := by decide +kernel
theorem dX7_when_37 : decode cX7_when 37 = .ok (.iconst 0, 1) := by decide +kernel
theorem dX7_when_38 : decode cX7_when 38 = .ok (.istore 5, 2) := by decide +kernel
theorem dX7_when_40 : decode cX7_when 40 = .ok (.iload 5, 2) := by decide +kernel
theorem dX7_when_42 : decode cX7_when 42 = .ok (.aload_n 0, 1) := by decide +kernel
theorem dX7_when_43 : decode cX7_when 43 = .ok (.getfield 11, 3) := by decide +kernel
theorem dX7_when_46 : decode cX7_when 46 = .ok (.iload_n 1, 1) := by decide +kernel
theorem dX7_when_47 : decode cX7_when 47 = .ok (.aaload, 1) := by decide +kernel
theorem dX7_when_48 : decode cX7_when 48 = .ok (.getfield 121, 3) := by decide +kernel
theorem dX7_when_51 : decode cX7_when 51 = .ok (.if_icmp .ge 58, 3) := by decide +kernel
theorem dX7_when_54 : decode cX7_when 54 = .ok (.aload 4, 2) := by decide +kernel
theorem dX7_when_56 : decode cX7_when 56 = .ok (.getfield 244, 3) := by decide +kernel
theorem dX7_when_59 : decode cX7_when 59 = .ok (.iload_n 2, 1) := by decide +kernel
theorem dX7_when_60 : decode cX7_when 60 = .ok (.if_icmp .lt 6, 3) := by decide +kernel
theorem dX7_when_63 : decode cX7_when 63 = .ok (.iload 5, 2) := by decide +kernel
theorem dX7_when_65 : decode cX7_when 65 = .ok (.ireturn, 1) := by decide +kernel
theorem dX7_when_66 : decode cX7_when 66 = .ok (.aload 4, 2) := by decide +kernel
theorem dX7_when_68 : decode cX7_when 68 = .ok (.aload_n 0, 1) := by decide +kernel
theorem dX7_when_69 : decode cX7_when 69 = .ok (.getfield 27, 3) := by decide +kernel
theorem dX7_when_72 : decode cX7_when 72 = .ok (.aload_n 0, 1) := by decide +kernel
theorem dX7_when_73 : decode cX7_when 73 = .ok (.getfield 11, 3) := by decide +kernel
theorem dX7_when_76 : decode cX7_when 76 = .ok (.iload_n 1, 1) := by decide +kernel
theorem dX7_when_77 : decode cX7_when 77 = .ok (.aaload, 1) := by decide +kernel
theorem dX7_when_78 : decode cX7_when 78 = .ok (.iload 5, 2) := by decide +kernel
theorem dX7_when_80 : decode cX7_when 80 = .ok (.invokevirtual 101, 3) := by decide +kernel
theorem dX7_when_83 : decode cX7_when 83 = .ok (.bipush 10, 2) := by decide +kernel
theorem dX7_when_85 : decode cX7_when 85 = .ok (.idiv, 1) := by decide +kernel
theorem dX7_when_86 : decode cX7_when 86 = .ok (.aload_n 0, 1) := by decide +kernel
theorem dX7_when_87 : decode cX7_when 87 = .ok (.getfield 11, 3) := by decide +kernel
theorem dX7_when_90 : decode cX7_when 90 = .ok (.iload_n 1, 1) := by decide +kernel
theorem dX7_when_91 : decode cX7_when 91 = .ok (.aaload, 1) := by decide +kernel
theorem dX7_when_92 : decode cX7_when 92 = .ok (.iload 5, 2) := by decide +kernel
theorem dX7_when_94 : decode cX7_when 94 = .ok (.invokevirtual 101, 3) := by decide +kernel
theorem dX7_when_97 : decode cX7_when 97 = .ok (.bipush 10, 2) := by decide +kernel
theorem dX7_when_99 : decode cX7_when 99 = .ok (.irem, 1) := by decide +kernel
theorem dX7_when_100 : decode cX7_when 100 = .ok (.invokevirtual 247, 3) := by decide +kernel
theorem dX7_when_103 : decode cX7_when 103 = .ok (.iinc 5 1, 3) := by decide +kernel
theorem dX7_when_106 : decode cX7_when 106 = .ok (.goto (-66), 3) := by decide +kernel
theorem dX7_when_109 : decode cX7_when 109 = .ok (.aload 4, 2) := by decide +kernel
theorem dX7_when_111 : decode cX7_when 111 = .ok (.getfield 244, 3) := by decide +kernel
theorem dX7_when_114 : decode cX7_when 114 = .ok (.iload_n 2, 1) := by decide +kernel
theorem dX7_when_115 : decode cX7_when 115 = .ok (.if_icmp .lt 15, 3) := by decide +kernel
theorem dX7_when_118 : decode cX7_when 118 = .ok (.aload_n 0, 1) := by decide +kernel
theorem dX7_when_119 : decode cX7_when 119 = .ok (.getfield 11, 3) := by decide +kernel
theorem dX7_when_122 : decode cX7_when 122 = .ok (.iload_n 1, 1) := by decide +kernel
theorem dX7_when_123 : decode cX7_when 123 = .ok (.aaload, 1) := by decide +kernel
theorem dX7_when_124 : decode cX7_when 124 = .ok (.getfield 121, 3) := by decide +kernel
theorem dX7_when_127 : decode cX7_when 127 = .ok (.goto 5, 3) := by decide +kernel
theorem dX7_when_130 : decode cX7_when 130 = .ok (.bipush (-9), 2) := by decide +kernel
theorem dX7_when_132 : decode cX7_when 132 = .ok (.ireturn, 1) := by decide +kernel
def P_X7_when_40 (k_109 : PM Int32) (p0 : Nat) (p1 : Int32) (p2 : Int32) (p4 : Nat) : Nat → Int32 → PM Int32
  | 0, _ => failM
  | n + 1, q5 =>
    getR 7 0 p0 fun v12 =>
    aldR v12 p1 fun v13 =>
    getI 5 2 v13 fun v14 =>
    ifB (decide (v14 ≤ q5)) (
    k_109) (
    getI 1 2 p4 fun v15 =>
    ifB (decide (v15 < p2)) (
    getR 7 3 p0 fun v16 =>
    getR 7 0 p0 fun v17 =>
    aldR v17 p1 fun v18 =>
    cllV 5 v18 (P_X5_get v18 q5) fun v19 =>
    divI v19 10 fun v20 =>
    getR 7 0 p0 fun v21 =>
    aldR v21 p1 fun v22 =>
    cllV 5 v22 (P_X5_get v22 q5) fun v23 =>
    remI v23 10 fun v24 =>
    cllV 1 p4 (P_X1_passWatch p4 v16 v20 v24) fun _ =>
    P_X7_when_40 k_109 p0 p1 p2 p4 n (q5 + 1)) (
    pureM q5))
def P_X7_when (a0 : Nat) (x1 : Int32) (x2 : Int32) : PM Int32 :=
cll0 (P_X7_isStrength x2) fun v1 =>
ifB (decide (¬ v1 = 0)) (
cllV 7 a0 (P_X7_refuseWatches a0 x1) fun v2 =>
ifB (decide (0 ≤ v2)) (
getR 7 6 a0 fun v3 =>
getR 7 5 a0 fun v4 =>
getR 3 0 v4 fun v5 =>
cllV 6 v3 (P_X6_beginAside v3 v5) fun v6 =>
jn (
getI 1 2 v6 fun v7 =>
ifB (decide (v7 < x2)) (
pureM ((-9))) (
getR 7 0 a0 fun v8 =>
aldR v8 x1 fun v9 =>
getI 5 2 v9 fun v10 =>
pureM v10)) fun k11 =>
P_X7_when_40 k11 a0 x1 x2 v6 4000 0) (
pureM v2)) (
pureM ((-1)))
set_option maxHeartbeats 4000000 in
set_option maxRecDepth 100000 in
theorem W_X7_when_40 {Γ : Cx} (ok : OKc Γ cX7_when RX7 4 "when") (okr : OKr Γ cX7_when (some .int)) (k_109 : PM Int32) (p0 : Nat) (p1 : Int32) (p2 : Int32) (p4 : Nat) (hk_109 : SW Γ iI 109 [some (.ref p0), some (.int p1), some (.int p2), none, some (.ref p4), none] [] (k_109)) : ∀ (n : Nat) (q5 : Int32), SW Γ iI 40 [some (.ref p0), some (.int p1), some (.int p2), none, some (.ref p4), some (.int q5)] [] (P_X7_when_40 k_109 p0 p1 p2 p4 n q5) := by
  intro n
  induction n with
  | zero =>
    intros
    exact sw_fail
  | succ n ih =>
    intro q5
    unfold P_X7_when_40
    refine sw_iload (z := q5) (pc' := 42) ok dX7_when_40 rfl rfl ?_
    refine sw_aload_n (z := p0) (pc' := 43) ok dX7_when_42 rfl rfl ?_
    refine sw_getR (pc' := 46) ok (fr_X7_11.g) dX7_when_43 rfl (fun v12 => ?_)
    refine sw_iload_n (z := p1) (pc' := 47) ok dX7_when_46 rfl rfl ?_
    refine sw_aldR (pc' := 48) ok dX7_when_47 rfl (fun v13 => ?_)
    refine sw_getI (pc' := 51) ok (fr_X7_121.g) dX7_when_48 rfl (fun v14 => ?_)
    refine sw_icmp_ge (tgt := 109) (pc' := 54) ok dX7_when_51 (by decide) rfl ?_ ?_
    · refine sw_fg (l' := [some (.ref p0), some (.int p1), some (.int p2), none, some (.ref p4), none]) [true, true, true, false, true, false] rfl ?_
      exact hk_109
    refine sw_aload (z := p4) (pc' := 56) ok dX7_when_54 rfl rfl ?_
    refine sw_getI (pc' := 59) ok (fr_X7_244.g) dX7_when_56 rfl (fun v15 => ?_)
    refine sw_iload_n (z := p2) (pc' := 60) ok dX7_when_59 rfl rfl ?_
    refine sw_icmp_lt (tgt := 66) (pc' := 63) ok dX7_when_60 (by decide) rfl ?_ ?_
    · refine sw_aload (z := p4) (pc' := 68) ok dX7_when_66 rfl rfl ?_
      refine sw_aload_n (z := p0) (pc' := 69) ok dX7_when_68 rfl rfl ?_
      refine sw_getR (pc' := 72) ok (fr_X7_27.g) dX7_when_69 rfl (fun v16 => ?_)
      refine sw_aload_n (z := p0) (pc' := 73) ok dX7_when_72 rfl rfl ?_
      refine sw_getR (pc' := 76) ok (fr_X7_11.g) dX7_when_73 rfl (fun v17 => ?_)
      refine sw_iload_n (z := p1) (pc' := 77) ok dX7_when_76 rfl rfl ?_
      refine sw_aldR (pc' := 78) ok dX7_when_77 rfl (fun v18 => ?_)
      refine sw_iload (z := q5) (pc' := 80) ok dX7_when_78 rfl rfl ?_
      refine sw_cllV_I (st := [.ref v16, .ref p4]) (as := [.int q5]) (pc' := 83) ok (S_X5_get v18 q5) (by decide) lk_X7_101 rfl dX7_when_80 rfl (Nat.le_of_ble_eq_true rfl) rfl (fun v19 => ?_)
      refine sw_bipush (v := 10) (pc' := 85) ok dX7_when_83 rfl cc_bipush_10 ?_
      refine sw_divI (pc' := 86) ok dX7_when_85 rfl (fun v20 => ?_)
      refine sw_aload_n (z := p0) (pc' := 87) ok dX7_when_86 rfl rfl ?_
      refine sw_getR (pc' := 90) ok (fr_X7_11.g) dX7_when_87 rfl (fun v21 => ?_)
      refine sw_iload_n (z := p1) (pc' := 91) ok dX7_when_90 rfl rfl ?_
      refine sw_aldR (pc' := 92) ok dX7_when_91 rfl (fun v22 => ?_)
      refine sw_iload (z := q5) (pc' := 94) ok dX7_when_92 rfl rfl ?_
      refine sw_cllV_I (st := [.int v20, .ref v16, .ref p4]) (as := [.int q5]) (pc' := 97) ok (S_X5_get v22 q5) (by decide) lk_X7_101 rfl dX7_when_94 rfl (Nat.le_of_ble_eq_true rfl) rfl (fun v23 => ?_)
      refine sw_bipush (v := 10) (pc' := 99) ok dX7_when_97 rfl cc_bipush_10 ?_
      refine sw_remI (pc' := 100) ok dX7_when_99 rfl (fun v24 => ?_)
      refine sw_cllV_U (st := []) (as := [.ref v16, .int v20, .int v24]) (pc' := 103) ok (S_X1_passWatch p4 v16 v20 v24) (by decide) lk_X7_247 rfl dX7_when_100 rfl (Nat.le_of_ble_eq_true rfl) rfl (fun _ => ?_)
      refine sw_iinc (z := q5) (v := q5 + 1) (pc' := 106) (l' := [some (.ref p0), some (.int p1), some (.int p2), none, some (.ref p4), some (.int (q5 + 1))]) ok dX7_when_103 rfl rfl (by rw [cc_iconst_1]) rfl ?_
      refine sw_goto (tgt := 40) ok dX7_when_106 (by decide) ?_
      exact ih (q5 + 1)
    refine sw_iload (z := q5) (pc' := 65) ok dX7_when_63 rfl rfl ?_
    exact sw_ret ok okr dX7_when_65 trivial rfl
set_option maxHeartbeats 4000000 in
set_option maxRecDepth 100000 in
theorem W_X7_when {Γ : Cx} (ok : OKc Γ cX7_when RX7 4 "when") (okr : OKr Γ cX7_when (some .int)) (a0 : Nat) (x1 : Int32) (x2 : Int32) : SW Γ iI 0 [some (.ref a0), some (.int x1), some (.int x2), none, none, none] [] (P_X7_when a0 x1 x2) := by
  unfold P_X7_when
  refine sw_iload_n (z := x2) (pc' := 1) ok dX7_when_0 rfl rfl ?_
  refine sw_cll0_I (st := []) (as := [.int x2]) (pc' := 4) ok (S_X7_isStrength x2) (by decide) lk_X7_197 rfl dX7_when_1 rfl (Nat.le_of_ble_eq_true rfl) rfl (fun v1 => ?_)
  refine sw_if_ne (tgt := 9) (pc' := 7) ok dX7_when_4 (by decide) rfl ?_ ?_
  · refine sw_aload_n (z := a0) (pc' := 10) ok dX7_when_9 rfl rfl ?_
    refine sw_iload_n (z := x1) (pc' := 11) ok dX7_when_10 rfl rfl ?_
    refine sw_cllV_I (st := []) (as := [.int x1]) (pc' := 14) ok (S_X7_refuseWatches a0 x1) (by decide) lk_X7_237 rfl dX7_when_11 rfl (Nat.le_of_ble_eq_true rfl) rfl (fun v2 => ?_)
    refine sw_istore_n (pc' := 15) (l' := [some (.ref a0), some (.int x1), some (.int x2), some (.int v2), none, none]) ok dX7_when_14 rfl (Nat.le_of_ble_eq_true rfl) rfl ?_
    refine sw_iload_n (z := v2) (pc' := 16) ok dX7_when_15 rfl rfl ?_
    refine sw_if_ge (tgt := 21) (pc' := 19) ok dX7_when_16 (by decide) rfl ?_ ?_
    · refine sw_aload_n (z := a0) (pc' := 22) ok dX7_when_21 rfl rfl ?_
      refine sw_getR (pc' := 25) ok (fr_X7_46.g) dX7_when_22 rfl (fun v3 => ?_)
      refine sw_aload_n (z := a0) (pc' := 26) ok dX7_when_25 rfl rfl ?_
      refine sw_getR (pc' := 29) ok (fr_X7_39.g) dX7_when_26 rfl (fun v4 => ?_)
      refine sw_getR (pc' := 32) ok (fr_X7_156) dX7_when_29 rfl (fun v5 => ?_)
      refine sw_cllV_R (st := []) (as := [.ref v5]) (pc' := 35) ok (S_X6_beginAside v3 v5) (by decide) lk_X7_240 rfl dX7_when_32 rfl (Nat.le_of_ble_eq_true rfl) rfl (fun v6 => ?_)
      refine sw_astore (pc' := 37) (l' := [some (.ref a0), some (.int x1), some (.int x2), some (.int v2), some (.ref v6), none]) ok dX7_when_35 rfl (Nat.le_of_ble_eq_true rfl) rfl ?_
      refine sw_iconst (v := 0) (pc' := 38) ok dX7_when_37 rfl cc_iconst_0 ?_
      refine sw_istore (pc' := 40) (l' := [some (.ref a0), some (.int x1), some (.int x2), some (.int v2), some (.ref v6), some (.int 0)]) ok dX7_when_38 rfl (Nat.le_of_ble_eq_true rfl) rfl ?_
      refine sw_jn (fun k11 : PM Int32 => SW Γ iI 109 [some (.ref a0), some (.int x1), some (.int x2), none, some (.ref v6), none] [] (k11)) ?_ (fun k11 hk11 => ?_)
      · refine sw_aload (z := v6) (pc' := 111) ok dX7_when_109 rfl rfl ?_
        refine sw_getI (pc' := 114) ok (fr_X7_244.g) dX7_when_111 rfl (fun v7 => ?_)
        refine sw_iload_n (z := x2) (pc' := 115) ok dX7_when_114 rfl rfl ?_
        refine sw_icmp_lt (tgt := 130) (pc' := 118) ok dX7_when_115 (by decide) rfl ?_ ?_
        · refine sw_bipush (v := (-9)) (pc' := 132) ok dX7_when_130 rfl cc_bipush_m9 ?_
          exact sw_ret ok okr dX7_when_132 trivial rfl
        refine sw_aload_n (z := a0) (pc' := 119) ok dX7_when_118 rfl rfl ?_
        refine sw_getR (pc' := 122) ok (fr_X7_11.g) dX7_when_119 rfl (fun v8 => ?_)
        refine sw_iload_n (z := x1) (pc' := 123) ok dX7_when_122 rfl rfl ?_
        refine sw_aldR (pc' := 124) ok dX7_when_123 rfl (fun v9 => ?_)
        refine sw_getI (pc' := 127) ok (fr_X7_121.g) dX7_when_124 rfl (fun v10 => ?_)
        refine sw_goto (tgt := 132) ok dX7_when_127 (by decide) ?_
        exact sw_ret ok okr dX7_when_132 trivial rfl
      refine sw_fg (l' := [some (.ref a0), some (.int x1), some (.int x2), none, some (.ref v6), some (.int 0)]) [true, true, true, false, true, true] rfl ?_
      exact W_X7_when_40 ok okr k11 a0 x1 x2 v6 hk11 4000 0
    refine sw_iload_n (z := v2) (pc' := 20) ok dX7_when_19 rfl rfl ?_
    exact sw_ret ok okr dX7_when_20 trivial rfl
  refine sw_iconst (v := (-1)) (pc' := 8) ok dX7_when_7 rfl cc_iconst_m1 ?_
  exact sw_ret ok okr dX7_when_8 trivial rfl
theorem S_X7_when (a0 : Nat) (x1 : Int32) (x2 : Int32) : Sim 4 yX7_when cX7_when 6 (some .int) iI [.ref a0, .int x1, .int x2] (P_X7_when a0 x1 x2) := Sim.intro wd_1025 (by decide) (by decide +kernel) (Nat.le_of_ble_eq_true rfl) (fun Γ ok okr => W_X7_when ok okr a0 x1 x2)
theorem dX7_refuseStrengths_0 : decode cX7_refuseStrengths 0 = .ok (.iload_n 1, 1) := by decide +kernel
theorem dX7_refuseStrengths_1 : decode cX7_refuseStrengths 1 = .ok (.invokestatic 78, 3) := by decide +kernel
theorem dX7_refuseStrengths_4 : decode cX7_refuseStrengths 4 = .ok (.ifCond .ne 5, 3) := by decide +kernel
theorem dX7_refuseStrengths_7 : decode cX7_refuseStrengths 7 = .ok (.iconst (-1), 1) := by decide +kernel
theorem dX7_refuseStrengths_8 : decode cX7_refuseStrengths 8 = .ok (.ireturn, 1) := by decide +kernel
theorem dX7_refuseStrengths_9 : decode cX7_refuseStrengths 9 = .ok (.aload_n 0, 1) := by decide +kernel
theorem dX7_refuseStrengths_10 : decode cX7_refuseStrengths 10 = .ok (.getfield 27, 3) := by decide +kernel
theorem dX7_refuseStrengths_13 : decode cX7_refuseStrengths 13 = .ok (.invokevirtual 200, 3) := by decide +kernel
theorem dX7_refuseStrengths_16 : decode cX7_refuseStrengths 16 = .ok (.ifCond .eq 6, 3) := by decide +kernel
theorem dX7_refuseStrengths_19 : decode cX7_refuseStrengths 19 = .ok (.bipush (-4), 2) := by decide +kernel
theorem dX7_refuseStrengths_21 : decode cX7_refuseStrengths 21 = .ok (.ireturn, 1) := by decide +kernel
theorem dX7_refuseStrengths_22 : decode cX7_refuseStrengths 22 = .ok (.aload_n 0, 1) := by decide +kernel
theorem dX7_refuseStrengths_23 : decode cX7_refuseStrengths 23 = .ok (.getfield 11, 3) := by decide +kernel
theorem dX7_refuseStrengths_26 : decode cX7_refuseStrengths 26 = .ok (.iload_n 1, 1) := by decide +kernel
theorem dX7_refuseStrengths_27 : decode cX7_refuseStrengths 27 = .ok (.aaload, 1) := by decide +kernel
theorem dX7_refuseStrengths_28 : decode cX7_refuseStrengths 28 = .ok (.getfield 104, 3) := by decide +kernel
theorem dX7_refuseStrengths_31 : decode cX7_refuseStrengths 31 = .ok (.ifCond .ne 9, 3) := by decide +kernel
theorem dX7_refuseStrengths_34 : decode cX7_refuseStrengths 34 = .ok (.aload_n 0, 1) := by decide +kernel
theorem dX7_refuseStrengths_35 : decode cX7_refuseStrengths 35 = .ok (.iconst 1, 1) := by decide +kernel
theorem dX7_refuseStrengths_36 : decode cX7_refuseStrengths 36 = .ok (.invokevirtual 82, 3) := by decide +kernel
theorem dX7_refuseStrengths_39 : decode cX7_refuseStrengths 39 = .ok (.ireturn, 1) := by decide +kernel
theorem dX7_refuseStrengths_40 : decode cX7_refuseStrengths 40 = .ok (.aload_n 0, 1) := by decide +kernel
theorem dX7_refuseStrengths_41 : decode cX7_refuseStrengths 41 = .ok (.getfield 11, 3) := by decide +kernel
theorem dX7_refuseStrengths_44 : decode cX7_refuseStrengths 44 = .ok (.iload_n 1, 1) := by decide +kernel
theorem dX7_refuseStrengths_45 : decode cX7_refuseStrengths 45 = .ok (.aaload, 1) := by decide +kernel
theorem dX7_refuseStrengths_46 : decode cX7_refuseStrengths 46 = .ok (.getfield 121, 3) := by decide +kernel
theorem dX7_refuseStrengths_49 : decode cX7_refuseStrengths 49 = .ok (.iconst 1, 1) := by decide +kernel
theorem dX7_refuseStrengths_50 : decode cX7_refuseStrengths 50 = .ok (.if_icmp .lt 16, 3) := by decide +kernel
theorem dX7_refuseStrengths_53 : decode cX7_refuseStrengths 53 = .ok (.aload_n 0, 1) := by decide +kernel
theorem dX7_refuseStrengths_54 : decode cX7_refuseStrengths 54 = .ok (.getfield 11, 3) := by decide +kernel
theorem dX7_refuseStrengths_57 : decode cX7_refuseStrengths 57 = .ok (.iload_n 1, 1) := by decide +kernel
theorem dX7_refuseStrengths_58 : decode cX7_refuseStrengths 58 = .ok (.aaload, 1) := by decide +kernel
theorem dX7_refuseStrengths_59 : decode cX7_refuseStrengths 59 = .ok (.getfield 121, 3) := by decide +kernel
theorem dX7_refuseStrengths_62 : decode cX7_refuseStrengths 62 = .ok (.iconst 3, 1) := by decide +kernel
theorem dX7_refuseStrengths_63 : decode cX7_refuseStrengths 63 = .ok (.if_icmp .le 9, 3) := by decide +kernel
theorem dX7_refuseStrengths_66 : decode cX7_refuseStrengths 66 = .ok (.aload_n 0, 1) := by decide +kernel
theorem dX7_refuseStrengths_67 : decode cX7_refuseStrengths 67 = .ok (.iconst 5, 1) := by decide +kernel
theorem dX7_refuseStrengths_68 : decode cX7_refuseStrengths 68 = .ok (.invokevirtual 82, 3) := by decide +kernel
theorem dX7_refuseStrengths_71 : decode cX7_refuseStrengths 71 = .ok (.ireturn, 1) := by decide +kernel
theorem dX7_refuseStrengths_72 : decode cX7_refuseStrengths 72 = .ok (.iconst 0, 1) := by decide +kernel
theorem dX7_refuseStrengths_73 : decode cX7_refuseStrengths 73 = .ok (.istore_n 2, 1) := by decide +kernel
theorem dX7_refuseStrengths_74 : decode cX7_refuseStrengths 74 = .ok (.iload_n 2, 1) := by decide +kernel
theorem dX7_refuseStrengths_75 : decode cX7_refuseStrengths 75 = .ok (.aload_n 0, 1) := by decide +kernel
theorem dX7_refuseStrengths_76 : decode cX7_refuseStrengths 76 = .ok (.getfield 11, 3) := by decide +kernel
theorem dX7_refuseStrengths_79 : decode cX7_refuseStrengths 79 = .ok (.iload_n 1, 1) := by decide +kernel
theorem dX7_refuseStrengths_80 : decode cX7_refuseStrengths 80 = .ok (.aaload, 1) := by decide +kernel
theorem dX7_refuseStrengths_81 : decode cX7_refuseStrengths 81 = .ok (.getfield 121, 3) := by decide +kernel
theorem dX7_refuseStrengths_84 : decode cX7_refuseStrengths 84 = .ok (.if_icmp .ge 31, 3) := by decide +kernel
theorem dX7_refuseStrengths_87 : decode cX7_refuseStrengths 87 = .ok (.aload_n 0, 1) := by decide +kernel
theorem dX7_refuseStrengths_88 : decode cX7_refuseStrengths 88 = .ok (.getfield 11, 3) := by decide +kernel
theorem dX7_refuseStrengths_91 : decode cX7_refuseStrengths 91 = .ok (.iload_n 1, 1) := by decide +kernel
theorem dX7_refuseStrengths_92 : decode cX7_refuseStrengths 92 = .ok (.aaload, 1) := by decide +kernel
theorem dX7_refuseStrengths_93 : decode cX7_refuseStrengths 93 = .ok (.iload_n 2, 1) := by decide +kernel
theorem dX7_refuseStrengths_94 : decode cX7_refuseStrengths 94 = .ok (.invokevirtual 101, 3) := by decide +kernel
theorem dX7_refuseStrengths_97 : decode cX7_refuseStrengths 97 = .ok (.invokestatic 197, 3) := by decide +kernel
theorem dX7_refuseStrengths_100 : decode cX7_refuseStrengths 100 = .ok (.ifCond .ne 9, 3) := by decide +kernel
theorem dX7_refuseStrengths_103 : decode cX7_refuseStrengths 103 = .ok (.aload_n 0, 1) := by decide +kernel
theorem dX7_refuseStrengths_104 : decode cX7_refuseStrengths 104 = .ok (.iconst 3, 1) := by decide +kernel
theorem dX7_refuseStrengths_105 : decode cX7_refuseStrengths 105 = .ok (.invokevirtual 82, 3) := by decide +kernel
theorem dX7_refuseStrengths_108 : decode cX7_refuseStrengths 108 = .ok (.ireturn, 1) := by decide +kernel
theorem dX7_refuseStrengths_109 : decode cX7_refuseStrengths 109 = .ok (.iinc 2 1, 3) := by decide +kernel
theorem dX7_refuseStrengths_112 : decode cX7_refuseStrengths 112 = .ok (.goto (-38), 3) := by decide +kernel
theorem dX7_refuseStrengths_115 : decode cX7_refuseStrengths 115 = .ok (.iconst 0, 1) := by decide +kernel
theorem dX7_refuseStrengths_116 : decode cX7_refuseStrengths 116 = .ok (.ireturn, 1) := by decide +kernel
def P_X7_refuseStrengths_74 (k_103 : PM Int32) (p0 : Nat) (p1 : Int32) : Nat → Int32 → PM Int32
  | 0, _ => failM
  | n + 1, q2 =>
    getR 7 0 p0 fun v17 =>
    aldR v17 p1 fun v18 =>
    getI 5 2 v18 fun v19 =>
    ifB (decide (v19 ≤ q2)) (
    pureM 0) (
    getR 7 0 p0 fun v20 =>
    aldR v20 p1 fun v21 =>
    cllV 5 v21 (P_X5_get v21 q2) fun v22 =>
    cll0 (P_X7_isStrength v22) fun v23 =>
    ifB (decide (¬ v23 = 0)) (
    P_X7_refuseStrengths_74 k_103 p0 p1 n (q2 + 1)) (
    k_103))
def P_X7_refuseStrengths (a0 : Nat) (x1 : Int32) : PM Int32 :=
cll0 (P_X7_isRow x1) fun v1 =>
ifB (decide (¬ v1 = 0)) (
getR 7 3 a0 fun v2 =>
cllV 0 v2 (P_X0_isNobody v2) fun v3 =>
ifB (decide (v3 = 0)) (
getR 7 0 a0 fun v4 =>
aldR v4 x1 fun v5 =>
getI 5 3 v5 fun v6 =>
ifB (decide (¬ v6 = 0)) (
getR 7 0 a0 fun v7 =>
aldR v7 x1 fun v8 =>
getI 5 2 v8 fun v9 =>
jn (
cllV 7 a0 (P_X7_found a0 5) fun v10 =>
pureM v10) fun k11 =>
ifB (decide (v9 < 1)) (
k11) (
getR 7 0 a0 fun v12 =>
aldR v12 x1 fun v13 =>
getI 5 2 v13 fun v14 =>
ifB (decide (v14 ≤ 3)) (
jn (
cllV 7 a0 (P_X7_found a0 3) fun v15 =>
pureM v15) fun k16 =>
P_X7_refuseStrengths_74 k16 a0 x1 4000 0) (
k11))) (
cllV 7 a0 (P_X7_found a0 1) fun v24 =>
pureM v24)) (
pureM ((-4)))) (
pureM ((-1)))
set_option maxHeartbeats 4000000 in
set_option maxRecDepth 100000 in
theorem W_X7_refuseStrengths_74 {Γ : Cx} (ok : OKc Γ cX7_refuseStrengths RX7 2 "refuseStrengths") (okr : OKr Γ cX7_refuseStrengths (some .int)) (k_103 : PM Int32) (p0 : Nat) (p1 : Int32) (hk_103 : SW Γ iI 103 [some (.ref p0), none, none] [] (k_103)) : ∀ (n : Nat) (q2 : Int32), SW Γ iI 74 [some (.ref p0), some (.int p1), some (.int q2)] [] (P_X7_refuseStrengths_74 k_103 p0 p1 n q2) := by
  intro n
  induction n with
  | zero =>
    intros
    exact sw_fail
  | succ n ih =>
    intro q2
    unfold P_X7_refuseStrengths_74
    refine sw_iload_n (z := q2) (pc' := 75) ok dX7_refuseStrengths_74 rfl rfl ?_
    refine sw_aload_n (z := p0) (pc' := 76) ok dX7_refuseStrengths_75 rfl rfl ?_
    refine sw_getR (pc' := 79) ok (fr_X7_11.g) dX7_refuseStrengths_76 rfl (fun v17 => ?_)
    refine sw_iload_n (z := p1) (pc' := 80) ok dX7_refuseStrengths_79 rfl rfl ?_
    refine sw_aldR (pc' := 81) ok dX7_refuseStrengths_80 rfl (fun v18 => ?_)
    refine sw_getI (pc' := 84) ok (fr_X7_121.g) dX7_refuseStrengths_81 rfl (fun v19 => ?_)
    refine sw_icmp_ge (tgt := 115) (pc' := 87) ok dX7_refuseStrengths_84 (by decide) rfl ?_ ?_
    · refine sw_iconst (v := 0) (pc' := 116) ok dX7_refuseStrengths_115 rfl cc_iconst_0 ?_
      exact sw_ret ok okr dX7_refuseStrengths_116 trivial rfl
    refine sw_aload_n (z := p0) (pc' := 88) ok dX7_refuseStrengths_87 rfl rfl ?_
    refine sw_getR (pc' := 91) ok (fr_X7_11.g) dX7_refuseStrengths_88 rfl (fun v20 => ?_)
    refine sw_iload_n (z := p1) (pc' := 92) ok dX7_refuseStrengths_91 rfl rfl ?_
    refine sw_aldR (pc' := 93) ok dX7_refuseStrengths_92 rfl (fun v21 => ?_)
    refine sw_iload_n (z := q2) (pc' := 94) ok dX7_refuseStrengths_93 rfl rfl ?_
    refine sw_cllV_I (st := []) (as := [.int q2]) (pc' := 97) ok (S_X5_get v21 q2) (by decide) lk_X7_101 rfl dX7_refuseStrengths_94 rfl (Nat.le_of_ble_eq_true rfl) rfl (fun v22 => ?_)
    refine sw_cll0_I (st := []) (as := [.int v22]) (pc' := 100) ok (S_X7_isStrength v22) (by decide) lk_X7_197 rfl dX7_refuseStrengths_97 rfl (Nat.le_of_ble_eq_true rfl) rfl (fun v23 => ?_)
    refine sw_if_ne (tgt := 109) (pc' := 103) ok dX7_refuseStrengths_100 (by decide) rfl ?_ ?_
    · refine sw_iinc (z := q2) (v := q2 + 1) (pc' := 112) (l' := [some (.ref p0), some (.int p1), some (.int (q2 + 1))]) ok dX7_refuseStrengths_109 rfl rfl (by rw [cc_iconst_1]) rfl ?_
      refine sw_goto (tgt := 74) ok dX7_refuseStrengths_112 (by decide) ?_
      exact ih (q2 + 1)
    refine sw_fg (l' := [some (.ref p0), none, none]) [true, false, false] rfl ?_
    exact hk_103
set_option maxHeartbeats 4000000 in
set_option maxRecDepth 100000 in
theorem W_X7_refuseStrengths {Γ : Cx} (ok : OKc Γ cX7_refuseStrengths RX7 2 "refuseStrengths") (okr : OKr Γ cX7_refuseStrengths (some .int)) (a0 : Nat) (x1 : Int32) : SW Γ iI 0 [some (.ref a0), some (.int x1), none] [] (P_X7_refuseStrengths a0 x1) := by
  unfold P_X7_refuseStrengths
  refine sw_iload_n (z := x1) (pc' := 1) ok dX7_refuseStrengths_0 rfl rfl ?_
  refine sw_cll0_I (st := []) (as := [.int x1]) (pc' := 4) ok (S_X7_isRow x1) (by decide) lk_X7_78 rfl dX7_refuseStrengths_1 rfl (Nat.le_of_ble_eq_true rfl) rfl (fun v1 => ?_)
  refine sw_if_ne (tgt := 9) (pc' := 7) ok dX7_refuseStrengths_4 (by decide) rfl ?_ ?_
  · refine sw_aload_n (z := a0) (pc' := 10) ok dX7_refuseStrengths_9 rfl rfl ?_
    refine sw_getR (pc' := 13) ok (fr_X7_27.g) dX7_refuseStrengths_10 rfl (fun v2 => ?_)
    refine sw_cllV_I (st := []) (as := []) (pc' := 16) ok (S_X0_isNobody v2) (by decide) lk_X7_200 rfl dX7_refuseStrengths_13 rfl (Nat.le_of_ble_eq_true rfl) rfl (fun v3 => ?_)
    refine sw_if_eq (tgt := 22) (pc' := 19) ok dX7_refuseStrengths_16 (by decide) rfl ?_ ?_
    · refine sw_aload_n (z := a0) (pc' := 23) ok dX7_refuseStrengths_22 rfl rfl ?_
      refine sw_getR (pc' := 26) ok (fr_X7_11.g) dX7_refuseStrengths_23 rfl (fun v4 => ?_)
      refine sw_iload_n (z := x1) (pc' := 27) ok dX7_refuseStrengths_26 rfl rfl ?_
      refine sw_aldR (pc' := 28) ok dX7_refuseStrengths_27 rfl (fun v5 => ?_)
      refine sw_getI (pc' := 31) ok (fr_X7_104.g) dX7_refuseStrengths_28 rfl (fun v6 => ?_)
      refine sw_if_ne (tgt := 40) (pc' := 34) ok dX7_refuseStrengths_31 (by decide) rfl ?_ ?_
      · refine sw_aload_n (z := a0) (pc' := 41) ok dX7_refuseStrengths_40 rfl rfl ?_
        refine sw_getR (pc' := 44) ok (fr_X7_11.g) dX7_refuseStrengths_41 rfl (fun v7 => ?_)
        refine sw_iload_n (z := x1) (pc' := 45) ok dX7_refuseStrengths_44 rfl rfl ?_
        refine sw_aldR (pc' := 46) ok dX7_refuseStrengths_45 rfl (fun v8 => ?_)
        refine sw_getI (pc' := 49) ok (fr_X7_121.g) dX7_refuseStrengths_46 rfl (fun v9 => ?_)
        refine sw_iconst (v := 1) (pc' := 50) ok dX7_refuseStrengths_49 rfl cc_iconst_1 ?_
        refine sw_jn (fun k11 : PM Int32 => SW Γ iI 66 [some (.ref a0), none, none] [] (k11)) ?_ (fun k11 hk11 => ?_)
        · refine sw_aload_n (z := a0) (pc' := 67) ok dX7_refuseStrengths_66 rfl rfl ?_
          refine sw_iconst (v := 5) (pc' := 68) ok dX7_refuseStrengths_67 rfl cc_iconst_5 ?_
          refine sw_cllV_I (st := []) (as := [.int 5]) (pc' := 71) ok (S_X7_found a0 5) (by decide) lk_X7_82 rfl dX7_refuseStrengths_68 rfl (Nat.le_of_ble_eq_true rfl) rfl (fun v10 => ?_)
          exact sw_ret ok okr dX7_refuseStrengths_71 trivial rfl
        refine sw_icmp_lt (tgt := 66) (pc' := 53) ok dX7_refuseStrengths_50 (by decide) rfl ?_ ?_
        · refine sw_fg (l' := [some (.ref a0), none, none]) [true, false, false] rfl ?_
          exact hk11
        refine sw_aload_n (z := a0) (pc' := 54) ok dX7_refuseStrengths_53 rfl rfl ?_
        refine sw_getR (pc' := 57) ok (fr_X7_11.g) dX7_refuseStrengths_54 rfl (fun v12 => ?_)
        refine sw_iload_n (z := x1) (pc' := 58) ok dX7_refuseStrengths_57 rfl rfl ?_
        refine sw_aldR (pc' := 59) ok dX7_refuseStrengths_58 rfl (fun v13 => ?_)
        refine sw_getI (pc' := 62) ok (fr_X7_121.g) dX7_refuseStrengths_59 rfl (fun v14 => ?_)
        refine sw_iconst (v := 3) (pc' := 63) ok dX7_refuseStrengths_62 rfl cc_iconst_3 ?_
        refine sw_icmp_le (tgt := 72) (pc' := 66) ok dX7_refuseStrengths_63 (by decide) rfl ?_ ?_
        · refine sw_iconst (v := 0) (pc' := 73) ok dX7_refuseStrengths_72 rfl cc_iconst_0 ?_
          refine sw_istore_n (pc' := 74) (l' := [some (.ref a0), some (.int x1), some (.int 0)]) ok dX7_refuseStrengths_73 rfl (Nat.le_of_ble_eq_true rfl) rfl ?_
          refine sw_jn (fun k16 : PM Int32 => SW Γ iI 103 [some (.ref a0), none, none] [] (k16)) ?_ (fun k16 hk16 => ?_)
          · refine sw_aload_n (z := a0) (pc' := 104) ok dX7_refuseStrengths_103 rfl rfl ?_
            refine sw_iconst (v := 3) (pc' := 105) ok dX7_refuseStrengths_104 rfl cc_iconst_3 ?_
            refine sw_cllV_I (st := []) (as := [.int 3]) (pc' := 108) ok (S_X7_found a0 3) (by decide) lk_X7_82 rfl dX7_refuseStrengths_105 rfl (Nat.le_of_ble_eq_true rfl) rfl (fun v15 => ?_)
            exact sw_ret ok okr dX7_refuseStrengths_108 trivial rfl
          exact W_X7_refuseStrengths_74 ok okr k16 a0 x1 hk16 4000 0
        refine sw_fg (l' := [some (.ref a0), none, none]) [true, false, false] rfl ?_
        exact hk11
      refine sw_aload_n (z := a0) (pc' := 35) ok dX7_refuseStrengths_34 rfl rfl ?_
      refine sw_iconst (v := 1) (pc' := 36) ok dX7_refuseStrengths_35 rfl cc_iconst_1 ?_
      refine sw_cllV_I (st := []) (as := [.int 1]) (pc' := 39) ok (S_X7_found a0 1) (by decide) lk_X7_82 rfl dX7_refuseStrengths_36 rfl (Nat.le_of_ble_eq_true rfl) rfl (fun v24 => ?_)
      exact sw_ret ok okr dX7_refuseStrengths_39 trivial rfl
    refine sw_bipush (v := (-4)) (pc' := 21) ok dX7_refuseStrengths_19 rfl cc_bipush_m4 ?_
    exact sw_ret ok okr dX7_refuseStrengths_21 trivial rfl
  refine sw_iconst (v := (-1)) (pc' := 8) ok dX7_refuseStrengths_7 rfl cc_iconst_m1 ?_
  exact sw_ret ok okr dX7_refuseStrengths_8 trivial rfl
theorem S_X7_refuseStrengths (a0 : Nat) (x1 : Int32) : Sim 2 yX7_refuseStrengths cX7_refuseStrengths 3 (some .int) iI [.ref a0, .int x1] (P_X7_refuseStrengths a0 x1) := Sim.intro wd_1026 (by decide) (by decide +kernel) (Nat.le_of_ble_eq_true rfl) (fun Γ ok okr => W_X7_refuseStrengths ok okr a0 x1)
theorem dX7_bear_0 : decode cX7_bear 0 = .ok (.aload_n 0, 1) := by decide +kernel
theorem dX7_bear_1 : decode cX7_bear 1 = .ok (.iload_n 1, 1) := by decide +kernel
theorem dX7_bear_2 : decode cX7_bear 2 = .ok (.invokevirtual 254, 3) := by decide +kernel
theorem dX7_bear_5 : decode cX7_bear 5 = .ok (.istore_n 2, 1) := by decide +kernel
theorem dX7_bear_6 : decode cX7_bear 6 = .ok (.iload_n 2, 1) := by decide +kernel
theorem dX7_bear_7 : decode cX7_bear 7 = .ok (.ifCond .ge 5, 3) := by decide +kernel
theorem dX7_bear_10 : decode cX7_bear 10 = .ok (.iload_n 2, 1) := by decide +kernel
theorem dX7_bear_11 : decode cX7_bear 11 = .ok (.ireturn, 1) := by decide +kernel
theorem dX7_bear_12 : decode cX7_bear 12 = .ok (.aload_n 0, 1) := by decide +kernel
theorem dX7_bear_13 : decode cX7_bear 13 = .ok (.getfield 46, 3) := by decide +kernel
theorem dX7_bear_16 : decode cX7_bear 16 = .ok (.aload_n 0, 1) := by decide +kernel
theorem dX7_bear_17 : decode cX7_bear 17 = .ok (.getfield 27, 3) := by decide +kernel
theorem dX7_bear_20 : decode cX7_bear 20 = .ok (.aload_n 0, 1) := by decide +kernel
theorem dX7_bear_21 : decode cX7_bear 21 = .ok (.getfield 39, 3) := by decide +kernel
theorem dX7_bear_24 : decode cX7_bear 24 = .ok (.getfield 156, 3) := by decide +kernel
theorem dX7_bear_27 : decode cX7_bear 27 = .ok (.aload_n 0, 1) := by decide +kernel
theorem dX7_bear_28 : decode cX7_bear 28 = .ok (.getfield 11, 3) := by decide +kernel
theorem dX7_bear_31 : decode cX7_bear 31 = .ok (.iload_n 1, 1) := by decide +kernel
theorem dX7_bear_32 : decode cX7_bear 32 = .ok (.aaload, 1) := by decide +kernel
theorem dX7_bear_33 : decode cX7_bear 33 = .ok (.iconst 0, 1) := by decide +kernel
theorem dX7_bear_34 : decode cX7_bear 34 = .ok (.invokevirtual 257, 3) := by decide +kernel
theorem dX7_bear_37 : decode cX7_bear 37 = .ok (.aload_n 0, 1) := by decide +kernel
theorem dX7_bear_38 : decode cX7_bear 38 = .ok (.getfield 46, 3) := by decide +kernel
theorem dX7_bear_41 : decode cX7_bear 41 = .ok (.getfield 261, 3) := by decide +kernel
theorem dX7_bear_44 : decode cX7_bear 44 = .ok (.ifCond .ne 6, 3) := by decide +kernel
theorem dX7_bear_47 : decode cX7_bear 47 = .ok (.bipush (-9), 2) := by decide +kernel
theorem dX7_bear_49 : decode cX7_bear 49 = .ok (.ireturn, 1) := by decide +kernel
theorem dX7_bear_50 : decode cX7_bear 50 = .ok (.aload_n 0, 1) := by decide +kernel
theorem dX7_bear_51 : decode cX7_bear 51 = .ok (.aload_n 0, 1) := by decide +kernel
theorem dX7_bear_52 : decode cX7_bear 52 = .ok (.getfield 46, 3) := by decide +kernel
theorem dX7_bear_55 : decode cX7_bear 55 = .ok (.getfield 264, 3) := by decide +kernel
theorem dX7_bear_58 : decode cX7_bear 58 = .ok (.invokevirtual 98, 3) := by decide +kernel
theorem dX7_bear_61 : decode cX7_bear 61 = .ok (.pop, 1) := by decide +kernel
theorem dX7_bear_62 : decode cX7_bear 62 = .ok (.aload_n 0, 1) := by decide +kernel
theorem dX7_bear_63 : decode cX7_bear 63 = .ok (.getfield 46, 3) := by decide +kernel
theorem dX7_bear_66 : decode cX7_bear 66 = .ok (.getfield 264, 3) := by decide +kernel
theorem dX7_bear_69 : decode cX7_bear 69 = .ok (.invokestatic 267, 3) := by decide +kernel
theorem dX7_bear_72 : decode cX7_bear 72 = .ok (.ireturn, 1) := by decide +kernel
def P_X7_bear (a0 : Nat) (x1 : Int32) : PM Int32 :=
cllV 7 a0 (P_X7_refuseStrengths a0 x1) fun v1 =>
ifB (decide (0 ≤ v1)) (
getR 7 6 a0 fun v2 =>
getR 7 3 a0 fun v3 =>
getR 7 5 a0 fun v4 =>
getR 3 0 v4 fun v5 =>
getR 7 0 a0 fun v6 =>
aldR v6 x1 fun v7 =>
cllV 6 v2 (P_X6_waysFor v2 v3 v5 v7 0) fun _ =>
getR 7 6 a0 fun v8 =>
getI 6 7 v8 fun v9 =>
ifB (decide (¬ v9 = 0)) (
getR 7 6 a0 fun v10 =>
getI 6 11 v10 fun v11 =>
cllV 7 a0 (P_X7_tellAsked a0 v11) fun v12 =>
getR 7 6 a0 fun v13 =>
getI 6 11 v13 fun v14 =>
cll0 (P_J6_bitCount_0f7a4 v14) fun v15 =>
pureM v15) (
pureM ((-9)))) (
pureM v1)
set_option maxHeartbeats 4000000 in
set_option maxRecDepth 100000 in
theorem W_X7_bear {Γ : Cx} (ok : OKc Γ cX7_bear RX7 16 "bear") (okr : OKr Γ cX7_bear (some .int)) (a0 : Nat) (x1 : Int32) : SW Γ iI 0 [some (.ref a0), some (.int x1), none] [] (P_X7_bear a0 x1) := by
  unfold P_X7_bear
  refine sw_aload_n (z := a0) (pc' := 1) ok dX7_bear_0 rfl rfl ?_
  refine sw_iload_n (z := x1) (pc' := 2) ok dX7_bear_1 rfl rfl ?_
  refine sw_cllV_I (st := []) (as := [.int x1]) (pc' := 5) ok (S_X7_refuseStrengths a0 x1) (by decide) lk_X7_254 rfl dX7_bear_2 rfl (Nat.le_of_ble_eq_true rfl) rfl (fun v1 => ?_)
  refine sw_istore_n (pc' := 6) (l' := [some (.ref a0), some (.int x1), some (.int v1)]) ok dX7_bear_5 rfl (Nat.le_of_ble_eq_true rfl) rfl ?_
  refine sw_iload_n (z := v1) (pc' := 7) ok dX7_bear_6 rfl rfl ?_
  refine sw_if_ge (tgt := 12) (pc' := 10) ok dX7_bear_7 (by decide) rfl ?_ ?_
  · refine sw_aload_n (z := a0) (pc' := 13) ok dX7_bear_12 rfl rfl ?_
    refine sw_getR (pc' := 16) ok (fr_X7_46.g) dX7_bear_13 rfl (fun v2 => ?_)
    refine sw_aload_n (z := a0) (pc' := 17) ok dX7_bear_16 rfl rfl ?_
    refine sw_getR (pc' := 20) ok (fr_X7_27.g) dX7_bear_17 rfl (fun v3 => ?_)
    refine sw_aload_n (z := a0) (pc' := 21) ok dX7_bear_20 rfl rfl ?_
    refine sw_getR (pc' := 24) ok (fr_X7_39.g) dX7_bear_21 rfl (fun v4 => ?_)
    refine sw_getR (pc' := 27) ok (fr_X7_156) dX7_bear_24 rfl (fun v5 => ?_)
    refine sw_aload_n (z := a0) (pc' := 28) ok dX7_bear_27 rfl rfl ?_
    refine sw_getR (pc' := 31) ok (fr_X7_11.g) dX7_bear_28 rfl (fun v6 => ?_)
    refine sw_iload_n (z := x1) (pc' := 32) ok dX7_bear_31 rfl rfl ?_
    refine sw_aldR (pc' := 33) ok dX7_bear_32 rfl (fun v7 => ?_)
    refine sw_iconst (v := 0) (pc' := 34) ok dX7_bear_33 rfl cc_iconst_0 ?_
    refine sw_cllV_U (st := []) (as := [.ref v3, .ref v5, .ref v7, .int 0]) (pc' := 37) ok (S_X6_waysFor v2 v3 v5 v7 0) (by decide) lk_X7_257 rfl dX7_bear_34 rfl (Nat.le_of_ble_eq_true rfl) rfl (fun _ => ?_)
    refine sw_aload_n (z := a0) (pc' := 38) ok dX7_bear_37 rfl rfl ?_
    refine sw_getR (pc' := 41) ok (fr_X7_46.g) dX7_bear_38 rfl (fun v8 => ?_)
    refine sw_getI (pc' := 44) ok (fr_X7_261.g) dX7_bear_41 rfl (fun v9 => ?_)
    refine sw_if_ne (tgt := 50) (pc' := 47) ok dX7_bear_44 (by decide) rfl ?_ ?_
    · refine sw_aload_n (z := a0) (pc' := 51) ok dX7_bear_50 rfl rfl ?_
      refine sw_aload_n (z := a0) (pc' := 52) ok dX7_bear_51 rfl rfl ?_
      refine sw_getR (pc' := 55) ok (fr_X7_46.g) dX7_bear_52 rfl (fun v10 => ?_)
      refine sw_getI (pc' := 58) ok (fr_X7_264.g) dX7_bear_55 rfl (fun v11 => ?_)
      refine sw_cllV_I (st := []) (as := [.int v11]) (pc' := 61) ok (S_X7_tellAsked a0 v11) (by decide) lk_X7_98 rfl dX7_bear_58 rfl (Nat.le_of_ble_eq_true rfl) rfl (fun v12 => ?_)
      refine sw_pop (pc' := 62) ok dX7_bear_61 rfl rfl ?_
      refine sw_aload_n (z := a0) (pc' := 63) ok dX7_bear_62 rfl rfl ?_
      refine sw_getR (pc' := 66) ok (fr_X7_46.g) dX7_bear_63 rfl (fun v13 => ?_)
      refine sw_getI (pc' := 69) ok (fr_X7_264.g) dX7_bear_66 rfl (fun v14 => ?_)
      refine sw_cll0_I (st := []) (as := [.int v14]) (pc' := 72) ok (S_J6_bitCount_0f7a4 v14) (by decide) lk_X7_267 rfl dX7_bear_69 rfl (Nat.le_of_ble_eq_true rfl) rfl (fun v15 => ?_)
      exact sw_ret ok okr dX7_bear_72 trivial rfl
    refine sw_bipush (v := (-9)) (pc' := 49) ok dX7_bear_47 rfl cc_bipush_m9 ?_
    exact sw_ret ok okr dX7_bear_49 trivial rfl
  refine sw_iload_n (z := v1) (pc' := 11) ok dX7_bear_10 rfl rfl ?_
  exact sw_ret ok okr dX7_bear_11 trivial rfl
theorem S_X7_bear (a0 : Nat) (x1 : Int32) : Sim 16 yX7_bear cX7_bear 3 (some .int) iI [.ref a0, .int x1] (P_X7_bear a0 x1) := Sim.intro wd_1027 (by decide) (by decide +kernel) (Nat.le_of_ble_eq_true rfl) (fun Γ ok okr => W_X7_bear ok okr a0 x1)
theorem dJ9_max_f86c9_0 : decode cJ9_max_f86c9 0 = .ok (.lload_n 0, 1) := by decide +kernel
theorem dJ9_max_f86c9_1 : decode cJ9_max_f86c9 1 = .ok (.lload_n 2, 1) := by decide +kernel
theorem dJ9_max_f86c9_2 : decode cJ9_max_f86c9 2 = .ok (.lcmp, 1) := by decide +kernel
theorem dJ9_max_f86c9_3 : decode cJ9_max_f86c9 3 = .ok (.ifCond .lt 7, 3) := by decide +kernel
theorem dJ9_max_f86c9_6 : decode cJ9_max_f86c9 6 = .ok (.lload_n 0, 1) := by decide +kernel
theorem dJ9_max_f86c9_7 : decode cJ9_max_f86c9 7 = .ok (.goto 4, 3) := by decide +kernel
theorem dJ9_max_f86c9_10 : decode cJ9_max_f86c9 10 = .ok (.lload_n 2, 1) := by decide +kernel
theorem dJ9_max_f86c9_11 : decode cJ9_max_f86c9 11 = .ok (.lreturn, 1) := by decide +kernel
def P_J9_max_f86c9 (x0 : Int64) (x1 : Int64) : PM Int64 :=
ifB (decide ((lg_cmp x0 x1) < 0)) (
pureM x1) (
pureM x0)
set_option maxHeartbeats 4000000 in
set_option maxRecDepth 100000 in
theorem W_J9_max_f86c9 {Γ : Cx} (ok : OKc Γ cJ9_max_f86c9 RJ9 0 "max") (okr : OKr Γ cJ9_max_f86c9 (some .long)) (x0 : Int64) (x1 : Int64) : SW Γ iL 0 [some (.long x0), none, some (.long x1), none] [] (P_J9_max_f86c9 x0 x1) := by
  unfold P_J9_max_f86c9
  refine sw_lload_n (z := x0) (pc' := 1) ok dJ9_max_f86c9_0 rfl rfl ?_
  refine sw_lload_n (z := x1) (pc' := 2) ok dJ9_max_f86c9_1 rfl rfl ?_
  refine sw_lcmp (pc' := 3) ok dJ9_max_f86c9_2 rfl ?_
  refine sw_if_lt (tgt := 10) (pc' := 6) ok dJ9_max_f86c9_3 (by decide) rfl ?_ ?_
  · refine sw_lload_n (z := x1) (pc' := 11) ok dJ9_max_f86c9_10 rfl rfl ?_
    exact sw_ret ok okr dJ9_max_f86c9_11 trivial rfl
  refine sw_lload_n (z := x0) (pc' := 7) ok dJ9_max_f86c9_6 rfl rfl ?_
  refine sw_goto (tgt := 11) ok dJ9_max_f86c9_7 (by decide) ?_
  exact sw_ret ok okr dJ9_max_f86c9_11 trivial rfl
theorem S_J9_max_f86c9 (x0 : Int64) (x1 : Int64) : Sim 0 yJ9_max_f86c9 cJ9_max_f86c9 4 (some .long) iL [.long x0, .long x1] (P_J9_max_f86c9 x0 x1) := Sim.introF wd_1028 (by decide) (by decide +kernel) (Nat.le_of_ble_eq_true rfl) (fun Γ ok okr => W_J9_max_f86c9 ok okr x0 x1)
theorem dJ9_min_f86c9_0 : decode cJ9_min_f86c9 0 = .ok (.lload_n 0, 1) := by decide +kernel
theorem dJ9_min_f86c9_1 : decode cJ9_min_f86c9 1 = .ok (.lload_n 2, 1) := by decide +kernel
theorem dJ9_min_f86c9_2 : decode cJ9_min_f86c9 2 = .ok (.lcmp, 1) := by decide +kernel
theorem dJ9_min_f86c9_3 : decode cJ9_min_f86c9 3 = .ok (.ifCond .gt 7, 3) := by decide +kernel
theorem dJ9_min_f86c9_6 : decode cJ9_min_f86c9 6 = .ok (.lload_n 0, 1) := by decide +kernel
theorem dJ9_min_f86c9_7 : decode cJ9_min_f86c9 7 = .ok (.goto 4, 3) := by decide +kernel
theorem dJ9_min_f86c9_10 : decode cJ9_min_f86c9 10 = .ok (.lload_n 2, 1) := by decide +kernel
theorem dJ9_min_f86c9_11 : decode cJ9_min_f86c9 11 = .ok (.lreturn, 1) := by decide +kernel
def P_J9_min_f86c9 (x0 : Int64) (x1 : Int64) : PM Int64 :=
ifB (decide (0 < (lg_cmp x0 x1))) (
pureM x1) (
pureM x0)
set_option maxHeartbeats 4000000 in
set_option maxRecDepth 100000 in
theorem W_J9_min_f86c9 {Γ : Cx} (ok : OKc Γ cJ9_min_f86c9 RJ9 0 "min") (okr : OKr Γ cJ9_min_f86c9 (some .long)) (x0 : Int64) (x1 : Int64) : SW Γ iL 0 [some (.long x0), none, some (.long x1), none] [] (P_J9_min_f86c9 x0 x1) := by
  unfold P_J9_min_f86c9
  refine sw_lload_n (z := x0) (pc' := 1) ok dJ9_min_f86c9_0 rfl rfl ?_
  refine sw_lload_n (z := x1) (pc' := 2) ok dJ9_min_f86c9_1 rfl rfl ?_
  refine sw_lcmp (pc' := 3) ok dJ9_min_f86c9_2 rfl ?_
  refine sw_if_gt (tgt := 10) (pc' := 6) ok dJ9_min_f86c9_3 (by decide) rfl ?_ ?_
  · refine sw_lload_n (z := x1) (pc' := 11) ok dJ9_min_f86c9_10 rfl rfl ?_
    exact sw_ret ok okr dJ9_min_f86c9_11 trivial rfl
  refine sw_lload_n (z := x0) (pc' := 7) ok dJ9_min_f86c9_6 rfl rfl ?_
  refine sw_goto (tgt := 11) ok dJ9_min_f86c9_7 (by decide) ?_
  exact sw_ret ok okr dJ9_min_f86c9_11 trivial rfl
theorem S_J9_min_f86c9 (x0 : Int64) (x1 : Int64) : Sim 0 yJ9_min_f86c9 cJ9_min_f86c9 4 (some .long) iL [.long x0, .long x1] (P_J9_min_f86c9 x0 x1) := Sim.introF wd_1029 (by decide) (by decide +kernel) (Nat.le_of_ble_eq_true rfl) (fun Γ ok okr => W_J9_min_f86c9 ok okr x0 x1)
theorem dX7_commonMeasure_0 : decode cX7_commonMeasure 0 = .ok (.lload_n 0, 1) := by decide +kernel
theorem dX7_commonMeasure_1 : decode cX7_commonMeasure 1 = .ok (.lload_n 2, 1) := by decide +kernel
theorem dX7_commonMeasure_2 : decode cX7_commonMeasure 2 = .ok (.invokestatic 379, 3) := by decide +kernel
theorem dX7_commonMeasure_5 : decode cX7_commonMeasure 5 = .ok (.lstore 4, 2) := by decide +kernel
theorem dX7_commonMeasure_7 : decode cX7_commonMeasure 7 = .ok (.lload_n 0, 1) := by decide +kernel
theorem dX7_commonMeasure_8 : decode cX7_commonMeasure 8 = .ok (.lload_n 2, 1) := by decide +kernel
theorem dX7_commonMeasure_9 : decode cX7_commonMeasure 9 = .ok (.invokestatic 381, 3) := by decide +kernel
theorem dX7_commonMeasure_12 : decode cX7_commonMeasure 12 = .ok (.lstore 6, 2) := by decide +kernel
theorem dX7_commonMeasure_14 : decode cX7_commonMeasure 14 = .ok (.iconst 0, 1) := by decide +kernel
theorem dX7_commonMeasure_15 : decode cX7_commonMeasure 15 = .ok (.istore 8, 2) := by decide +kernel
theorem dX7_commonMeasure_17 : decode cX7_commonMeasure 17 = .ok (.iload 8, 2) := by decide +kernel
theorem dX7_commonMeasure_19 : decode cX7_commonMeasure 19 = .ok (.sipush 128, 3) := by decide +kernel
theorem dX7_commonMeasure_22 : decode cX7_commonMeasure 22 = .ok (.if_icmp .ge 31, 3) := by decide +kernel
theorem dX7_commonMeasure_25 : decode cX7_commonMeasure 25 = .ok (.lload 6, 2) := by decide +kernel
theorem dX7_commonMeasure_27 : decode cX7_commonMeasure 27 = .ok (.lconst 0, 1) := by decide +kernel
theorem dX7_commonMeasure_28 : decode cX7_commonMeasure 28 = .ok (.lcmp, 1) := by decide +kernel
theorem dX7_commonMeasure_29 : decode cX7_commonMeasure 29 = .ok (.ifCond .le 24, 3) := by decide +kernel
theorem dX7_commonMeasure_32 : decode cX7_commonMeasure 32 = .ok (.lload 4, 2) := by decide +kernel
theorem dX7_commonMeasure_34 : decode cX7_commonMeasure 34 = .ok (.lload 6, 2) := by decide +kernel
theorem dX7_commonMeasure_36 : decode cX7_commonMeasure 36 = .ok (.lrem, 1) := by decide +kernel
theorem dX7_commonMeasure_37 : decode cX7_commonMeasure 37 = .ok (.lstore 9, 2) := by decide +kernel
theorem dX7_commonMeasure_39 : decode cX7_commonMeasure 39 = .ok (.lload 6, 2) := by decide +kernel
theorem dX7_commonMeasure_41 : decode cX7_commonMeasure 41 = .ok (.lstore 4, 2) := by decide +kernel
theorem dX7_commonMeasure_43 : decode cX7_commonMeasure 43 = .ok (.lload 9, 2) := by decide +kernel
theorem dX7_commonMeasure_45 : decode cX7_commonMeasure 45 = .ok (.lstore 6, 2) := by decide +kernel
theorem dX7_commonMeasure_47 : decode cX7_commonMeasure 47 = .ok (.iinc 8 1, 3) := by decide +kernel
theorem dX7_commonMeasure_50 : decode cX7_commonMeasure 50 = .ok (.goto (-33), 3) := by decide +kernel
theorem dX7_commonMeasure_53 : decode cX7_commonMeasure 53 = .ok (.lload 4, 2) := by decide +kernel
theorem dX7_commonMeasure_55 : decode cX7_commonMeasure 55 = .ok (.lreturn, 1) := by decide +kernel
def P_X7_commonMeasure_17 : Nat → Int64 → Int64 → Int32 → PM Int64
  | 0, _, _, _ => failM
  | n + 1, q4, q6, q8 =>
    ifB (decide (128 ≤ q8)) (
    pureM q4) (
    ifB (decide ((lg_cmp q6 0) ≤ 0)) (
    pureM q4) (
    remL q4 q6 fun v3 =>
    P_X7_commonMeasure_17 n q6 v3 (q8 + 1)))
def P_X7_commonMeasure (x0 : Int64) (x1 : Int64) : PM Int64 :=
cll0 (P_J9_max_f86c9 x0 x1) fun v1 =>
cll0 (P_J9_min_f86c9 x0 x1) fun v2 =>
P_X7_commonMeasure_17 4000 v1 v2 0
set_option maxHeartbeats 4000000 in
set_option maxRecDepth 100000 in
theorem W_X7_commonMeasure_17 {Γ : Cx} (ok : OKc Γ cX7_commonMeasure RX7 1 "commonMeasure") (okr : OKr Γ cX7_commonMeasure (some .long)) : ∀ (n : Nat) (q4 : Int64) (q6 : Int64) (q8 : Int32), SW Γ iL 17 [none, none, none, none, some (.long q4), none, some (.long q6), none, some (.int q8), none, none] [] (P_X7_commonMeasure_17 n q4 q6 q8) := by
  intro n
  induction n with
  | zero =>
    intros
    exact sw_fail
  | succ n ih =>
    intro q4 q6 q8
    unfold P_X7_commonMeasure_17
    refine sw_iload (z := q8) (pc' := 19) ok dX7_commonMeasure_17 rfl rfl ?_
    refine sw_sipush (v := 128) (pc' := 22) ok dX7_commonMeasure_19 rfl cc_sipush_128 ?_
    refine sw_icmp_ge (tgt := 53) (pc' := 25) ok dX7_commonMeasure_22 (by decide) rfl ?_ ?_
    · refine sw_lload (z := q4) (pc' := 55) ok dX7_commonMeasure_53 rfl rfl ?_
      exact sw_ret ok okr dX7_commonMeasure_55 trivial rfl
    refine sw_lload (z := q6) (pc' := 27) ok dX7_commonMeasure_25 rfl rfl ?_
    refine sw_lconst (v := 0) (pc' := 28) ok dX7_commonMeasure_27 rfl cc_lconst_0 ?_
    refine sw_lcmp (pc' := 29) ok dX7_commonMeasure_28 rfl ?_
    refine sw_if_le (tgt := 53) (pc' := 32) ok dX7_commonMeasure_29 (by decide) rfl ?_ ?_
    · refine sw_lload (z := q4) (pc' := 55) ok dX7_commonMeasure_53 rfl rfl ?_
      exact sw_ret ok okr dX7_commonMeasure_55 trivial rfl
    refine sw_lload (z := q4) (pc' := 34) ok dX7_commonMeasure_32 rfl rfl ?_
    refine sw_lload (z := q6) (pc' := 36) ok dX7_commonMeasure_34 rfl rfl ?_
    refine sw_remL (pc' := 37) ok dX7_commonMeasure_36 rfl (fun v3 => ?_)
    refine sw_lstore (pc' := 39) (l' := [none, none, none, none, some (.long q4), none, some (.long q6), none, some (.int q8), some (.long v3), none]) ok dX7_commonMeasure_37 rfl (Nat.le_of_ble_eq_true rfl) rfl ?_
    refine sw_lload (z := q6) (pc' := 41) ok dX7_commonMeasure_39 rfl rfl ?_
    refine sw_lstore (pc' := 43) (l' := [none, none, none, none, some (.long q6), none, some (.long q6), none, some (.int q8), some (.long v3), none]) ok dX7_commonMeasure_41 rfl (Nat.le_of_ble_eq_true rfl) rfl ?_
    refine sw_lload (z := v3) (pc' := 45) ok dX7_commonMeasure_43 rfl rfl ?_
    refine sw_lstore (pc' := 47) (l' := [none, none, none, none, some (.long q6), none, some (.long v3), none, some (.int q8), some (.long v3), none]) ok dX7_commonMeasure_45 rfl (Nat.le_of_ble_eq_true rfl) rfl ?_
    refine sw_iinc (z := q8) (v := q8 + 1) (pc' := 50) (l' := [none, none, none, none, some (.long q6), none, some (.long v3), none, some (.int (q8 + 1)), some (.long v3), none]) ok dX7_commonMeasure_47 rfl rfl (by rw [cc_iconst_1]) rfl ?_
    refine sw_goto (tgt := 17) ok dX7_commonMeasure_50 (by decide) ?_
    refine sw_fg (l' := [none, none, none, none, some (.long q6), none, some (.long v3), none, some (.int (q8 + 1)), none, none]) [false, false, false, false, true, false, true, false, true, false, false] rfl ?_
    exact ih q6 v3 (q8 + 1)
set_option maxHeartbeats 4000000 in
set_option maxRecDepth 100000 in
theorem W_X7_commonMeasure {Γ : Cx} (ok : OKc Γ cX7_commonMeasure RX7 1 "commonMeasure") (okr : OKr Γ cX7_commonMeasure (some .long)) (x0 : Int64) (x1 : Int64) : SW Γ iL 0 [some (.long x0), none, some (.long x1), none, none, none, none, none, none, none, none] [] (P_X7_commonMeasure x0 x1) := by
  unfold P_X7_commonMeasure
  refine sw_lload_n (z := x0) (pc' := 1) ok dX7_commonMeasure_0 rfl rfl ?_
  refine sw_lload_n (z := x1) (pc' := 2) ok dX7_commonMeasure_1 rfl rfl ?_
  refine sw_cll0_L (st := []) (as := [.long x0, .long x1]) (pc' := 5) ok (S_J9_max_f86c9 x0 x1) (by decide) lk_X7_379 rfl dX7_commonMeasure_2 rfl (Nat.le_of_ble_eq_true rfl) rfl (fun v1 => ?_)
  refine sw_lstore (pc' := 7) (l' := [some (.long x0), none, some (.long x1), none, some (.long v1), none, none, none, none, none, none]) ok dX7_commonMeasure_5 rfl (Nat.le_of_ble_eq_true rfl) rfl ?_
  refine sw_lload_n (z := x0) (pc' := 8) ok dX7_commonMeasure_7 rfl rfl ?_
  refine sw_lload_n (z := x1) (pc' := 9) ok dX7_commonMeasure_8 rfl rfl ?_
  refine sw_cll0_L (st := []) (as := [.long x0, .long x1]) (pc' := 12) ok (S_J9_min_f86c9 x0 x1) (by decide) lk_X7_381 rfl dX7_commonMeasure_9 rfl (Nat.le_of_ble_eq_true rfl) rfl (fun v2 => ?_)
  refine sw_lstore (pc' := 14) (l' := [some (.long x0), none, some (.long x1), none, some (.long v1), none, some (.long v2), none, none, none, none]) ok dX7_commonMeasure_12 rfl (Nat.le_of_ble_eq_true rfl) rfl ?_
  refine sw_iconst (v := 0) (pc' := 15) ok dX7_commonMeasure_14 rfl cc_iconst_0 ?_
  refine sw_istore (pc' := 17) (l' := [some (.long x0), none, some (.long x1), none, some (.long v1), none, some (.long v2), none, some (.int 0), none, none]) ok dX7_commonMeasure_15 rfl (Nat.le_of_ble_eq_true rfl) rfl ?_
  refine sw_fg (l' := [none, none, none, none, some (.long v1), none, some (.long v2), none, some (.int 0), none, none]) [false, false, false, false, true, false, true, false, true, false, false] rfl ?_
  exact W_X7_commonMeasure_17 ok okr 4000 v1 v2 0
theorem S_X7_commonMeasure (x0 : Int64) (x1 : Int64) : Sim 1 yX7_commonMeasure cX7_commonMeasure 11 (some .long) iL [.long x0, .long x1] (P_X7_commonMeasure x0 x1) := Sim.intro wd_1030 (by decide) (by decide +kernel) (Nat.le_of_ble_eq_true rfl) (fun Γ ok okr => W_X7_commonMeasure ok okr x0 x1)
theorem dX7_tellShare_0 : decode cX7_tellShare 0 = .ok (.lload_n 1, 1) := by decide +kernel
theorem dX7_tellShare_1 : decode cX7_tellShare 1 = .ok (.lload_n 3, 1) := by decide +kernel
theorem dX7_tellShare_2 : decode cX7_tellShare 2 = .ok (.invokestatic 375, 3) := by decide +kernel
theorem dX7_tellShare_5 : decode cX7_tellShare 5 = .ok (.lstore 5, 2) := by decide +kernel
theorem dX7_tellShare_7 : decode cX7_tellShare 7 = .ok (.lload 5, 2) := by decide +kernel
theorem dX7_tellShare_9 : decode cX7_tellShare 9 = .ok (.lconst 0, 1) := by decide +kernel
theorem dX7_tellShare_10 : decode cX7_tellShare 10 = .ok (.lcmp, 1) := by decide +kernel
theorem dX7_tellShare_11 : decode cX7_tellShare 11 = .ok (.ifCond .le 19, 3) := by decide +kernel
theorem dX7_tellShare_14 : decode cX7_tellShare 14 = .ok (.aload_n 0, 1) := by decide +kernel
theorem dX7_tellShare_15 : decode cX7_tellShare 15 = .ok (.lload_n 1, 1) := by decide +kernel
theorem dX7_tellShare_16 : decode cX7_tellShare 16 = .ok (.lload 5, 2) := by decide +kernel
theorem dX7_tellShare_18 : decode cX7_tellShare 18 = .ok (.ldiv, 1) := by decide +kernel
theorem dX7_tellShare_19 : decode cX7_tellShare 19 = .ok (.putfield 68, 3) := by decide +kernel
theorem dX7_tellShare_22 : decode cX7_tellShare 22 = .ok (.aload_n 0, 1) := by decide +kernel
theorem dX7_tellShare_23 : decode cX7_tellShare 23 = .ok (.lload_n 3, 1) := by decide +kernel
theorem dX7_tellShare_24 : decode cX7_tellShare 24 = .ok (.lload 5, 2) := by decide +kernel
theorem dX7_tellShare_26 : decode cX7_tellShare 26 = .ok (.ldiv, 1) := by decide +kernel
theorem dX7_tellShare_27 : decode cX7_tellShare 27 = .ok (.putfield 72, 3) := by decide +kernel
theorem dX7_tellShare_30 : decode cX7_tellShare 30 = .ok (.iconst 1, 1) := by decide +kernel
theorem dX7_tellShare_31 : decode cX7_tellShare 31 = .ok (.ireturn, 1) := by decide +kernel
def P_X7_tellShare (a0 : Nat) (x1 : Int64) (x2 : Int64) : PM Int32 :=
cll0 (P_X7_commonMeasure x1 x2) fun v1 =>
ifB (decide ((lg_cmp v1 0) ≤ 0)) (
pureM 1) (
divL x1 v1 fun v2 =>
setL 7 11 a0 v2 <|
divL x2 v1 fun v3 =>
setL 7 12 a0 v3 <|
pureM 1)
set_option maxHeartbeats 4000000 in
set_option maxRecDepth 100000 in
theorem W_X7_tellShare {Γ : Cx} (ok : OKc Γ cX7_tellShare RX7 2 "tellShare") (okr : OKr Γ cX7_tellShare (some .int)) (a0 : Nat) (x1 : Int64) (x2 : Int64) : SW Γ iI 0 [some (.ref a0), some (.long x1), none, some (.long x2), none, none, none] [] (P_X7_tellShare a0 x1 x2) := by
  unfold P_X7_tellShare
  refine sw_lload_n (z := x1) (pc' := 1) ok dX7_tellShare_0 rfl rfl ?_
  refine sw_lload_n (z := x2) (pc' := 2) ok dX7_tellShare_1 rfl rfl ?_
  refine sw_cll0_L (st := []) (as := [.long x1, .long x2]) (pc' := 5) ok (S_X7_commonMeasure x1 x2) (by decide) lk_X7_375 rfl dX7_tellShare_2 rfl (Nat.le_of_ble_eq_true rfl) rfl (fun v1 => ?_)
  refine sw_lstore (pc' := 7) (l' := [some (.ref a0), some (.long x1), none, some (.long x2), none, some (.long v1), none]) ok dX7_tellShare_5 rfl (Nat.le_of_ble_eq_true rfl) rfl ?_
  refine sw_lload (z := v1) (pc' := 9) ok dX7_tellShare_7 rfl rfl ?_
  refine sw_lconst (v := 0) (pc' := 10) ok dX7_tellShare_9 rfl cc_lconst_0 ?_
  refine sw_lcmp (pc' := 11) ok dX7_tellShare_10 rfl ?_
  refine sw_if_le (tgt := 30) (pc' := 14) ok dX7_tellShare_11 (by decide) rfl ?_ ?_
  · refine sw_iconst (v := 1) (pc' := 31) ok dX7_tellShare_30 rfl cc_iconst_1 ?_
    exact sw_ret ok okr dX7_tellShare_31 trivial rfl
  refine sw_aload_n (z := a0) (pc' := 15) ok dX7_tellShare_14 rfl rfl ?_
  refine sw_lload_n (z := x1) (pc' := 16) ok dX7_tellShare_15 rfl rfl ?_
  refine sw_lload (z := v1) (pc' := 18) ok dX7_tellShare_16 rfl rfl ?_
  refine sw_divL (pc' := 19) ok dX7_tellShare_18 rfl (fun v2 => ?_)
  refine sw_setL (pc' := 22) ok fr_X7_68 dX7_tellShare_19 (fun h => by cases h) rfl ?_
  refine sw_aload_n (z := a0) (pc' := 23) ok dX7_tellShare_22 rfl rfl ?_
  refine sw_lload_n (z := x2) (pc' := 24) ok dX7_tellShare_23 rfl rfl ?_
  refine sw_lload (z := v1) (pc' := 26) ok dX7_tellShare_24 rfl rfl ?_
  refine sw_divL (pc' := 27) ok dX7_tellShare_26 rfl (fun v3 => ?_)
  refine sw_setL (pc' := 30) ok fr_X7_72 dX7_tellShare_27 (fun h => by cases h) rfl ?_
  refine sw_iconst (v := 1) (pc' := 31) ok dX7_tellShare_30 rfl cc_iconst_1 ?_
  exact sw_ret ok okr dX7_tellShare_31 trivial rfl
theorem S_X7_tellShare (a0 : Nat) (x1 : Int64) (x2 : Int64) : Sim 2 yX7_tellShare cX7_tellShare 7 (some .int) iI [.ref a0, .long x1, .long x2] (P_X7_tellShare a0 x1 x2) := Sim.intro wd_1031 (by decide) (by decide +kernel) (Nat.le_of_ble_eq_true rfl) (fun Γ ok okr => W_X7_tellShare ok okr a0 x1 x2)
theorem dX7_sagged_0 : decode cX7_sagged 0 = .ok (.aload_n 0, 1) := by decide +kernel
theorem dX7_sagged_1 : decode cX7_sagged 1 = .ok (.iload_n 1, 1) := by decide +kernel
theorem dX7_sagged_2 : decode cX7_sagged 2 = .ok (.invokevirtual 254, 3) := by decide +kernel
theorem dX7_sagged_5 : decode cX7_sagged 5 = .ok (.istore_n 2, 1) := by decide +kernel
theorem dX7_sagged_6 : decode cX7_sagged 6 = .ok (.iload_n 2, 1) := by decide +kernel
theorem dX7_sagged_7 : decode cX7_sagged 7 = .ok (.ifCond .ge 5, 3) := by decide +kernel
theorem dX7_sagged_10 : decode cX7_sagged 10 = .ok (.iload_n 2, 1) := by decide +kernel
theorem dX7_sagged_11 : decode cX7_sagged 11 = .ok (.ireturn, 1) := by decide +kernel
theorem dX7_sagged_12 : decode cX7_sagged 12 = .ok (.aload_n 0, 1) := by decide +kernel
theorem dX7_sagged_13 : decode cX7_sagged 13 = .ok (.getfield 46, 3) := by decide +kernel
theorem dX7_sagged_16 : decode cX7_sagged 16 = .ok (.aload_n 0, 1) := by decide +kernel
theorem dX7_sagged_17 : decode cX7_sagged 17 = .ok (.getfield 27, 3) := by decide +kernel
theorem dX7_sagged_20 : decode cX7_sagged 20 = .ok (.aload_n 0, 1) := by decide +kernel
theorem dX7_sagged_21 : decode cX7_sagged 21 = .ok (.getfield 39, 3) := by decide +kernel
theorem dX7_sagged_24 : decode cX7_sagged 24 = .ok (.getfield 156, 3) := by decide +kernel
theorem dX7_sagged_27 : decode cX7_sagged 27 = .ok (.aload_n 0, 1) := by decide +kernel
theorem dX7_sagged_28 : decode cX7_sagged 28 = .ok (.getfield 11, 3) := by decide +kernel
theorem dX7_sagged_31 : decode cX7_sagged 31 = .ok (.iload_n 1, 1) := by decide +kernel
theorem dX7_sagged_32 : decode cX7_sagged 32 = .ok (.aaload, 1) := by decide +kernel
theorem dX7_sagged_33 : decode cX7_sagged 33 = .ok (.iconst 1, 1) := by decide +kernel
theorem dX7_sagged_34 : decode cX7_sagged 34 = .ok (.invokevirtual 257, 3) := by decide +kernel
theorem dX7_sagged_37 : decode cX7_sagged 37 = .ok (.aload_n 0, 1) := by decide +kernel
theorem dX7_sagged_38 : decode cX7_sagged 38 = .ok (.aload_n 0, 1) := by decide +kernel
theorem dX7_sagged_39 : decode cX7_sagged 39 = .ok (.getfield 46, 3) := by decide +kernel
theorem dX7_sagged_42 : decode cX7_sagged 42 = .ok (.getfield 261, 3) := by decide +kernel
theorem dX7_sagged_45 : decode cX7_sagged 45 = .ok (.i2l, 1) := by decide +kernel
theorem dX7_sagged_46 : decode cX7_sagged 46 = .ok (.lconst 1, 1) := by decide +kernel
theorem dX7_sagged_47 : decode cX7_sagged 47 = .ok (.invokevirtual 272, 3) := by decide +kernel
theorem dX7_sagged_50 : decode cX7_sagged 50 = .ok (.pop, 1) := by decide +kernel
theorem dX7_sagged_51 : decode cX7_sagged 51 = .ok (.aload_n 0, 1) := by decide +kernel
theorem dX7_sagged_52 : decode cX7_sagged 52 = .ok (.aload_n 0, 1) := by decide +kernel
theorem dX7_sagged_53 : decode cX7_sagged 53 = .ok (.getfield 46, 3) := by decide +kernel
theorem dX7_sagged_56 : decode cX7_sagged 56 = .ok (.getfield 276, 3) := by decide +kernel
theorem dX7_sagged_59 : decode cX7_sagged 59 = .ok (.invokevirtual 98, 3) := by decide +kernel
theorem dX7_sagged_62 : decode cX7_sagged 62 = .ok (.ireturn, 1) := by decide +kernel
def P_X7_sagged (a0 : Nat) (x1 : Int32) : PM Int32 :=
cllV 7 a0 (P_X7_refuseStrengths a0 x1) fun v1 =>
ifB (decide (0 ≤ v1)) (
getR 7 6 a0 fun v2 =>
getR 7 3 a0 fun v3 =>
getR 7 5 a0 fun v4 =>
getR 3 0 v4 fun v5 =>
getR 7 0 a0 fun v6 =>
aldR v6 x1 fun v7 =>
cllV 6 v2 (P_X6_waysFor v2 v3 v5 v7 1) fun _ =>
getR 7 6 a0 fun v8 =>
getI 6 7 v8 fun v9 =>
cllV 7 a0 (P_X7_tellShare a0 (Int32.toInt64 v9) 1) fun v10 =>
getR 7 6 a0 fun v11 =>
getI 6 8 v11 fun v12 =>
cllV 7 a0 (P_X7_tellAsked a0 v12) fun v13 =>
pureM v13) (
pureM v1)
set_option maxHeartbeats 4000000 in
set_option maxRecDepth 100000 in
theorem W_X7_sagged {Γ : Cx} (ok : OKc Γ cX7_sagged RX7 16 "sagged") (okr : OKr Γ cX7_sagged (some .int)) (a0 : Nat) (x1 : Int32) : SW Γ iI 0 [some (.ref a0), some (.int x1), none] [] (P_X7_sagged a0 x1) := by
  unfold P_X7_sagged
  refine sw_aload_n (z := a0) (pc' := 1) ok dX7_sagged_0 rfl rfl ?_
  refine sw_iload_n (z := x1) (pc' := 2) ok dX7_sagged_1 rfl rfl ?_
  refine sw_cllV_I (st := []) (as := [.int x1]) (pc' := 5) ok (S_X7_refuseStrengths a0 x1) (by decide) lk_X7_254 rfl dX7_sagged_2 rfl (Nat.le_of_ble_eq_true rfl) rfl (fun v1 => ?_)
  refine sw_istore_n (pc' := 6) (l' := [some (.ref a0), some (.int x1), some (.int v1)]) ok dX7_sagged_5 rfl (Nat.le_of_ble_eq_true rfl) rfl ?_
  refine sw_iload_n (z := v1) (pc' := 7) ok dX7_sagged_6 rfl rfl ?_
  refine sw_if_ge (tgt := 12) (pc' := 10) ok dX7_sagged_7 (by decide) rfl ?_ ?_
  · refine sw_aload_n (z := a0) (pc' := 13) ok dX7_sagged_12 rfl rfl ?_
    refine sw_getR (pc' := 16) ok (fr_X7_46.g) dX7_sagged_13 rfl (fun v2 => ?_)
    refine sw_aload_n (z := a0) (pc' := 17) ok dX7_sagged_16 rfl rfl ?_
    refine sw_getR (pc' := 20) ok (fr_X7_27.g) dX7_sagged_17 rfl (fun v3 => ?_)
    refine sw_aload_n (z := a0) (pc' := 21) ok dX7_sagged_20 rfl rfl ?_
    refine sw_getR (pc' := 24) ok (fr_X7_39.g) dX7_sagged_21 rfl (fun v4 => ?_)
    refine sw_getR (pc' := 27) ok (fr_X7_156) dX7_sagged_24 rfl (fun v5 => ?_)
    refine sw_aload_n (z := a0) (pc' := 28) ok dX7_sagged_27 rfl rfl ?_
    refine sw_getR (pc' := 31) ok (fr_X7_11.g) dX7_sagged_28 rfl (fun v6 => ?_)
    refine sw_iload_n (z := x1) (pc' := 32) ok dX7_sagged_31 rfl rfl ?_
    refine sw_aldR (pc' := 33) ok dX7_sagged_32 rfl (fun v7 => ?_)
    refine sw_iconst (v := 1) (pc' := 34) ok dX7_sagged_33 rfl cc_iconst_1 ?_
    refine sw_cllV_U (st := []) (as := [.ref v3, .ref v5, .ref v7, .int 1]) (pc' := 37) ok (S_X6_waysFor v2 v3 v5 v7 1) (by decide) lk_X7_257 rfl dX7_sagged_34 rfl (Nat.le_of_ble_eq_true rfl) rfl (fun _ => ?_)
    refine sw_aload_n (z := a0) (pc' := 38) ok dX7_sagged_37 rfl rfl ?_
    refine sw_aload_n (z := a0) (pc' := 39) ok dX7_sagged_38 rfl rfl ?_
    refine sw_getR (pc' := 42) ok (fr_X7_46.g) dX7_sagged_39 rfl (fun v8 => ?_)
    refine sw_getI (pc' := 45) ok (fr_X7_261.g) dX7_sagged_42 rfl (fun v9 => ?_)
    refine sw_i2l (pc' := 46) ok dX7_sagged_45 rfl ?_
    refine sw_lconst (v := 1) (pc' := 47) ok dX7_sagged_46 rfl cc_lconst_1 ?_
    refine sw_cllV_I (st := []) (as := [.long (Int32.toInt64 v9), .long 1]) (pc' := 50) ok (S_X7_tellShare a0 (Int32.toInt64 v9) 1) (by decide) lk_X7_272 rfl dX7_sagged_47 rfl (Nat.le_of_ble_eq_true rfl) rfl (fun v10 => ?_)
    refine sw_pop (pc' := 51) ok dX7_sagged_50 rfl rfl ?_
    refine sw_aload_n (z := a0) (pc' := 52) ok dX7_sagged_51 rfl rfl ?_
    refine sw_aload_n (z := a0) (pc' := 53) ok dX7_sagged_52 rfl rfl ?_
    refine sw_getR (pc' := 56) ok (fr_X7_46.g) dX7_sagged_53 rfl (fun v11 => ?_)
    refine sw_getI (pc' := 59) ok (fr_X7_276.g) dX7_sagged_56 rfl (fun v12 => ?_)
    refine sw_cllV_I (st := []) (as := [.int v12]) (pc' := 62) ok (S_X7_tellAsked a0 v12) (by decide) lk_X7_98 rfl dX7_sagged_59 rfl (Nat.le_of_ble_eq_true rfl) rfl (fun v13 => ?_)
    exact sw_ret ok okr dX7_sagged_62 trivial rfl
  refine sw_iload_n (z := v1) (pc' := 11) ok dX7_sagged_10 rfl rfl ?_
  exact sw_ret ok okr dX7_sagged_11 trivial rfl
theorem S_X7_sagged (a0 : Nat) (x1 : Int32) : Sim 16 yX7_sagged cX7_sagged 3 (some .int) iI [.ref a0, .int x1] (P_X7_sagged a0 x1) := Sim.intro wd_1032 (by decide) (by decide +kernel) (Nat.le_of_ble_eq_true rfl) (fun Γ ok okr => W_X7_sagged ok okr a0 x1)
theorem dX7_sure_0 : decode cX7_sure 0 = .ok (.aload_n 0, 1) := by decide +kernel
theorem dX7_sure_1 : decode cX7_sure 1 = .ok (.iload_n 1, 1) := by decide +kernel
theorem dX7_sure_2 : decode cX7_sure 2 = .ok (.invokevirtual 254, 3) := by decide +kernel
theorem dX7_sure_5 : decode cX7_sure 5 = .ok (.istore_n 2, 1) := by decide +kernel
theorem dX7_sure_6 : decode cX7_sure 6 = .ok (.iload_n 2, 1) := by decide +kernel
theorem dX7_sure_7 : decode cX7_sure 7 = .ok (.ifCond .ge 5, 3) := by decide +kernel
theorem dX7_sure_10 : decode cX7_sure 10 = .ok (.iload_n 2, 1) := by decide +kernel
theorem dX7_sure_11 : decode cX7_sure 11 = .ok (.ireturn, 1) := by decide +kernel
theorem dX7_sure_12 : decode cX7_sure 12 = .ok (.aload_n 0, 1) := by decide +kernel
theorem dX7_sure_13 : decode cX7_sure 13 = .ok (.getfield 46, 3) := by decide +kernel
theorem dX7_sure_16 : decode cX7_sure 16 = .ok (.aload_n 0, 1) := by decide +kernel
theorem dX7_sure_17 : decode cX7_sure 17 = .ok (.getfield 27, 3) := by decide +kernel
theorem dX7_sure_20 : decode cX7_sure 20 = .ok (.aload_n 0, 1) := by decide +kernel
theorem dX7_sure_21 : decode cX7_sure 21 = .ok (.getfield 39, 3) := by decide +kernel
theorem dX7_sure_24 : decode cX7_sure 24 = .ok (.getfield 156, 3) := by decide +kernel
theorem dX7_sure_27 : decode cX7_sure 27 = .ok (.aload_n 0, 1) := by decide +kernel
theorem dX7_sure_28 : decode cX7_sure 28 = .ok (.getfield 11, 3) := by decide +kernel
theorem dX7_sure_31 : decode cX7_sure 31 = .ok (.iload_n 1, 1) := by decide +kernel
theorem dX7_sure_32 : decode cX7_sure 32 = .ok (.aaload, 1) := by decide +kernel
theorem dX7_sure_33 : decode cX7_sure 33 = .ok (.iconst 1, 1) := by decide +kernel
theorem dX7_sure_34 : decode cX7_sure 34 = .ok (.invokevirtual 257, 3) := by decide +kernel
theorem dX7_sure_37 : decode cX7_sure 37 = .ok (.aload_n 0, 1) := by decide +kernel
theorem dX7_sure_38 : decode cX7_sure 38 = .ok (.getfield 46, 3) := by decide +kernel
theorem dX7_sure_41 : decode cX7_sure 41 = .ok (.getfield 261, 3) := by decide +kernel
theorem dX7_sure_44 : decode cX7_sure 44 = .ok (.ifCond .ne 9, 3) := by decide +kernel
theorem dX7_sure_47 : decode cX7_sure 47 = .ok (.aload_n 0, 1) := by decide +kernel
theorem dX7_sure_48 : decode cX7_sure 48 = .ok (.iconst 4, 1) := by decide +kernel
theorem dX7_sure_49 : decode cX7_sure 49 = .ok (.invokevirtual 82, 3) := by decide +kernel
theorem dX7_sure_52 : decode cX7_sure 52 = .ok (.ireturn, 1) := by decide +kernel
theorem dX7_sure_53 : decode cX7_sure 53 = .ok (.aload_n 0, 1) := by decide +kernel
theorem dX7_sure_54 : decode cX7_sure 54 = .ok (.aload_n 0, 1) := by decide +kernel
theorem dX7_sure_55 : decode cX7_sure 55 = .ok (.getfield 27, 3) := by decide +kernel
theorem dX7_sure_58 : decode cX7_sure 58 = .ok (.invokevirtual 279, 3) := by decide +kernel
theorem dX7_sure_61 : decode cX7_sure 61 = .ok (.aload_n 0, 1) := by decide +kernel
theorem dX7_sure_62 : decode cX7_sure 62 = .ok (.getfield 46, 3) := by decide +kernel
theorem dX7_sure_65 : decode cX7_sure 65 = .ok (.getfield 282, 3) := by decide +kernel
theorem dX7_sure_68 : decode cX7_sure 68 = .ok (.iconst (-1), 1) := by decide +kernel
theorem dX7_sure_69 : decode cX7_sure 69 = .ok (.ixor, 1) := by decide +kernel
theorem dX7_sure_70 : decode cX7_sure 70 = .ok (.iand, 1) := by decide +kernel
theorem dX7_sure_71 : decode cX7_sure 71 = .ok (.invokevirtual 98, 3) := by decide +kernel
theorem dX7_sure_74 : decode cX7_sure 74 = .ok (.pop, 1) := by decide +kernel
theorem dX7_sure_75 : decode cX7_sure 75 = .ok (.aload_n 0, 1) := by decide +kernel
theorem dX7_sure_76 : decode cX7_sure 76 = .ok (.getfield 46, 3) := by decide +kernel
theorem dX7_sure_79 : decode cX7_sure 79 = .ok (.getfield 285, 3) := by decide +kernel
theorem dX7_sure_82 : decode cX7_sure 82 = .ok (.ireturn, 1) := by decide +kernel
def P_X7_sure (a0 : Nat) (x1 : Int32) : PM Int32 :=
cllV 7 a0 (P_X7_refuseStrengths a0 x1) fun v1 =>
ifB (decide (0 ≤ v1)) (
getR 7 6 a0 fun v2 =>
getR 7 3 a0 fun v3 =>
getR 7 5 a0 fun v4 =>
getR 3 0 v4 fun v5 =>
getR 7 0 a0 fun v6 =>
aldR v6 x1 fun v7 =>
cllV 6 v2 (P_X6_waysFor v2 v3 v5 v7 1) fun _ =>
getR 7 6 a0 fun v8 =>
getI 6 7 v8 fun v9 =>
ifB (decide (¬ v9 = 0)) (
getR 7 3 a0 fun v10 =>
cllV 0 v10 (P_X0_everybody v10) fun v11 =>
getR 7 6 a0 fun v12 =>
getI 6 10 v12 fun v13 =>
cllV 7 a0 (P_X7_tellAsked a0 (v11 &&& (v13 ^^^ ((-1))))) fun v14 =>
getR 7 6 a0 fun v15 =>
getI 6 9 v15 fun v16 =>
pureM v16) (
cllV 7 a0 (P_X7_found a0 4) fun v17 =>
pureM v17)) (
pureM v1)
set_option maxHeartbeats 4000000 in
set_option maxRecDepth 100000 in
theorem W_X7_sure {Γ : Cx} (ok : OKc Γ cX7_sure RX7 16 "sure") (okr : OKr Γ cX7_sure (some .int)) (a0 : Nat) (x1 : Int32) : SW Γ iI 0 [some (.ref a0), some (.int x1), none] [] (P_X7_sure a0 x1) := by
  unfold P_X7_sure
  refine sw_aload_n (z := a0) (pc' := 1) ok dX7_sure_0 rfl rfl ?_
  refine sw_iload_n (z := x1) (pc' := 2) ok dX7_sure_1 rfl rfl ?_
  refine sw_cllV_I (st := []) (as := [.int x1]) (pc' := 5) ok (S_X7_refuseStrengths a0 x1) (by decide) lk_X7_254 rfl dX7_sure_2 rfl (Nat.le_of_ble_eq_true rfl) rfl (fun v1 => ?_)
  refine sw_istore_n (pc' := 6) (l' := [some (.ref a0), some (.int x1), some (.int v1)]) ok dX7_sure_5 rfl (Nat.le_of_ble_eq_true rfl) rfl ?_
  refine sw_iload_n (z := v1) (pc' := 7) ok dX7_sure_6 rfl rfl ?_
  refine sw_if_ge (tgt := 12) (pc' := 10) ok dX7_sure_7 (by decide) rfl ?_ ?_
  · refine sw_aload_n (z := a0) (pc' := 13) ok dX7_sure_12 rfl rfl ?_
    refine sw_getR (pc' := 16) ok (fr_X7_46.g) dX7_sure_13 rfl (fun v2 => ?_)
    refine sw_aload_n (z := a0) (pc' := 17) ok dX7_sure_16 rfl rfl ?_
    refine sw_getR (pc' := 20) ok (fr_X7_27.g) dX7_sure_17 rfl (fun v3 => ?_)
    refine sw_aload_n (z := a0) (pc' := 21) ok dX7_sure_20 rfl rfl ?_
    refine sw_getR (pc' := 24) ok (fr_X7_39.g) dX7_sure_21 rfl (fun v4 => ?_)
    refine sw_getR (pc' := 27) ok (fr_X7_156) dX7_sure_24 rfl (fun v5 => ?_)
    refine sw_aload_n (z := a0) (pc' := 28) ok dX7_sure_27 rfl rfl ?_
    refine sw_getR (pc' := 31) ok (fr_X7_11.g) dX7_sure_28 rfl (fun v6 => ?_)
    refine sw_iload_n (z := x1) (pc' := 32) ok dX7_sure_31 rfl rfl ?_
    refine sw_aldR (pc' := 33) ok dX7_sure_32 rfl (fun v7 => ?_)
    refine sw_iconst (v := 1) (pc' := 34) ok dX7_sure_33 rfl cc_iconst_1 ?_
    refine sw_cllV_U (st := []) (as := [.ref v3, .ref v5, .ref v7, .int 1]) (pc' := 37) ok (S_X6_waysFor v2 v3 v5 v7 1) (by decide) lk_X7_257 rfl dX7_sure_34 rfl (Nat.le_of_ble_eq_true rfl) rfl (fun _ => ?_)
    refine sw_aload_n (z := a0) (pc' := 38) ok dX7_sure_37 rfl rfl ?_
    refine sw_getR (pc' := 41) ok (fr_X7_46.g) dX7_sure_38 rfl (fun v8 => ?_)
    refine sw_getI (pc' := 44) ok (fr_X7_261.g) dX7_sure_41 rfl (fun v9 => ?_)
    refine sw_if_ne (tgt := 53) (pc' := 47) ok dX7_sure_44 (by decide) rfl ?_ ?_
    · refine sw_aload_n (z := a0) (pc' := 54) ok dX7_sure_53 rfl rfl ?_
      refine sw_aload_n (z := a0) (pc' := 55) ok dX7_sure_54 rfl rfl ?_
      refine sw_getR (pc' := 58) ok (fr_X7_27.g) dX7_sure_55 rfl (fun v10 => ?_)
      refine sw_cllV_I (st := [.ref a0]) (as := []) (pc' := 61) ok (S_X0_everybody v10) (by decide) lk_X7_279 rfl dX7_sure_58 rfl (Nat.le_of_ble_eq_true rfl) rfl (fun v11 => ?_)
      refine sw_aload_n (z := a0) (pc' := 62) ok dX7_sure_61 rfl rfl ?_
      refine sw_getR (pc' := 65) ok (fr_X7_46.g) dX7_sure_62 rfl (fun v12 => ?_)
      refine sw_getI (pc' := 68) ok (fr_X7_282.g) dX7_sure_65 rfl (fun v13 => ?_)
      refine sw_iconst (v := (-1)) (pc' := 69) ok dX7_sure_68 rfl cc_iconst_m1 ?_
      refine sw_ixor (pc' := 70) ok dX7_sure_69 rfl ?_
      refine sw_iand (pc' := 71) ok dX7_sure_70 rfl ?_
      refine sw_cllV_I (st := []) (as := [.int (v11 &&& (v13 ^^^ ((-1))))]) (pc' := 74) ok (S_X7_tellAsked a0 (v11 &&& (v13 ^^^ ((-1))))) (by decide) lk_X7_98 rfl dX7_sure_71 rfl (Nat.le_of_ble_eq_true rfl) rfl (fun v14 => ?_)
      refine sw_pop (pc' := 75) ok dX7_sure_74 rfl rfl ?_
      refine sw_aload_n (z := a0) (pc' := 76) ok dX7_sure_75 rfl rfl ?_
      refine sw_getR (pc' := 79) ok (fr_X7_46.g) dX7_sure_76 rfl (fun v15 => ?_)
      refine sw_getI (pc' := 82) ok (fr_X7_285.g) dX7_sure_79 rfl (fun v16 => ?_)
      exact sw_ret ok okr dX7_sure_82 trivial rfl
    refine sw_aload_n (z := a0) (pc' := 48) ok dX7_sure_47 rfl rfl ?_
    refine sw_iconst (v := 4) (pc' := 49) ok dX7_sure_48 rfl cc_iconst_4 ?_
    refine sw_cllV_I (st := []) (as := [.int 4]) (pc' := 52) ok (S_X7_found a0 4) (by decide) lk_X7_82 rfl dX7_sure_49 rfl (Nat.le_of_ble_eq_true rfl) rfl (fun v17 => ?_)
    exact sw_ret ok okr dX7_sure_52 trivial rfl
  refine sw_iload_n (z := v1) (pc' := 11) ok dX7_sure_10 rfl rfl ?_
  exact sw_ret ok okr dX7_sure_11 trivial rfl
theorem S_X7_sure (a0 : Nat) (x1 : Int32) : Sim 16 yX7_sure cX7_sure 3 (some .int) iI [.ref a0, .int x1] (P_X7_sure a0 x1) := Sim.intro wd_1033 (by decide) (by decide +kernel) (Nat.le_of_ble_eq_true rfl) (fun Γ ok okr => W_X7_sure ok okr a0 x1)
