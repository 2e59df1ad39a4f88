/-! Programs and walks, printed by program (gen.py). -/
theorem dX7_mid_0 : decode cX7_mid 0 = .ok (.aload_n 0, 1) := by decide +kernel
theorem dX7_mid_1 : decode cX7_mid 1 = .ok (.getfield 27, 3) := by decide +kernel
theorem dX7_mid_4 : decode cX7_mid 4 = .ok (.iload_n 1, 1) := by decide +kernel
theorem dX7_mid_5 : decode cX7_mid 5 = .ok (.iload_n 2, 1) := by decide +kernel
theorem dX7_mid_6 : decode cX7_mid 6 = .ok (.invokevirtual 184, 3) := by decide +kernel
theorem dX7_mid_9 : decode cX7_mid 9 = .ok (.ifCond .eq 10, 3) := by decide +kernel
theorem dX7_mid_12 : decode cX7_mid 12 = .ok (.iload_n 3, 1) := by decide +kernel
theorem dX7_mid_13 : decode cX7_mid 13 = .ok (.invokestatic 316, 3) := by decide +kernel
theorem dX7_mid_16 : decode cX7_mid 16 = .ok (.ifCond .ne 5, 3) := by decide +kernel
theorem dX7_mid_19 : decode cX7_mid 19 = .ok (.iconst (-1), 1) := by decide +kernel
theorem dX7_mid_20 : decode cX7_mid 20 = .ok (.ireturn, 1) := by decide +kernel
theorem dX7_mid_21 : decode cX7_mid 21 = .ok (.lconst 0, 1) := by decide +kernel
theorem dX7_mid_22 : decode cX7_mid 22 = .ok (.lstore 4, 2) := by decide +kernel
theorem dX7_mid_24 : decode cX7_mid 24 = .ok (.iconst 0, 1) := by decide +kernel
theorem dX7_mid_25 : decode cX7_mid 25 = .ok (.istore 6, 2) := by decide +kernel
theorem dX7_mid_27 : decode cX7_mid 27 = .ok (.iload 6, 2) := by decide +kernel
theorem dX7_mid_29 : decode cX7_mid 29 = .ok (.iconst 4, 1) := by decide +kernel
theorem dX7_mid_30 : decode cX7_mid 30 = .ok (.if_icmp .ge 41, 3) := by decide +kernel
theorem dX7_mid_33 : decode cX7_mid 33 = .ok (.lload 4, 2) := by decide +kernel
theorem dX7_mid_35 : decode cX7_mid 35 = .ok (.aload_n 0, 1) := by decide +kernel
theorem dX7_mid_36 : decode cX7_mid 36 = .ok (.getfield 39, 3) := by decide +kernel
theorem dX7_mid_39 : decode cX7_mid 39 = .ok (.getfield 156, 3) := by decide +kernel
theorem dX7_mid_42 : decode cX7_mid 42 = .ok (.aload_n 0, 1) := by decide +kernel
theorem dX7_mid_43 : decode cX7_mid 43 = .ok (.getfield 27, 3) := by decide +kernel
theorem dX7_mid_46 : decode cX7_mid 46 = .ok (.iload_n 1, 1) := by decide +kernel
theorem dX7_mid_47 : decode cX7_mid 47 = .ok (.iload_n 2, 1) := by decide +kernel
theorem dX7_mid_48 : decode cX7_mid 48 = .ok (.iload 6, 2) := by decide +kernel
theorem dX7_mid_50 : decode cX7_mid 50 = .ok (.invokevirtual 319, 3) := by decide +kernel
theorem dX7_mid_53 : decode cX7_mid 53 = .ok (.i2l, 1) := by decide +kernel
theorem dX7_mid_54 : decode cX7_mid 54 = .ok (.iload 6, 2) := by decide +kernel
theorem dX7_mid_56 : decode cX7_mid 56 = .ok (.iload_n 3, 1) := by decide +kernel
theorem dX7_mid_57 : decode cX7_mid 57 = .ok (.invokestatic 323, 3) := by decide +kernel
theorem dX7_mid_60 : decode cX7_mid 60 = .ok (.i2l, 1) := by decide +kernel
theorem dX7_mid_61 : decode cX7_mid 61 = .ok (.lmul, 1) := by decide +kernel
theorem dX7_mid_62 : decode cX7_mid 62 = .ok (.ladd, 1) := by decide +kernel
theorem dX7_mid_63 : decode cX7_mid 63 = .ok (.lstore 4, 2) := by decide +kernel
theorem dX7_mid_65 : decode cX7_mid 65 = .ok (.iinc 6 1, 3) := by decide +kernel
theorem dX7_mid_68 : decode cX7_mid 68 = .ok (.goto (-41), 3) := by decide +kernel
theorem dX7_mid_71 : decode cX7_mid 71 = .ok (.aload_n 0, 1) := by decide +kernel
theorem dX7_mid_72 : decode cX7_mid 72 = .ok (.lload 4, 2) := by decide +kernel
theorem dX7_mid_74 : decode cX7_mid 74 = .ok (.ldc2_w 326, 3) := by decide +kernel
theorem dX7_mid_77 : decode cX7_mid 77 = .ok (.invokevirtual 272, 3) := by decide +kernel
theorem dX7_mid_80 : decode cX7_mid 80 = .ok (.ireturn, 1) := by decide +kernel
def P_X7_mid_27 (k_71 : Int64 → PM Int32) (p0 : Nat) (p1 : Int32) (p2 : Int32) (p3 : Int32) : Nat → Int64 → Int32 → PM Int32
  | 0, _, _ => failM
  | n + 1, q4, q6 =>
    ifB (decide (4 ≤ q6)) (
    k_71 q4) (
    getR 7 5 p0 fun v7 =>
    getR 3 0 v7 fun v8 =>
    getR 7 3 p0 fun v9 =>
    cllV 1 v8 (P_X1_behindHalfAsleep v8 v9 p1 p2 q6) fun v10 =>
    cll0 (P_X7_sleepWeight q6 p3) fun v11 =>
    P_X7_mid_27 k_71 p0 p1 p2 p3 n (q4 + ((Int32.toInt64 v10) * (Int32.toInt64 v11))) (q6 + 1))
def P_X7_mid (a0 : Nat) (x1 : Int32) (x2 : Int32) (x3 : Int32) : PM Int32 :=
getR 7 3 a0 fun v1 =>
cllV 0 v1 (P_X0_isPair v1 x1 x2) fun v2 =>
ifB (decide (v2 = 0)) (
pureM ((-1))) (
cll0 (P_X7_isPart x3) fun v3 =>
ifB (decide (¬ v3 = 0)) (
jn (fun (e4 : Int64) =>
cllV 7 a0 (P_X7_tellShare a0 e4 144) fun v5 =>
pureM v5) fun k6 =>
P_X7_mid_27 k6 a0 x1 x2 x3 4000 0 0) (
pureM ((-1))))
set_option maxHeartbeats 4000000 in
set_option maxRecDepth 100000 in
theorem W_X7_mid_27 {Γ : Cx} (ok : OKc Γ cX7_mid RX7 5 "mid") (okr : OKr Γ cX7_mid (some .int)) (k_71 : Int64 → PM Int32) (p0 : Nat) (p1 : Int32) (p2 : Int32) (p3 : Int32) (hk_71 : ∀ (y4 : Int64), SW Γ iI 71 [some (.ref p0), none, none, none, some (.long y4), none, none] [] (k_71 y4)) : ∀ (n : Nat) (q4 : Int64) (q6 : Int32), SW Γ iI 27 [some (.ref p0), some (.int p1), some (.int p2), some (.int p3), some (.long q4), none, some (.int q6)] [] (P_X7_mid_27 k_71 p0 p1 p2 p3 n q4 q6) := by
  intro n
  induction n with
  | zero =>
    intros
    exact sw_fail
  | succ n ih =>
    intro q4 q6
    unfold P_X7_mid_27
    refine sw_iload (z := q6) (pc' := 29) ok dX7_mid_27 rfl rfl ?_
    refine sw_iconst (v := 4) (pc' := 30) ok dX7_mid_29 rfl cc_iconst_4 ?_
    refine sw_icmp_ge (tgt := 71) (pc' := 33) ok dX7_mid_30 (by decide) rfl ?_ ?_
    · refine sw_fg (l' := [some (.ref p0), none, none, none, some (.long q4), none, none]) [true, false, false, false, true, false, false] rfl ?_
      exact hk_71 q4
    refine sw_lload (z := q4) (pc' := 35) ok dX7_mid_33 rfl rfl ?_
    refine sw_aload_n (z := p0) (pc' := 36) ok dX7_mid_35 rfl rfl ?_
    refine sw_getR (pc' := 39) ok (fr_X7_39.g) dX7_mid_36 rfl (fun v7 => ?_)
    refine sw_getR (pc' := 42) ok (fr_X7_156) dX7_mid_39 rfl (fun v8 => ?_)
    refine sw_aload_n (z := p0) (pc' := 43) ok dX7_mid_42 rfl rfl ?_
    refine sw_getR (pc' := 46) ok (fr_X7_27.g) dX7_mid_43 rfl (fun v9 => ?_)
    refine sw_iload_n (z := p1) (pc' := 47) ok dX7_mid_46 rfl rfl ?_
    refine sw_iload_n (z := p2) (pc' := 48) ok dX7_mid_47 rfl rfl ?_
    refine sw_iload (z := q6) (pc' := 50) ok dX7_mid_48 rfl rfl ?_
    refine sw_cllV_I (st := [.long q4]) (as := [.ref v9, .int p1, .int p2, .int q6]) (pc' := 53) ok (S_X1_behindHalfAsleep v8 v9 p1 p2 q6) (by decide) lk_X7_319 rfl dX7_mid_50 rfl (Nat.le_of_ble_eq_true rfl) rfl (fun v10 => ?_)
    refine sw_i2l (pc' := 54) ok dX7_mid_53 rfl ?_
    refine sw_iload (z := q6) (pc' := 56) ok dX7_mid_54 rfl rfl ?_
    refine sw_iload_n (z := p3) (pc' := 57) ok dX7_mid_56 rfl rfl ?_
    refine sw_cll0_I (st := [.long (Int32.toInt64 v10), .long q4]) (as := [.int q6, .int p3]) (pc' := 60) ok (S_X7_sleepWeight q6 p3) (by decide) lk_X7_323 rfl dX7_mid_57 rfl (Nat.le_of_ble_eq_true rfl) rfl (fun v11 => ?_)
    refine sw_i2l (pc' := 61) ok dX7_mid_60 rfl ?_
    refine sw_lmul (pc' := 62) ok dX7_mid_61 rfl ?_
    refine sw_ladd (pc' := 63) ok dX7_mid_62 rfl ?_
    refine sw_lstore (pc' := 65) (l' := [some (.ref p0), some (.int p1), some (.int p2), some (.int p3), some (.long (q4 + ((Int32.toInt64 v10) * (Int32.toInt64 v11)))), none, some (.int q6)]) ok dX7_mid_63 rfl (Nat.le_of_ble_eq_true rfl) rfl ?_
    refine sw_iinc (z := q6) (v := q6 + 1) (pc' := 68) (l' := [some (.ref p0), some (.int p1), some (.int p2), some (.int p3), some (.long (q4 + ((Int32.toInt64 v10) * (Int32.toInt64 v11)))), none, some (.int (q6 + 1))]) ok dX7_mid_65 rfl rfl (by rw [cc_iconst_1]) rfl ?_
    refine sw_goto (tgt := 27) ok dX7_mid_68 (by decide) ?_
    exact ih (q4 + ((Int32.toInt64 v10) * (Int32.toInt64 v11))) (q6 + 1)
set_option maxHeartbeats 4000000 in
set_option maxRecDepth 100000 in
theorem W_X7_mid {Γ : Cx} (ok : OKc Γ cX7_mid RX7 5 "mid") (okr : OKr Γ cX7_mid (some .int)) (a0 : Nat) (x1 : Int32) (x2 : Int32) (x3 : Int32) : SW Γ iI 0 [some (.ref a0), some (.int x1), some (.int x2), some (.int x3), none, none, none] [] (P_X7_mid a0 x1 x2 x3) := by
  unfold P_X7_mid
  refine sw_aload_n (z := a0) (pc' := 1) ok dX7_mid_0 rfl rfl ?_
  refine sw_getR (pc' := 4) ok (fr_X7_27.g) dX7_mid_1 rfl (fun v1 => ?_)
  refine sw_iload_n (z := x1) (pc' := 5) ok dX7_mid_4 rfl rfl ?_
  refine sw_iload_n (z := x2) (pc' := 6) ok dX7_mid_5 rfl rfl ?_
  refine sw_cllV_I (st := []) (as := [.int x1, .int x2]) (pc' := 9) ok (S_X0_isPair v1 x1 x2) (by decide) lk_X7_184 rfl dX7_mid_6 rfl (Nat.le_of_ble_eq_true rfl) rfl (fun v2 => ?_)
  refine sw_if_eq (tgt := 19) (pc' := 12) ok dX7_mid_9 (by decide) rfl ?_ ?_
  · refine sw_iconst (v := (-1)) (pc' := 20) ok dX7_mid_19 rfl cc_iconst_m1 ?_
    exact sw_ret ok okr dX7_mid_20 trivial rfl
  refine sw_iload_n (z := x3) (pc' := 13) ok dX7_mid_12 rfl rfl ?_
  refine sw_cll0_I (st := []) (as := [.int x3]) (pc' := 16) ok (S_X7_isPart x3) (by decide) lk_X7_316 rfl dX7_mid_13 rfl (Nat.le_of_ble_eq_true rfl) rfl (fun v3 => ?_)
  refine sw_if_ne (tgt := 21) (pc' := 19) ok dX7_mid_16 (by decide) rfl ?_ ?_
  · refine sw_lconst (v := 0) (pc' := 22) ok dX7_mid_21 rfl cc_lconst_0 ?_
    refine sw_lstore (pc' := 24) (l' := [some (.ref a0), some (.int x1), some (.int x2), some (.int x3), some (.long 0), none, none]) ok dX7_mid_22 rfl (Nat.le_of_ble_eq_true rfl) rfl ?_
    refine sw_iconst (v := 0) (pc' := 25) ok dX7_mid_24 rfl cc_iconst_0 ?_
    refine sw_istore (pc' := 27) (l' := [some (.ref a0), some (.int x1), some (.int x2), some (.int x3), some (.long 0), none, some (.int 0)]) ok dX7_mid_25 rfl (Nat.le_of_ble_eq_true rfl) rfl ?_
    refine sw_jn (fun k6 : Int64 → PM Int32 => ∀ (e4 : Int64), SW Γ iI 71 [some (.ref a0), none, none, none, some (.long e4), none, none] [] (k6 e4)) ?_ (fun k6 hk6 => ?_)
    · intro e4
      refine sw_aload_n (z := a0) (pc' := 72) ok dX7_mid_71 rfl rfl ?_
      refine sw_lload (z := e4) (pc' := 74) ok dX7_mid_72 rfl rfl ?_
      refine sw_ldc2 (v := 144) (pc' := 77) ok dX7_mid_74 rfl wd_399 ?_
      refine sw_cllV_I (st := []) (as := [.long e4, .long 144]) (pc' := 80) ok (S_X7_tellShare a0 e4 144) (by decide) lk_X7_272 rfl dX7_mid_77 rfl (Nat.le_of_ble_eq_true rfl) rfl (fun v5 => ?_)
      exact sw_ret ok okr dX7_mid_80 trivial rfl
    exact W_X7_mid_27 ok okr k6 a0 x1 x2 x3 hk6 4000 0 0
  refine sw_iconst (v := (-1)) (pc' := 20) ok dX7_mid_19 rfl cc_iconst_m1 ?_
  exact sw_ret ok okr dX7_mid_20 trivial rfl
theorem S_X7_mid (a0 : Nat) (x1 : Int32) (x2 : Int32) (x3 : Int32) : Sim 5 yX7_mid cX7_mid 7 (some .int) iI [.ref a0, .int x1, .int x2, .int x3] (P_X7_mid a0 x1 x2 x3) := Sim.intro wd_1047 (by decide) (by decide +kernel) (Nat.le_of_ble_eq_true rfl) (fun Γ ok okr => W_X7_mid ok okr a0 x1 x2 x3)
theorem dX7_doByLot_0 : decode cX7_doByLot 0 = .ok (.aload_n 0, 1) := by decide +kernel
theorem dX7_doByLot_1 : decode cX7_doByLot 1 = .ok (.getfield 27, 3) := by decide +kernel
theorem dX7_doByLot_4 : decode cX7_doByLot 4 = .ok (.getfield 143, 3) := by decide +kernel
theorem dX7_doByLot_7 : decode cX7_doByLot 7 = .ok (.istore_n 3, 1) := by decide +kernel
theorem dX7_doByLot_8 : decode cX7_doByLot 8 = .ok (.iload_n 3, 1) := by decide +kernel
theorem dX7_doByLot_9 : decode cX7_doByLot 9 = .ok (.iconst 2, 1) := by decide +kernel
theorem dX7_doByLot_10 : decode cX7_doByLot 10 = .ok (.if_icmp .ge 4, 3) := by decide +kernel
theorem dX7_doByLot_13 : decode cX7_doByLot 13 = .ok (.return_, 1) := by decide +kernel
theorem dX7_doByLot_14 : decode cX7_doByLot 14 = .ok (.lload_n 1, 1) := by decide +kernel
theorem dX7_doByLot_15 : decode cX7_doByLot 15 = .ok (.ldc2_w 399, 3) := by decide +kernel
theorem dX7_doByLot_18 : decode cX7_doByLot 18 = .ok (.lrem, 1) := by decide +kernel
theorem dX7_doByLot_19 : decode cX7_doByLot 19 = .ok (.lconst 0, 1) := by decide +kernel
theorem dX7_doByLot_20 : decode cX7_doByLot 20 = .ok (.lcmp, 1) := by decide +kernel
theorem dX7_doByLot_21 : decode cX7_doByLot 21 = .ok (.ifCond .ne 22, 3) := by decide +kernel
theorem dX7_doByLot_24 : decode cX7_doByLot 24 = .ok (.aload_n 0, 1) := by decide +kernel
theorem dX7_doByLot_25 : decode cX7_doByLot 25 = .ok (.getfield 39, 3) := by decide +kernel
theorem dX7_doByLot_28 : decode cX7_doByLot 28 = .ok (.lload_n 1, 1) := by decide +kernel
theorem dX7_doByLot_29 : decode cX7_doByLot 29 = .ok (.ldc2_w 401, 3) := by decide +kernel
theorem dX7_doByLot_32 : decode cX7_doByLot 32 = .ok (.ldiv, 1) := by decide +kernel
theorem dX7_doByLot_33 : decode cX7_doByLot 33 = .ok (.ldc2_w 403, 3) := by decide +kernel
theorem dX7_doByLot_36 : decode cX7_doByLot 36 = .ok (.lrem, 1) := by decide +kernel
theorem dX7_doByLot_37 : decode cX7_doByLot 37 = .ok (.l2i, 1) := by decide +kernel
theorem dX7_doByLot_38 : decode cX7_doByLot 38 = .ok (.invokevirtual 204, 3) := by decide +kernel
theorem dX7_doByLot_41 : decode cX7_doByLot 41 = .ok (.pop, 1) := by decide +kernel
theorem dX7_doByLot_42 : decode cX7_doByLot 42 = .ok (.return_, 1) := by decide +kernel
theorem dX7_doByLot_43 : decode cX7_doByLot 43 = .ok (.lload_n 1, 1) := by decide +kernel
theorem dX7_doByLot_44 : decode cX7_doByLot 44 = .ok (.ldc2_w 401, 3) := by decide +kernel
theorem dX7_doByLot_47 : decode cX7_doByLot 47 = .ok (.ldiv, 1) := by decide +kernel
theorem dX7_doByLot_48 : decode cX7_doByLot 48 = .ok (.iload_n 3, 1) := by decide +kernel
theorem dX7_doByLot_49 : decode cX7_doByLot 49 = .ok (.i2l, 1) := by decide +kernel
theorem dX7_doByLot_50 : decode cX7_doByLot 50 = .ok (.lrem, 1) := by decide +kernel
theorem dX7_doByLot_51 : decode cX7_doByLot 51 = .ok (.l2i, 1) := by decide +kernel
theorem dX7_doByLot_52 : decode cX7_doByLot 52 = .ok (.istore 4, 2) := by decide +kernel
theorem dX7_doByLot_54 : decode cX7_doByLot 54 = .ok (.iconst 1, 1) := by decide +kernel
theorem dX7_doByLot_55 : decode cX7_doByLot 55 = .ok (.lload_n 1, 1) := by decide +kernel
theorem dX7_doByLot_56 : decode cX7_doByLot 56 = .ok (.ldc2_w 405, 3) := by decide +kernel
theorem dX7_doByLot_59 : decode cX7_doByLot 59 = .ok (.ldiv, 1) := by decide +kernel
theorem dX7_doByLot_60 : decode cX7_doByLot 60 = .ok (.iload_n 3, 1) := by decide +kernel
theorem dX7_doByLot_61 : decode cX7_doByLot 61 = .ok (.iconst 1, 1) := by decide +kernel
theorem dX7_doByLot_62 : decode cX7_doByLot 62 = .ok (.isub, 1) := by decide +kernel
theorem dX7_doByLot_63 : decode cX7_doByLot 63 = .ok (.i2l, 1) := by decide +kernel
theorem dX7_doByLot_64 : decode cX7_doByLot 64 = .ok (.lrem, 1) := by decide +kernel
theorem dX7_doByLot_65 : decode cX7_doByLot 65 = .ok (.l2i, 1) := by decide +kernel
theorem dX7_doByLot_66 : decode cX7_doByLot 66 = .ok (.iadd, 1) := by decide +kernel
theorem dX7_doByLot_67 : decode cX7_doByLot 67 = .ok (.istore 5, 2) := by decide +kernel
theorem dX7_doByLot_69 : decode cX7_doByLot 69 = .ok (.aload_n 0, 1) := by decide +kernel
theorem dX7_doByLot_70 : decode cX7_doByLot 70 = .ok (.getfield 39, 3) := by decide +kernel
theorem dX7_doByLot_73 : decode cX7_doByLot 73 = .ok (.aload_n 0, 1) := by decide +kernel
theorem dX7_doByLot_74 : decode cX7_doByLot 74 = .ok (.getfield 27, 3) := by decide +kernel
theorem dX7_doByLot_77 : decode cX7_doByLot 77 = .ok (.iload 4, 2) := by decide +kernel
theorem dX7_doByLot_79 : decode cX7_doByLot 79 = .ok (.iload 4, 2) := by decide +kernel
theorem dX7_doByLot_81 : decode cX7_doByLot 81 = .ok (.iload 5, 2) := by decide +kernel
theorem dX7_doByLot_83 : decode cX7_doByLot 83 = .ok (.iadd, 1) := by decide +kernel
theorem dX7_doByLot_84 : decode cX7_doByLot 84 = .ok (.iload_n 3, 1) := by decide +kernel
theorem dX7_doByLot_85 : decode cX7_doByLot 85 = .ok (.irem, 1) := by decide +kernel
theorem dX7_doByLot_86 : decode cX7_doByLot 86 = .ok (.invokevirtual 194, 3) := by decide +kernel
theorem dX7_doByLot_89 : decode cX7_doByLot 89 = .ok (.pop, 1) := by decide +kernel
theorem dX7_doByLot_90 : decode cX7_doByLot 90 = .ok (.return_, 1) := by decide +kernel
def P_X7_doByLot (a0 : Nat) (x1 : Int64) : PM Unit :=
getR 7 3 a0 fun v1 =>
getI 0 4 v1 fun v2 =>
ifB (decide (2 ≤ v2)) (
remL x1 4 fun v3 =>
ifB (decide (¬ (lg_cmp v3 0) = 0)) (
divL x1 8 fun v4 =>
remL v4 (Int32.toInt64 v2) fun v5 =>
divL x1 64 fun v6 =>
remL v6 (Int32.toInt64 (v2 - 1)) fun v7 =>
getR 7 5 a0 fun v8 =>
getR 7 3 a0 fun v9 =>
remI ((Int64.toInt32 v5) + (1 + (Int64.toInt32 v7))) v2 fun v10 =>
cllV 3 v8 (P_X3_doWatch v8 v9 (Int64.toInt32 v5) v10) fun v11 =>
pureM ()) (
getR 7 5 a0 fun v12 =>
divL x1 8 fun v13 =>
remL v13 30 fun v14 =>
cllV 3 v12 (P_X3_doLoad v12 (Int64.toInt32 v14)) fun v15 =>
pureM ())) (
pureM ())
set_option maxHeartbeats 4000000 in
set_option maxRecDepth 100000 in
theorem W_X7_doByLot {Γ : Cx} (ok : OKc Γ cX7_doByLot RX7 5 "doByLot") (okr : OKr Γ cX7_doByLot (none)) (a0 : Nat) (x1 : Int64) : SW Γ iU 0 [some (.ref a0), some (.long x1), none, none, none, none] [] (P_X7_doByLot a0 x1) := by
  unfold P_X7_doByLot
  refine sw_aload_n (z := a0) (pc' := 1) ok dX7_doByLot_0 rfl rfl ?_
  refine sw_getR (pc' := 4) ok (fr_X7_27.g) dX7_doByLot_1 rfl (fun v1 => ?_)
  refine sw_getI (pc' := 7) ok (fr_X7_143.g) dX7_doByLot_4 rfl (fun v2 => ?_)
  refine sw_istore_n (pc' := 8) (l' := [some (.ref a0), some (.long x1), none, some (.int v2), none, none]) ok dX7_doByLot_7 rfl (Nat.le_of_ble_eq_true rfl) rfl ?_
  refine sw_iload_n (z := v2) (pc' := 9) ok dX7_doByLot_8 rfl rfl ?_
  refine sw_iconst (v := 2) (pc' := 10) ok dX7_doByLot_9 rfl cc_iconst_2 ?_
  refine sw_icmp_ge (tgt := 14) (pc' := 13) ok dX7_doByLot_10 (by decide) rfl ?_ ?_
  · refine sw_lload_n (z := x1) (pc' := 15) ok dX7_doByLot_14 rfl rfl ?_
    refine sw_ldc2 (v := 4) (pc' := 18) ok dX7_doByLot_15 rfl wd_448 ?_
    refine sw_remL (pc' := 19) ok dX7_doByLot_18 rfl (fun v3 => ?_)
    refine sw_lconst (v := 0) (pc' := 20) ok dX7_doByLot_19 rfl cc_lconst_0 ?_
    refine sw_lcmp (pc' := 21) ok dX7_doByLot_20 rfl ?_
    refine sw_if_ne (tgt := 43) (pc' := 24) ok dX7_doByLot_21 (by decide) rfl ?_ ?_
    · refine sw_lload_n (z := x1) (pc' := 44) ok dX7_doByLot_43 rfl rfl ?_
      refine sw_ldc2 (v := 8) (pc' := 47) ok dX7_doByLot_44 rfl wd_449 ?_
      refine sw_divL (pc' := 48) ok dX7_doByLot_47 rfl (fun v4 => ?_)
      refine sw_iload_n (z := v2) (pc' := 49) ok dX7_doByLot_48 rfl rfl ?_
      refine sw_i2l (pc' := 50) ok dX7_doByLot_49 rfl ?_
      refine sw_remL (pc' := 51) ok dX7_doByLot_50 rfl (fun v5 => ?_)
      refine sw_l2i (pc' := 52) ok dX7_doByLot_51 rfl ?_
      refine sw_istore (pc' := 54) (l' := [some (.ref a0), some (.long x1), none, some (.int v2), some (.int (Int64.toInt32 v5)), none]) ok dX7_doByLot_52 rfl (Nat.le_of_ble_eq_true rfl) rfl ?_
      refine sw_iconst (v := 1) (pc' := 55) ok dX7_doByLot_54 rfl cc_iconst_1 ?_
      refine sw_lload_n (z := x1) (pc' := 56) ok dX7_doByLot_55 rfl rfl ?_
      refine sw_ldc2 (v := 64) (pc' := 59) ok dX7_doByLot_56 rfl wd_450 ?_
      refine sw_divL (pc' := 60) ok dX7_doByLot_59 rfl (fun v6 => ?_)
      refine sw_iload_n (z := v2) (pc' := 61) ok dX7_doByLot_60 rfl rfl ?_
      refine sw_iconst (v := 1) (pc' := 62) ok dX7_doByLot_61 rfl cc_iconst_1 ?_
      refine sw_isub (pc' := 63) ok dX7_doByLot_62 rfl ?_
      refine sw_i2l (pc' := 64) ok dX7_doByLot_63 rfl ?_
      refine sw_remL (pc' := 65) ok dX7_doByLot_64 rfl (fun v7 => ?_)
      refine sw_l2i (pc' := 66) ok dX7_doByLot_65 rfl ?_
      refine sw_iadd (pc' := 67) ok dX7_doByLot_66 rfl ?_
      refine sw_istore (pc' := 69) (l' := [some (.ref a0), some (.long x1), none, some (.int v2), some (.int (Int64.toInt32 v5)), some (.int (1 + (Int64.toInt32 v7)))]) ok dX7_doByLot_67 rfl (Nat.le_of_ble_eq_true rfl) rfl ?_
      refine sw_aload_n (z := a0) (pc' := 70) ok dX7_doByLot_69 rfl rfl ?_
      refine sw_getR (pc' := 73) ok (fr_X7_39.g) dX7_doByLot_70 rfl (fun v8 => ?_)
      refine sw_aload_n (z := a0) (pc' := 74) ok dX7_doByLot_73 rfl rfl ?_
      refine sw_getR (pc' := 77) ok (fr_X7_27.g) dX7_doByLot_74 rfl (fun v9 => ?_)
      refine sw_iload (z := (Int64.toInt32 v5)) (pc' := 79) ok dX7_doByLot_77 rfl rfl ?_
      refine sw_iload (z := (Int64.toInt32 v5)) (pc' := 81) ok dX7_doByLot_79 rfl rfl ?_
      refine sw_iload (z := (1 + (Int64.toInt32 v7))) (pc' := 83) ok dX7_doByLot_81 rfl rfl ?_
      refine sw_iadd (pc' := 84) ok dX7_doByLot_83 rfl ?_
      refine sw_iload_n (z := v2) (pc' := 85) ok dX7_doByLot_84 rfl rfl ?_
      refine sw_remI (pc' := 86) ok dX7_doByLot_85 rfl (fun v10 => ?_)
      refine sw_cllV_I (st := []) (as := [.ref v9, .int (Int64.toInt32 v5), .int v10]) (pc' := 89) ok (S_X3_doWatch v8 v9 (Int64.toInt32 v5) v10) (by decide) lk_X7_194 rfl dX7_doByLot_86 rfl (Nat.le_of_ble_eq_true rfl) rfl (fun v11 => ?_)
      refine sw_pop (pc' := 90) ok dX7_doByLot_89 rfl rfl ?_
      exact sw_ret ok okr dX7_doByLot_90 trivial rfl
    refine sw_aload_n (z := a0) (pc' := 25) ok dX7_doByLot_24 rfl rfl ?_
    refine sw_getR (pc' := 28) ok (fr_X7_39.g) dX7_doByLot_25 rfl (fun v12 => ?_)
    refine sw_lload_n (z := x1) (pc' := 29) ok dX7_doByLot_28 rfl rfl ?_
    refine sw_ldc2 (v := 8) (pc' := 32) ok dX7_doByLot_29 rfl wd_449 ?_
    refine sw_divL (pc' := 33) ok dX7_doByLot_32 rfl (fun v13 => ?_)
    refine sw_ldc2 (v := 30) (pc' := 36) ok dX7_doByLot_33 rfl wd_451 ?_
    refine sw_remL (pc' := 37) ok dX7_doByLot_36 rfl (fun v14 => ?_)
    refine sw_l2i (pc' := 38) ok dX7_doByLot_37 rfl ?_
    refine sw_cllV_I (st := []) (as := [.int (Int64.toInt32 v14)]) (pc' := 41) ok (S_X3_doLoad v12 (Int64.toInt32 v14)) (by decide) lk_X7_204 rfl dX7_doByLot_38 rfl (Nat.le_of_ble_eq_true rfl) rfl (fun v15 => ?_)
    refine sw_pop (pc' := 42) ok dX7_doByLot_41 rfl rfl ?_
    exact sw_ret ok okr dX7_doByLot_42 trivial rfl
  exact sw_ret ok okr dX7_doByLot_13 trivial rfl
theorem S_X7_doByLot (a0 : Nat) (x1 : Int64) : Sim 5 yX7_doByLot cX7_doByLot 6 (none) iU [.ref a0, .long x1] (P_X7_doByLot a0 x1) := Sim.intro wd_1048 (by decide) (by decide +kernel) (Nat.le_of_ble_eq_true rfl) (fun Γ ok okr => W_X7_doByLot ok okr a0 x1)
theorem dX7_lots_0 : decode cX7_lots 0 = .ok (.iload_n 1, 1) := by decide +kernel
theorem dX7_lots_1 : decode cX7_lots 1 = .ok (.iconst 1, 1) := by decide +kernel
theorem dX7_lots_2 : decode cX7_lots 2 = .ok (.if_icmp .lt 23, 3) := by decide +kernel
theorem dX7_lots_5 : decode cX7_lots 5 = .ok (.iload_n 1, 1) := by decide +kernel
theorem dX7_lots_6 : decode cX7_lots 6 = .ok (.bipush 20, 2) := by decide +kernel
theorem dX7_lots_8 : decode cX7_lots 8 = .ok (.if_icmp .gt 17, 3) := by decide +kernel
theorem dX7_lots_11 : decode cX7_lots 11 = .ok (.iload_n 2, 1) := by decide +kernel
theorem dX7_lots_12 : decode cX7_lots 12 = .ok (.iconst 1, 1) := by decide +kernel
theorem dX7_lots_13 : decode cX7_lots 13 = .ok (.if_icmp .lt 12, 3) := by decide +kernel
theorem dX7_lots_16 : decode cX7_lots 16 = .ok (.iload_n 2, 1) := by decide +kernel
theorem dX7_lots_17 : decode cX7_lots 17 = .ok (.i2l, 1) := by decide +kernel
theorem dX7_lots_18 : decode cX7_lots 18 = .ok (.ldc2_w 328, 3) := by decide +kernel
theorem dX7_lots_21 : decode cX7_lots 21 = .ok (.lcmp, 1) := by decide +kernel
theorem dX7_lots_22 : decode cX7_lots 22 = .ok (.ifCond .lt 5, 3) := by decide +kernel
theorem dX7_lots_25 : decode cX7_lots 25 = .ok (.iconst (-1), 1) := by decide +kernel
theorem dX7_lots_26 : decode cX7_lots 26 = .ok (.ireturn, 1) := by decide +kernel
theorem dX7_lots_27 : decode cX7_lots 27 = .ok (.aload_n 0, 1) := by decide +kernel
theorem dX7_lots_28 : decode cX7_lots 28 = .ok (.getfield 27, 3) := by decide +kernel
theorem dX7_lots_31 : decode cX7_lots 31 = .ok (.invokevirtual 200, 3) := by decide +kernel
theorem dX7_lots_34 : decode cX7_lots 34 = .ok (.ifCond .eq 6, 3) := by decide +kernel
theorem dX7_lots_37 : decode cX7_lots 37 = .ok (.bipush (-4), 2) := by decide +kernel
theorem dX7_lots_39 : decode cX7_lots 39 = .ok (.ireturn, 1) := by decide +kernel
theorem dX7_lots_40 : decode cX7_lots 40 = .ok (.aload_n 0, 1) := by decide +kernel
theorem dX7_lots_41 : decode cX7_lots 41 = .ok (.getfield 39, 3) := by decide +kernel
theorem dX7_lots_44 : decode cX7_lots 44 = .ok (.iload_n 1, 1) := by decide +kernel
theorem dX7_lots_45 : decode cX7_lots 45 = .ok (.invokevirtual 191, 3) := by decide +kernel
theorem dX7_lots_48 : decode cX7_lots 48 = .ok (.ifCond .ne 6, 3) := by decide +kernel
theorem dX7_lots_51 : decode cX7_lots 51 = .ok (.bipush (-2), 2) := by decide +kernel
theorem dX7_lots_53 : decode cX7_lots 53 = .ok (.ireturn, 1) := by decide +kernel
theorem dX7_lots_54 : decode cX7_lots 54 = .ok (.iload_n 2, 1) := by decide +kernel
theorem dX7_lots_55 : decode cX7_lots 55 = .ok (.i2l, 1) := by decide +kernel
theorem dX7_lots_56 : decode cX7_lots 56 = .ok (.lstore_n 3, 1) := by decide +kernel
theorem dX7_lots_57 : decode cX7_lots 57 = .ok (.iconst 0, 1) := by decide +kernel
theorem dX7_lots_58 : decode cX7_lots 58 = .ok (.istore 5, 2) := by decide +kernel
theorem dX7_lots_60 : decode cX7_lots 60 = .ok (.iload 5, 2) := by decide +kernel
theorem dX7_lots_62 : decode cX7_lots 62 = .ok (.iload_n 1, 1) := by decide +kernel
theorem dX7_lots_63 : decode cX7_lots 63 = .ok (.if_icmp .ge 24, 3) := by decide +kernel
theorem dX7_lots_66 : decode cX7_lots 66 = .ok (.lload_n 3, 1) := by decide +kernel
theorem dX7_lots_67 : decode cX7_lots 67 = .ok (.ldc2_w 330, 3) := by decide +kernel
theorem dX7_lots_70 : decode cX7_lots 70 = .ok (.lmul, 1) := by decide +kernel
theorem dX7_lots_71 : decode cX7_lots 71 = .ok (.ldc2_w 328, 3) := by decide +kernel
theorem dX7_lots_74 : decode cX7_lots 74 = .ok (.lrem, 1) := by decide +kernel
theorem dX7_lots_75 : decode cX7_lots 75 = .ok (.lstore_n 3, 1) := by decide +kernel
theorem dX7_lots_76 : decode cX7_lots 76 = .ok (.aload_n 0, 1) := by decide +kernel
theorem dX7_lots_77 : decode cX7_lots 77 = .ok (.lload_n 3, 1) := by decide +kernel
theorem dX7_lots_78 : decode cX7_lots 78 = .ok (.invokevirtual 332, 3) := by decide +kernel
theorem dX7_lots_81 : decode cX7_lots 81 = .ok (.iinc 5 1, 3) := by decide +kernel
theorem dX7_lots_84 : decode cX7_lots 84 = .ok (.goto (-24), 3) := by decide +kernel
theorem dX7_lots_87 : decode cX7_lots 87 = .ok (.aload_n 0, 1) := by decide +kernel
theorem dX7_lots_88 : decode cX7_lots 88 = .ok (.getfield 39, 3) := by decide +kernel
theorem dX7_lots_91 : decode cX7_lots 91 = .ok (.getfield 156, 3) := by decide +kernel
theorem dX7_lots_94 : decode cX7_lots 94 = .ok (.getfield 244, 3) := by decide +kernel
theorem dX7_lots_97 : decode cX7_lots 97 = .ok (.ireturn, 1) := by decide +kernel
def P_X7_lots_60 (k_87 : PM Int32) (p0 : Nat) (p1 : Int32) : Nat → Int64 → Int32 → PM Int32
  | 0, _, _ => failM
  | n + 1, q3, q5 =>
    ifB (decide (p1 ≤ q5)) (
    k_87) (
    remL (q3 * 48271) 2147483647 fun v9 =>
    cllV 7 p0 (P_X7_doByLot p0 v9) fun _ =>
    P_X7_lots_60 k_87 p0 p1 n v9 (q5 + 1))
def P_X7_lots (a0 : Nat) (x1 : Int32) (x2 : Int32) : PM Int32 :=
ifB (decide (x1 < 1)) (
pureM ((-1))) (
ifB (decide (20 < x1)) (
pureM ((-1))) (
ifB (decide (x2 < 1)) (
pureM ((-1))) (
ifB (decide ((lg_cmp (Int32.toInt64 x2) 2147483647) < 0)) (
getR 7 3 a0 fun v1 =>
cllV 0 v1 (P_X0_isNobody v1) fun v2 =>
ifB (decide (v2 = 0)) (
getR 7 5 a0 fun v3 =>
cllV 3 v3 (P_X3_hasRoom v3 x1) fun v4 =>
ifB (decide (¬ v4 = 0)) (
jn (
getR 7 5 a0 fun v5 =>
getR 3 0 v5 fun v6 =>
getI 1 2 v6 fun v7 =>
pureM v7) fun k8 =>
P_X7_lots_60 k8 a0 x1 4000 (Int32.toInt64 x2) 0) (
pureM ((-2)))) (
pureM ((-4)))) (
pureM ((-1))))))
set_option maxHeartbeats 4000000 in
set_option maxRecDepth 100000 in
theorem W_X7_lots_60 {Γ : Cx} (ok : OKc Γ cX7_lots RX7 6 "lots") (okr : OKr Γ cX7_lots (some .int)) (k_87 : PM Int32) (p0 : Nat) (p1 : Int32) (hk_87 : SW Γ iI 87 [some (.ref p0), none, none, none, none, none] [] (k_87)) : ∀ (n : Nat) (q3 : Int64) (q5 : Int32), SW Γ iI 60 [some (.ref p0), some (.int p1), none, some (.long q3), none, some (.int q5)] [] (P_X7_lots_60 k_87 p0 p1 n q3 q5) := by
  intro n
  induction n with
  | zero =>
    intros
    exact sw_fail
  | succ n ih =>
    intro q3 q5
    unfold P_X7_lots_60
    refine sw_iload (z := q5) (pc' := 62) ok dX7_lots_60 rfl rfl ?_
    refine sw_iload_n (z := p1) (pc' := 63) ok dX7_lots_62 rfl rfl ?_
    refine sw_icmp_ge (tgt := 87) (pc' := 66) ok dX7_lots_63 (by decide) rfl ?_ ?_
    · refine sw_fg (l' := [some (.ref p0), none, none, none, none, none]) [true, false, false, false, false, false] rfl ?_
      exact hk_87
    refine sw_lload_n (z := q3) (pc' := 67) ok dX7_lots_66 rfl rfl ?_
    refine sw_ldc2 (v := 48271) (pc' := 70) ok dX7_lots_67 rfl wd_406 ?_
    refine sw_lmul (pc' := 71) ok dX7_lots_70 rfl ?_
    refine sw_ldc2 (v := 2147483647) (pc' := 74) ok dX7_lots_71 rfl wd_405 ?_
    refine sw_remL (pc' := 75) ok dX7_lots_74 rfl (fun v9 => ?_)
    refine sw_lstore_n (pc' := 76) (l' := [some (.ref p0), some (.int p1), none, some (.long v9), none, some (.int q5)]) ok dX7_lots_75 rfl (Nat.le_of_ble_eq_true rfl) rfl ?_
    refine sw_aload_n (z := p0) (pc' := 77) ok dX7_lots_76 rfl rfl ?_
    refine sw_lload_n (z := v9) (pc' := 78) ok dX7_lots_77 rfl rfl ?_
    refine sw_cllV_U (st := []) (as := [.long v9]) (pc' := 81) ok (S_X7_doByLot p0 v9) (by decide) lk_X7_332 rfl dX7_lots_78 rfl (Nat.le_of_ble_eq_true rfl) rfl (fun _ => ?_)
    refine sw_iinc (z := q5) (v := q5 + 1) (pc' := 84) (l' := [some (.ref p0), some (.int p1), none, some (.long v9), none, some (.int (q5 + 1))]) ok dX7_lots_81 rfl rfl (by rw [cc_iconst_1]) rfl ?_
    refine sw_goto (tgt := 60) ok dX7_lots_84 (by decide) ?_
    exact ih v9 (q5 + 1)
set_option maxHeartbeats 4000000 in
set_option maxRecDepth 100000 in
theorem W_X7_lots {Γ : Cx} (ok : OKc Γ cX7_lots RX7 6 "lots") (okr : OKr Γ cX7_lots (some .int)) (a0 : Nat) (x1 : Int32) (x2 : Int32) : SW Γ iI 0 [some (.ref a0), some (.int x1), some (.int x2), none, none, none] [] (P_X7_lots a0 x1 x2) := by
  unfold P_X7_lots
  refine sw_iload_n (z := x1) (pc' := 1) ok dX7_lots_0 rfl rfl ?_
  refine sw_iconst (v := 1) (pc' := 2) ok dX7_lots_1 rfl cc_iconst_1 ?_
  refine sw_icmp_lt (tgt := 25) (pc' := 5) ok dX7_lots_2 (by decide) rfl ?_ ?_
  · refine sw_iconst (v := (-1)) (pc' := 26) ok dX7_lots_25 rfl cc_iconst_m1 ?_
    exact sw_ret ok okr dX7_lots_26 trivial rfl
  refine sw_iload_n (z := x1) (pc' := 6) ok dX7_lots_5 rfl rfl ?_
  refine sw_bipush (v := 20) (pc' := 8) ok dX7_lots_6 rfl cc_bipush_20 ?_
  refine sw_icmp_gt (tgt := 25) (pc' := 11) ok dX7_lots_8 (by decide) rfl ?_ ?_
  · refine sw_iconst (v := (-1)) (pc' := 26) ok dX7_lots_25 rfl cc_iconst_m1 ?_
    exact sw_ret ok okr dX7_lots_26 trivial rfl
  refine sw_iload_n (z := x2) (pc' := 12) ok dX7_lots_11 rfl rfl ?_
  refine sw_iconst (v := 1) (pc' := 13) ok dX7_lots_12 rfl cc_iconst_1 ?_
  refine sw_icmp_lt (tgt := 25) (pc' := 16) ok dX7_lots_13 (by decide) rfl ?_ ?_
  · refine sw_iconst (v := (-1)) (pc' := 26) ok dX7_lots_25 rfl cc_iconst_m1 ?_
    exact sw_ret ok okr dX7_lots_26 trivial rfl
  refine sw_iload_n (z := x2) (pc' := 17) ok dX7_lots_16 rfl rfl ?_
  refine sw_i2l (pc' := 18) ok dX7_lots_17 rfl ?_
  refine sw_ldc2 (v := 2147483647) (pc' := 21) ok dX7_lots_18 rfl wd_405 ?_
  refine sw_lcmp (pc' := 22) ok dX7_lots_21 rfl ?_
  refine sw_if_lt (tgt := 27) (pc' := 25) ok dX7_lots_22 (by decide) rfl ?_ ?_
  · refine sw_aload_n (z := a0) (pc' := 28) ok dX7_lots_27 rfl rfl ?_
    refine sw_getR (pc' := 31) ok (fr_X7_27.g) dX7_lots_28 rfl (fun v1 => ?_)
    refine sw_cllV_I (st := []) (as := []) (pc' := 34) ok (S_X0_isNobody v1) (by decide) lk_X7_200 rfl dX7_lots_31 rfl (Nat.le_of_ble_eq_true rfl) rfl (fun v2 => ?_)
    refine sw_if_eq (tgt := 40) (pc' := 37) ok dX7_lots_34 (by decide) rfl ?_ ?_
    · refine sw_aload_n (z := a0) (pc' := 41) ok dX7_lots_40 rfl rfl ?_
      refine sw_getR (pc' := 44) ok (fr_X7_39.g) dX7_lots_41 rfl (fun v3 => ?_)
      refine sw_iload_n (z := x1) (pc' := 45) ok dX7_lots_44 rfl rfl ?_
      refine sw_cllV_I (st := []) (as := [.int x1]) (pc' := 48) ok (S_X3_hasRoom v3 x1) (by decide) lk_X7_191 rfl dX7_lots_45 rfl (Nat.le_of_ble_eq_true rfl) rfl (fun v4 => ?_)
      refine sw_if_ne (tgt := 54) (pc' := 51) ok dX7_lots_48 (by decide) rfl ?_ ?_
      · refine sw_iload_n (z := x2) (pc' := 55) ok dX7_lots_54 rfl rfl ?_
        refine sw_i2l (pc' := 56) ok dX7_lots_55 rfl ?_
        refine sw_lstore_n (pc' := 57) (l' := [some (.ref a0), some (.int x1), some (.int x2), some (.long (Int32.toInt64 x2)), none, none]) ok dX7_lots_56 rfl (Nat.le_of_ble_eq_true rfl) rfl ?_
        refine sw_iconst (v := 0) (pc' := 58) ok dX7_lots_57 rfl cc_iconst_0 ?_
        refine sw_istore (pc' := 60) (l' := [some (.ref a0), some (.int x1), some (.int x2), some (.long (Int32.toInt64 x2)), none, some (.int 0)]) ok dX7_lots_58 rfl (Nat.le_of_ble_eq_true rfl) rfl ?_
        refine sw_jn (fun k8 : PM Int32 => SW Γ iI 87 [some (.ref a0), none, none, none, none, none] [] (k8)) ?_ (fun k8 hk8 => ?_)
        · refine sw_aload_n (z := a0) (pc' := 88) ok dX7_lots_87 rfl rfl ?_
          refine sw_getR (pc' := 91) ok (fr_X7_39.g) dX7_lots_88 rfl (fun v5 => ?_)
          refine sw_getR (pc' := 94) ok (fr_X7_156) dX7_lots_91 rfl (fun v6 => ?_)
          refine sw_getI (pc' := 97) ok (fr_X7_244.g) dX7_lots_94 rfl (fun v7 => ?_)
          exact sw_ret ok okr dX7_lots_97 trivial rfl
        refine sw_fg (l' := [some (.ref a0), some (.int x1), none, some (.long (Int32.toInt64 x2)), none, some (.int 0)]) [true, true, false, true, false, true] rfl ?_
        exact W_X7_lots_60 ok okr k8 a0 x1 hk8 4000 (Int32.toInt64 x2) 0
      refine sw_bipush (v := (-2)) (pc' := 53) ok dX7_lots_51 rfl cc_bipush_m2 ?_
      exact sw_ret ok okr dX7_lots_53 trivial rfl
    refine sw_bipush (v := (-4)) (pc' := 39) ok dX7_lots_37 rfl cc_bipush_m4 ?_
    exact sw_ret ok okr dX7_lots_39 trivial rfl
  refine sw_iconst (v := (-1)) (pc' := 26) ok dX7_lots_25 rfl cc_iconst_m1 ?_
  exact sw_ret ok okr dX7_lots_26 trivial rfl
theorem S_X7_lots (a0 : Nat) (x1 : Int32) (x2 : Int32) : Sim 6 yX7_lots cX7_lots 6 (some .int) iI [.ref a0, .int x1, .int x2] (P_X7_lots a0 x1 x2) := Sim.intro wd_1049 (by decide) (by decide +kernel) (Nat.le_of_ble_eq_true rfl) (fun Γ ok okr => W_X7_lots ok okr a0 x1 x2)
theorem dX7_asked_0 : decode cX7_asked 0 = .ok (.aload_n 0, 1) := by decide +kernel
theorem dX7_asked_1 : decode cX7_asked 1 = .ok (.getfield 65, 3) := by decide +kernel
theorem dX7_asked_4 : decode cX7_asked 4 = .ok (.ireturn, 1) := by decide +kernel
def P_X7_asked (a0 : Nat) : PM Int32 :=
getI 7 10 a0 fun v1 =>
pureM v1
set_option maxHeartbeats 4000000 in
set_option maxRecDepth 100000 in
theorem W_X7_asked {Γ : Cx} (ok : OKc Γ cX7_asked RX7 0 "asked") (okr : OKr Γ cX7_asked (some .int)) (a0 : Nat) : SW Γ iI 0 [some (.ref a0)] [] (P_X7_asked a0) := by
  unfold P_X7_asked
  refine sw_aload_n (z := a0) (pc' := 1) ok dX7_asked_0 rfl rfl ?_
  refine sw_getI (pc' := 4) ok (fr_X7_65.g) dX7_asked_1 rfl (fun v1 => ?_)
  exact sw_ret ok okr dX7_asked_4 trivial rfl
theorem S_X7_asked (a0 : Nat) : Sim 0 yX7_asked cX7_asked 1 (some .int) iI [.ref a0] (P_X7_asked a0) := Sim.intro wd_1050 (by decide) (by decide +kernel) (Nat.le_of_ble_eq_true rfl) (fun Γ ok okr => W_X7_asked ok okr a0)
theorem dX7_upper_0 : decode cX7_upper 0 = .ok (.aload_n 0, 1) := by decide +kernel
theorem dX7_upper_1 : decode cX7_upper 1 = .ok (.getfield 68, 3) := by decide +kernel
theorem dX7_upper_4 : decode cX7_upper 4 = .ok (.lreturn, 1) := by decide +kernel
def P_X7_upper (a0 : Nat) : PM Int64 :=
getL 7 11 a0 fun v1 =>
pureM v1
set_option maxHeartbeats 4000000 in
set_option maxRecDepth 100000 in
theorem W_X7_upper {Γ : Cx} (ok : OKc Γ cX7_upper RX7 0 "upper") (okr : OKr Γ cX7_upper (some .long)) (a0 : Nat) : SW Γ iL 0 [some (.ref a0)] [] (P_X7_upper a0) := by
  unfold P_X7_upper
  refine sw_aload_n (z := a0) (pc' := 1) ok dX7_upper_0 rfl rfl ?_
  refine sw_getL (pc' := 4) ok (fr_X7_68.g) dX7_upper_1 rfl (fun v1 => ?_)
  exact sw_ret ok okr dX7_upper_4 trivial rfl
theorem S_X7_upper (a0 : Nat) : Sim 0 yX7_upper cX7_upper 1 (some .long) iL [.ref a0] (P_X7_upper a0) := Sim.intro wd_1051 (by decide) (by decide +kernel) (Nat.le_of_ble_eq_true rfl) (fun Γ ok okr => W_X7_upper ok okr a0)
theorem dX7_lower_0 : decode cX7_lower 0 = .ok (.aload_n 0, 1) := by decide +kernel
theorem dX7_lower_1 : decode cX7_lower 1 = .ok (.getfield 72, 3) := by decide +kernel
theorem dX7_lower_4 : decode cX7_lower 4 = .ok (.lreturn, 1) := by decide +kernel
def P_X7_lower (a0 : Nat) : PM Int64 :=
getL 7 12 a0 fun v1 =>
pureM v1
set_option maxHeartbeats 4000000 in
set_option maxRecDepth 100000 in
theorem W_X7_lower {Γ : Cx} (ok : OKc Γ cX7_lower RX7 0 "lower") (okr : OKr Γ cX7_lower (some .long)) (a0 : Nat) : SW Γ iL 0 [some (.ref a0)] [] (P_X7_lower a0) := by
  unfold P_X7_lower
  refine sw_aload_n (z := a0) (pc' := 1) ok dX7_lower_0 rfl rfl ?_
  refine sw_getL (pc' := 4) ok (fr_X7_72.g) dX7_lower_1 rfl (fun v1 => ?_)
  exact sw_ret ok okr dX7_lower_4 trivial rfl
theorem S_X7_lower (a0 : Nat) : Sim 0 yX7_lower cX7_lower 1 (some .long) iL [.ref a0] (P_X7_lower a0) := Sim.intro wd_1052 (by decide) (by decide +kernel) (Nat.le_of_ble_eq_true rfl) (fun Γ ok okr => W_X7_lower ok okr a0)
theorem dX7_howManyKept_0 : decode cX7_howManyKept 0 = .ok (.iconst 0, 1) := by decide +kernel
theorem dX7_howManyKept_1 : decode cX7_howManyKept 1 = .ok (.istore_n 1, 1) := by decide +kernel
theorem dX7_howManyKept_2 : decode cX7_howManyKept 2 = .ok (.iconst 0, 1) := by decide +kernel
theorem dX7_howManyKept_3 : decode cX7_howManyKept 3 = .ok (.istore_n 2, 1) := by decide +kernel
theorem dX7_howManyKept_4 : decode cX7_howManyKept 4 = .ok (.iload_n 2, 1) := by decide +kernel
theorem dX7_howManyKept_5 : decode cX7_howManyKept 5 = .ok (.iconst 3, 1) := by decide +kernel
theorem dX7_howManyKept_6 : decode cX7_howManyKept 6 = .ok (.if_icmp .ge 24, 3) := by decide +kernel
theorem dX7_howManyKept_9 : decode cX7_howManyKept 9 = .ok (.aload_n 0, 1) := by decide +kernel
theorem dX7_howManyKept_10 : decode cX7_howManyKept 10 = .ok (.getfield 20, 3) := by decide +kernel
theorem dX7_howManyKept_13 : decode cX7_howManyKept 13 = .ok (.iload_n 2, 1) := by decide +kernel
theorem dX7_howManyKept_14 : decode cX7_howManyKept 14 = .ok (.aaload, 1) := by decide +kernel
theorem dX7_howManyKept_15 : decode cX7_howManyKept 15 = .ok (.getfield 142, 3) := by decide +kernel
theorem dX7_howManyKept_18 : decode cX7_howManyKept 18 = .ok (.ifCond .eq 6, 3) := by decide +kernel
theorem dX7_howManyKept_21 : decode cX7_howManyKept 21 = .ok (.iinc 1 1, 3) := by decide +kernel
theorem dX7_howManyKept_24 : decode cX7_howManyKept 24 = .ok (.iinc 2 1, 3) := by decide +kernel
theorem dX7_howManyKept_27 : decode cX7_howManyKept 27 = .ok (.goto (-23), 3) := by decide +kernel
theorem dX7_howManyKept_30 : decode cX7_howManyKept 30 = .ok (.iload_n 1, 1) := by decide +kernel
theorem dX7_howManyKept_31 : decode cX7_howManyKept 31 = .ok (.ireturn, 1) := by decide +kernel
def P_X7_howManyKept_4 (p0 : Nat) : Nat → Int32 → Int32 → PM Int32
  | 0, _, _ => failM
  | n + 1, q1, q2 =>
    ifB (decide (3 ≤ q2)) (
    pureM q1) (
    getR 7 2 p0 fun v1 =>
    aldR v1 q2 fun v2 =>
    getI 3 6 v2 fun v3 =>
    jn (fun (j4 : Int32) =>
    P_X7_howManyKept_4 p0 n j4 (q2 + 1)) fun k5 =>
    ifB (decide (v3 = 0)) (
    k5 q1) (
    k5 (q1 + 1)))
def P_X7_howManyKept (a0 : Nat) : PM Int32 :=
P_X7_howManyKept_4 a0 4000 0 0
set_option maxHeartbeats 4000000 in
set_option maxRecDepth 100000 in
theorem W_X7_howManyKept_4 {Γ : Cx} (ok : OKc Γ cX7_howManyKept RX7 0 "howManyKept") (okr : OKr Γ cX7_howManyKept (some .int)) (p0 : Nat) : ∀ (n : Nat) (q1 : Int32) (q2 : Int32), SW Γ iI 4 [some (.ref p0), some (.int q1), some (.int q2)] [] (P_X7_howManyKept_4 p0 n q1 q2) := by
  intro n
  induction n with
  | zero =>
    intros
    exact sw_fail
  | succ n ih =>
    intro q1 q2
    unfold P_X7_howManyKept_4
    refine sw_iload_n (z := q2) (pc' := 5) ok dX7_howManyKept_4 rfl rfl ?_
    refine sw_iconst (v := 3) (pc' := 6) ok dX7_howManyKept_5 rfl cc_iconst_3 ?_
    refine sw_icmp_ge (tgt := 30) (pc' := 9) ok dX7_howManyKept_6 (by decide) rfl ?_ ?_
    · refine sw_iload_n (z := q1) (pc' := 31) ok dX7_howManyKept_30 rfl rfl ?_
      exact sw_ret ok okr dX7_howManyKept_31 trivial rfl
    refine sw_aload_n (z := p0) (pc' := 10) ok dX7_howManyKept_9 rfl rfl ?_
    refine sw_getR (pc' := 13) ok (fr_X7_20.g) dX7_howManyKept_10 rfl (fun v1 => ?_)
    refine sw_iload_n (z := q2) (pc' := 14) ok dX7_howManyKept_13 rfl rfl ?_
    refine sw_aldR (pc' := 15) ok dX7_howManyKept_14 rfl (fun v2 => ?_)
    refine sw_getI (pc' := 18) ok (fr_X7_142.g) dX7_howManyKept_15 rfl (fun v3 => ?_)
    refine sw_jn (fun k5 : Int32 → PM Int32 => ∀ (j4 : Int32), SW Γ iI 24 [some (.ref p0), some (.int j4), some (.int q2)] [] (k5 j4)) ?_ (fun k5 hk5 => ?_)
    · intro j4
      refine sw_iinc (z := q2) (v := q2 + 1) (pc' := 27) (l' := [some (.ref p0), some (.int j4), some (.int (q2 + 1))]) ok dX7_howManyKept_24 rfl rfl (by rw [cc_iconst_1]) rfl ?_
      refine sw_goto (tgt := 4) ok dX7_howManyKept_27 (by decide) ?_
      exact ih j4 (q2 + 1)
    refine sw_if_eq (tgt := 24) (pc' := 21) ok dX7_howManyKept_18 (by decide) rfl ?_ ?_
    · exact hk5 q1
    refine sw_iinc (z := q1) (v := q1 + 1) (pc' := 24) (l' := [some (.ref p0), some (.int (q1 + 1)), some (.int q2)]) ok dX7_howManyKept_21 rfl rfl (by rw [cc_iconst_1]) rfl ?_
    exact hk5 (q1 + 1)
set_option maxHeartbeats 4000000 in
set_option maxRecDepth 100000 in
theorem W_X7_howManyKept {Γ : Cx} (ok : OKc Γ cX7_howManyKept RX7 0 "howManyKept") (okr : OKr Γ cX7_howManyKept (some .int)) (a0 : Nat) : SW Γ iI 0 [some (.ref a0), none, none] [] (P_X7_howManyKept a0) := by
  unfold P_X7_howManyKept
  refine sw_iconst (v := 0) (pc' := 1) ok dX7_howManyKept_0 rfl cc_iconst_0 ?_
  refine sw_istore_n (pc' := 2) (l' := [some (.ref a0), some (.int 0), none]) ok dX7_howManyKept_1 rfl (Nat.le_of_ble_eq_true rfl) rfl ?_
  refine sw_iconst (v := 0) (pc' := 3) ok dX7_howManyKept_2 rfl cc_iconst_0 ?_
  refine sw_istore_n (pc' := 4) (l' := [some (.ref a0), some (.int 0), some (.int 0)]) ok dX7_howManyKept_3 rfl (Nat.le_of_ble_eq_true rfl) rfl ?_
  exact W_X7_howManyKept_4 ok okr a0 4000 0 0
theorem S_X7_howManyKept (a0 : Nat) : Sim 0 yX7_howManyKept cX7_howManyKept 3 (some .int) iI [.ref a0] (P_X7_howManyKept a0) := Sim.intro wd_1053 (by decide) (by decide +kernel) (Nat.le_of_ble_eq_true rfl) (fun Γ ok okr => W_X7_howManyKept ok okr a0)
theorem dX7_howManyThere_0 : decode cX7_howManyThere 0 = .ok (.iconst 0, 1) := by decide +kernel
theorem dX7_howManyThere_1 : decode cX7_howManyThere 1 = .ok (.istore_n 1, 1) := by decide +kernel
theorem dX7_howManyThere_2 : decode cX7_howManyThere 2 = .ok (.iconst 0, 1) := by decide +kernel
theorem dX7_howManyThere_3 : decode cX7_howManyThere 3 = .ok (.istore_n 2, 1) := by decide +kernel
theorem dX7_howManyThere_4 : decode cX7_howManyThere 4 = .ok (.iload_n 2, 1) := by decide +kernel
theorem dX7_howManyThere_5 : decode cX7_howManyThere 5 = .ok (.aload_n 0, 1) := by decide +kernel
theorem dX7_howManyThere_6 : decode cX7_howManyThere 6 = .ok (.arraylength, 1) := by decide +kernel
theorem dX7_howManyThere_7 : decode cX7_howManyThere 7 = .ok (.if_icmp .ge 21, 3) := by decide +kernel
theorem dX7_howManyThere_10 : decode cX7_howManyThere 10 = .ok (.aload_n 0, 1) := by decide +kernel
theorem dX7_howManyThere_11 : decode cX7_howManyThere 11 = .ok (.iload_n 2, 1) := by decide +kernel
theorem dX7_howManyThere_12 : decode cX7_howManyThere 12 = .ok (.aaload, 1) := by decide +kernel
theorem dX7_howManyThere_13 : decode cX7_howManyThere 13 = .ok (.getfield 104, 3) := by decide +kernel
theorem dX7_howManyThere_16 : decode cX7_howManyThere 16 = .ok (.ifCond .eq 6, 3) := by decide +kernel
theorem dX7_howManyThere_19 : decode cX7_howManyThere 19 = .ok (.iinc 1 1, 3) := by decide +kernel
theorem dX7_howManyThere_22 : decode cX7_howManyThere 22 = .ok (.iinc 2 1, 3) := by decide +kernel
theorem dX7_howManyThere_25 : decode cX7_howManyThere 25 = .ok (.goto (-21), 3) := by decide +kernel
theorem dX7_howManyThere_28 : decode cX7_howManyThere 28 = .ok (.iload_n 1, 1) := by decide +kernel
theorem dX7_howManyThere_29 : decode cX7_howManyThere 29 = .ok (.ireturn, 1) := by decide +kernel
def P_X7_howManyThere_4 (p0 : Nat) : Nat → Int32 → Int32 → PM Int32
  | 0, _, _ => failM
  | n + 1, q1, q2 =>
    alen p0 fun v1 =>
    ifB (decide (v1 ≤ q2)) (
    pureM q1) (
    aldR p0 q2 fun v2 =>
    getI 5 3 v2 fun v3 =>
    jn (fun (j4 : Int32) =>
    P_X7_howManyThere_4 p0 n j4 (q2 + 1)) fun k5 =>
    ifB (decide (v3 = 0)) (
    k5 q1) (
    k5 (q1 + 1)))
def P_X7_howManyThere (a0 : Nat) : PM Int32 :=
P_X7_howManyThere_4 a0 4000 0 0
set_option maxHeartbeats 4000000 in
set_option maxRecDepth 100000 in
theorem W_X7_howManyThere_4 {Γ : Cx} (ok : OKc Γ cX7_howManyThere RX7 0 "howManyThere") (okr : OKr Γ cX7_howManyThere (some .int)) (p0 : Nat) : ∀ (n : Nat) (q1 : Int32) (q2 : Int32), SW Γ iI 4 [some (.ref p0), some (.int q1), some (.int q2)] [] (P_X7_howManyThere_4 p0 n q1 q2) := by
  intro n
  induction n with
  | zero =>
    intros
    exact sw_fail
  | succ n ih =>
    intro q1 q2
    unfold P_X7_howManyThere_4
    refine sw_iload_n (z := q2) (pc' := 5) ok dX7_howManyThere_4 rfl rfl ?_
    refine sw_aload_n (z := p0) (pc' := 6) ok dX7_howManyThere_5 rfl rfl ?_
    refine sw_alen (pc' := 7) ok dX7_howManyThere_6 rfl (fun v1 => ?_)
    refine sw_icmp_ge (tgt := 28) (pc' := 10) ok dX7_howManyThere_7 (by decide) rfl ?_ ?_
    · refine sw_iload_n (z := q1) (pc' := 29) ok dX7_howManyThere_28 rfl rfl ?_
      exact sw_ret ok okr dX7_howManyThere_29 trivial rfl
    refine sw_aload_n (z := p0) (pc' := 11) ok dX7_howManyThere_10 rfl rfl ?_
    refine sw_iload_n (z := q2) (pc' := 12) ok dX7_howManyThere_11 rfl rfl ?_
    refine sw_aldR (pc' := 13) ok dX7_howManyThere_12 rfl (fun v2 => ?_)
    refine sw_getI (pc' := 16) ok (fr_X7_104.g) dX7_howManyThere_13 rfl (fun v3 => ?_)
    refine sw_jn (fun k5 : Int32 → PM Int32 => ∀ (j4 : Int32), SW Γ iI 22 [some (.ref p0), some (.int j4), some (.int q2)] [] (k5 j4)) ?_ (fun k5 hk5 => ?_)
    · intro j4
      refine sw_iinc (z := q2) (v := q2 + 1) (pc' := 25) (l' := [some (.ref p0), some (.int j4), some (.int (q2 + 1))]) ok dX7_howManyThere_22 rfl rfl (by rw [cc_iconst_1]) rfl ?_
      refine sw_goto (tgt := 4) ok dX7_howManyThere_25 (by decide) ?_
      exact ih j4 (q2 + 1)
    refine sw_if_eq (tgt := 22) (pc' := 19) ok dX7_howManyThere_16 (by decide) rfl ?_ ?_
    · exact hk5 q1
    refine sw_iinc (z := q1) (v := q1 + 1) (pc' := 22) (l' := [some (.ref p0), some (.int (q1 + 1)), some (.int q2)]) ok dX7_howManyThere_19 rfl rfl (by rw [cc_iconst_1]) rfl ?_
    exact hk5 (q1 + 1)
set_option maxHeartbeats 4000000 in
set_option maxRecDepth 100000 in
theorem W_X7_howManyThere {Γ : Cx} (ok : OKc Γ cX7_howManyThere RX7 0 "howManyThere") (okr : OKr Γ cX7_howManyThere (some .int)) (a0 : Nat) : SW Γ iI 0 [some (.ref a0), none, none] [] (P_X7_howManyThere a0) := by
  unfold P_X7_howManyThere
  refine sw_iconst (v := 0) (pc' := 1) ok dX7_howManyThere_0 rfl cc_iconst_0 ?_
  refine sw_istore_n (pc' := 2) (l' := [some (.ref a0), some (.int 0), none]) ok dX7_howManyThere_1 rfl (Nat.le_of_ble_eq_true rfl) rfl ?_
  refine sw_iconst (v := 0) (pc' := 3) ok dX7_howManyThere_2 rfl cc_iconst_0 ?_
  refine sw_istore_n (pc' := 4) (l' := [some (.ref a0), some (.int 0), some (.int 0)]) ok dX7_howManyThere_3 rfl (Nat.le_of_ble_eq_true rfl) rfl ?_
  exact W_X7_howManyThere_4 ok okr a0 4000 0 0
theorem S_X7_howManyThere (a0 : Nat) : Sim 0 yX7_howManyThere cX7_howManyThere 3 (some .int) iI [.ref a0] (P_X7_howManyThere a0) := Sim.intro wd_1054 (by decide) (by decide +kernel) (Nat.le_of_ble_eq_true rfl) (fun Γ ok okr => W_X7_howManyThere ok okr a0)
theorem dX7_count_0 : decode cX7_count 0 = .ok (.iload_n 1, 1) := by decide +kernel
theorem dX7_count_1 : decode cX7_count 1 = .ok (.tableswitch 150 0 10 #[59, 67, 78, 86, 97, 105, 113, 121, 129, 137, 145], 59) := by decide +kernel
theorem dX7_count_60 : decode cX7_count 60 = .ok (.aload_n 0, 1) := by decide +kernel
theorem dX7_count_61 : decode cX7_count 61 = .ok (.getfield 27, 3) := by decide +kernel
theorem dX7_count_64 : decode cX7_count 64 = .ok (.getfield 143, 3) := by decide +kernel
theorem dX7_count_67 : decode cX7_count 67 = .ok (.ireturn, 1) := by decide +kernel
theorem dX7_count_68 : decode cX7_count 68 = .ok (.aload_n 0, 1) := by decide +kernel
theorem dX7_count_69 : decode cX7_count 69 = .ok (.getfield 39, 3) := by decide +kernel
theorem dX7_count_72 : decode cX7_count 72 = .ok (.getfield 156, 3) := by decide +kernel
theorem dX7_count_75 : decode cX7_count 75 = .ok (.getfield 336, 3) := by decide +kernel
theorem dX7_count_78 : decode cX7_count 78 = .ok (.ireturn, 1) := by decide +kernel
theorem dX7_count_79 : decode cX7_count 79 = .ok (.aload_n 0, 1) := by decide +kernel
theorem dX7_count_80 : decode cX7_count 80 = .ok (.getfield 39, 3) := by decide +kernel
theorem dX7_count_83 : decode cX7_count 83 = .ok (.getfield 214, 3) := by decide +kernel
theorem dX7_count_86 : decode cX7_count 86 = .ok (.ireturn, 1) := by decide +kernel
theorem dX7_count_87 : decode cX7_count 87 = .ok (.aload_n 0, 1) := by decide +kernel
theorem dX7_count_88 : decode cX7_count 88 = .ok (.getfield 39, 3) := by decide +kernel
theorem dX7_count_91 : decode cX7_count 91 = .ok (.getfield 156, 3) := by decide +kernel
theorem dX7_count_94 : decode cX7_count 94 = .ok (.getfield 244, 3) := by decide +kernel
theorem dX7_count_97 : decode cX7_count 97 = .ok (.ireturn, 1) := by decide +kernel
theorem dX7_count_98 : decode cX7_count 98 = .ok (.aload_n 0, 1) := by decide +kernel
theorem dX7_count_99 : decode cX7_count 99 = .ok (.getfield 39, 3) := by decide +kernel
theorem dX7_count_102 : decode cX7_count 102 = .ok (.getfield 207, 3) := by decide +kernel
theorem dX7_count_105 : decode cX7_count 105 = .ok (.ireturn, 1) := by decide +kernel
theorem dX7_count_106 : decode cX7_count 106 = .ok (.aload_n 0, 1) := by decide +kernel
theorem dX7_count_107 : decode cX7_count 107 = .ok (.getfield 39, 3) := by decide +kernel
theorem dX7_count_110 : decode cX7_count 110 = .ok (.getfield 339, 3) := by decide +kernel
theorem dX7_count_113 : decode cX7_count 113 = .ok (.ireturn, 1) := by decide +kernel
theorem dX7_count_114 : decode cX7_count 114 = .ok (.aload_n 0, 1) := by decide +kernel
theorem dX7_count_115 : decode cX7_count 115 = .ok (.getfield 39, 3) := by decide +kernel
theorem dX7_count_118 : decode cX7_count 118 = .ok (.getfield 342, 3) := by decide +kernel
theorem dX7_count_121 : decode cX7_count 121 = .ok (.ireturn, 1) := by decide +kernel
theorem dX7_count_122 : decode cX7_count 122 = .ok (.aload_n 0, 1) := by decide +kernel
theorem dX7_count_123 : decode cX7_count 123 = .ok (.getfield 27, 3) := by decide +kernel
theorem dX7_count_126 : decode cX7_count 126 = .ok (.invokevirtual 345, 3) := by decide +kernel
theorem dX7_count_129 : decode cX7_count 129 = .ok (.ireturn, 1) := by decide +kernel
theorem dX7_count_130 : decode cX7_count 130 = .ok (.aload_n 0, 1) := by decide +kernel
theorem dX7_count_131 : decode cX7_count 131 = .ok (.getfield 11, 3) := by decide +kernel
theorem dX7_count_134 : decode cX7_count 134 = .ok (.invokestatic 348, 3) := by decide +kernel
theorem dX7_count_137 : decode cX7_count 137 = .ok (.ireturn, 1) := by decide +kernel
theorem dX7_count_138 : decode cX7_count 138 = .ok (.aload_n 0, 1) := by decide +kernel
theorem dX7_count_139 : decode cX7_count 139 = .ok (.getfield 15, 3) := by decide +kernel
theorem dX7_count_142 : decode cX7_count 142 = .ok (.invokestatic 348, 3) := by decide +kernel
theorem dX7_count_145 : decode cX7_count 145 = .ok (.ireturn, 1) := by decide +kernel
theorem dX7_count_146 : decode cX7_count 146 = .ok (.aload_n 0, 1) := by decide +kernel
theorem dX7_count_147 : decode cX7_count 147 = .ok (.invokevirtual 352, 3) := by decide +kernel
theorem dX7_count_150 : decode cX7_count 150 = .ok (.ireturn, 1) := by decide +kernel
theorem dX7_count_151 : decode cX7_count 151 = .ok (.iconst (-1), 1) := by decide +kernel
theorem dX7_count_152 : decode cX7_count 152 = .ok (.ireturn, 1) := by decide +kernel
def P_X7_count (a0 : Nat) (x1 : Int32) : PM Int32 :=
swT x1 0 [
getR 7 3 a0 fun v1 =>
getI 0 4 v1 fun v2 =>
pureM v2,
getR 7 5 a0 fun v3 =>
getR 3 0 v3 fun v4 =>
getI 1 3 v4 fun v5 =>
pureM v5,
getR 7 5 a0 fun v6 =>
getI 3 2 v6 fun v7 =>
pureM v7,
getR 7 5 a0 fun v8 =>
getR 3 0 v8 fun v9 =>
getI 1 2 v9 fun v10 =>
pureM v10,
getR 7 5 a0 fun v11 =>
getI 3 3 v11 fun v12 =>
pureM v12,
getR 7 5 a0 fun v13 =>
getI 3 4 v13 fun v14 =>
pureM v14,
getR 7 5 a0 fun v15 =>
getI 3 5 v15 fun v16 =>
pureM v16,
getR 7 3 a0 fun v17 =>
cllV 0 v17 (P_X0_lovers v17) fun v18 =>
pureM v18,
getR 7 0 a0 fun v19 =>
cll0 (P_X7_howManyThere v19) fun v20 =>
pureM v20,
getR 7 1 a0 fun v21 =>
cll0 (P_X7_howManyThere v21) fun v22 =>
pureM v22,
cllV 7 a0 (P_X7_howManyKept a0) fun v23 =>
pureM v23] (
pureM ((-1)))
set_option maxHeartbeats 4000000 in
set_option maxRecDepth 100000 in
theorem W_X7_count {Γ : Cx} (ok : OKc Γ cX7_count RX7 2 "count") (okr : OKr Γ cX7_count (some .int)) (a0 : Nat) (x1 : Int32) : SW Γ iI 0 [some (.ref a0), some (.int x1)] [] (P_X7_count a0 x1) := by
  unfold P_X7_count
  refine sw_iload_n (z := x1) (pc' := 1) ok dX7_count_0 rfl rfl ?_
  refine sw_tsw (tgt := 151) ok dX7_count_1 (by decide) (by rfl) ⟨⟨60, by decide, ?_⟩, ⟨68, by decide, ?_⟩, ⟨79, by decide, ?_⟩, ⟨87, by decide, ?_⟩, ⟨98, by decide, ?_⟩, ⟨106, by decide, ?_⟩, ⟨114, by decide, ?_⟩, ⟨122, by decide, ?_⟩, ⟨130, by decide, ?_⟩, ⟨138, by decide, ?_⟩, ⟨146, by decide, ?_⟩, trivial⟩ ?_
  · refine sw_aload_n (z := a0) (pc' := 61) ok dX7_count_60 rfl rfl ?_
    refine sw_getR (pc' := 64) ok (fr_X7_27.g) dX7_count_61 rfl (fun v1 => ?_)
    refine sw_getI (pc' := 67) ok (fr_X7_143.g) dX7_count_64 rfl (fun v2 => ?_)
    exact sw_ret ok okr dX7_count_67 trivial rfl
  · refine sw_aload_n (z := a0) (pc' := 69) ok dX7_count_68 rfl rfl ?_
    refine sw_getR (pc' := 72) ok (fr_X7_39.g) dX7_count_69 rfl (fun v3 => ?_)
    refine sw_getR (pc' := 75) ok (fr_X7_156) dX7_count_72 rfl (fun v4 => ?_)
    refine sw_getI (pc' := 78) ok (fr_X7_336.g) dX7_count_75 rfl (fun v5 => ?_)
    exact sw_ret ok okr dX7_count_78 trivial rfl
  · refine sw_aload_n (z := a0) (pc' := 80) ok dX7_count_79 rfl rfl ?_
    refine sw_getR (pc' := 83) ok (fr_X7_39.g) dX7_count_80 rfl (fun v6 => ?_)
    refine sw_getI (pc' := 86) ok (fr_X7_214.g) dX7_count_83 rfl (fun v7 => ?_)
    exact sw_ret ok okr dX7_count_86 trivial rfl
  · refine sw_aload_n (z := a0) (pc' := 88) ok dX7_count_87 rfl rfl ?_
    refine sw_getR (pc' := 91) ok (fr_X7_39.g) dX7_count_88 rfl (fun v8 => ?_)
    refine sw_getR (pc' := 94) ok (fr_X7_156) dX7_count_91 rfl (fun v9 => ?_)
    refine sw_getI (pc' := 97) ok (fr_X7_244.g) dX7_count_94 rfl (fun v10 => ?_)
    exact sw_ret ok okr dX7_count_97 trivial rfl
  · refine sw_aload_n (z := a0) (pc' := 99) ok dX7_count_98 rfl rfl ?_
    refine sw_getR (pc' := 102) ok (fr_X7_39.g) dX7_count_99 rfl (fun v11 => ?_)
    refine sw_getI (pc' := 105) ok (fr_X7_207.g) dX7_count_102 rfl (fun v12 => ?_)
    exact sw_ret ok okr dX7_count_105 trivial rfl
  · refine sw_aload_n (z := a0) (pc' := 107) ok dX7_count_106 rfl rfl ?_
    refine sw_getR (pc' := 110) ok (fr_X7_39.g) dX7_count_107 rfl (fun v13 => ?_)
    refine sw_getI (pc' := 113) ok (fr_X7_339.g) dX7_count_110 rfl (fun v14 => ?_)
    exact sw_ret ok okr dX7_count_113 trivial rfl
  · refine sw_aload_n (z := a0) (pc' := 115) ok dX7_count_114 rfl rfl ?_
    refine sw_getR (pc' := 118) ok (fr_X7_39.g) dX7_count_115 rfl (fun v15 => ?_)
    refine sw_getI (pc' := 121) ok (fr_X7_342.g) dX7_count_118 rfl (fun v16 => ?_)
    exact sw_ret ok okr dX7_count_121 trivial rfl
  · refine sw_aload_n (z := a0) (pc' := 123) ok dX7_count_122 rfl rfl ?_
    refine sw_getR (pc' := 126) ok (fr_X7_27.g) dX7_count_123 rfl (fun v17 => ?_)
    refine sw_cllV_I (st := []) (as := []) (pc' := 129) ok (S_X0_lovers v17) (by decide) lk_X7_345 rfl dX7_count_126 rfl (Nat.le_of_ble_eq_true rfl) rfl (fun v18 => ?_)
    exact sw_ret ok okr dX7_count_129 trivial rfl
  · refine sw_aload_n (z := a0) (pc' := 131) ok dX7_count_130 rfl rfl ?_
    refine sw_getR (pc' := 134) ok (fr_X7_11.g) dX7_count_131 rfl (fun v19 => ?_)
    refine sw_cll0_I (st := []) (as := [.ref v19]) (pc' := 137) ok (S_X7_howManyThere v19) (by decide) lk_X7_348 rfl dX7_count_134 rfl (Nat.le_of_ble_eq_true rfl) rfl (fun v20 => ?_)
    exact sw_ret ok okr dX7_count_137 trivial rfl
  · refine sw_aload_n (z := a0) (pc' := 139) ok dX7_count_138 rfl rfl ?_
    refine sw_getR (pc' := 142) ok (fr_X7_15.g) dX7_count_139 rfl (fun v21 => ?_)
    refine sw_cll0_I (st := []) (as := [.ref v21]) (pc' := 145) ok (S_X7_howManyThere v21) (by decide) lk_X7_348 rfl dX7_count_142 rfl (Nat.le_of_ble_eq_true rfl) rfl (fun v22 => ?_)
    exact sw_ret ok okr dX7_count_145 trivial rfl
  · refine sw_aload_n (z := a0) (pc' := 147) ok dX7_count_146 rfl rfl ?_
    refine sw_cllV_I (st := []) (as := []) (pc' := 150) ok (S_X7_howManyKept a0) (by decide) lk_X7_352 rfl dX7_count_147 rfl (Nat.le_of_ble_eq_true rfl) rfl (fun v23 => ?_)
    exact sw_ret ok okr dX7_count_150 trivial rfl
  refine sw_iconst (v := (-1)) (pc' := 152) ok dX7_count_151 rfl cc_iconst_m1 ?_
  exact sw_ret ok okr dX7_count_152 trivial rfl
theorem S_X7_count (a0 : Nat) (x1 : Int32) : Sim 2 yX7_count cX7_count 2 (some .int) iI [.ref a0, .int x1] (P_X7_count a0 x1) := Sim.intro wd_1055 (by decide) (by decide +kernel) (Nat.le_of_ble_eq_true rfl) (fun Γ ok okr => W_X7_count ok okr a0 x1)
theorem dX7_finding_0 : decode cX7_finding 0 = .ok (.aload_n 0, 1) := by decide +kernel
theorem dX7_finding_1 : decode cX7_finding 1 = .ok (.getfield 61, 3) := by decide +kernel
theorem dX7_finding_4 : decode cX7_finding 4 = .ok (.ireturn, 1) := by decide +kernel
def P_X7_finding (a0 : Nat) : PM Int32 :=
getI 7 9 a0 fun v1 =>
pureM v1
set_option maxHeartbeats 4000000 in
set_option maxRecDepth 100000 in
theorem W_X7_finding {Γ : Cx} (ok : OKc Γ cX7_finding RX7 0 "finding") (okr : OKr Γ cX7_finding (some .int)) (a0 : Nat) : SW Γ iI 0 [some (.ref a0)] [] (P_X7_finding a0) := by
  unfold P_X7_finding
  refine sw_aload_n (z := a0) (pc' := 1) ok dX7_finding_0 rfl rfl ?_
  refine sw_getI (pc' := 4) ok (fr_X7_61.g) dX7_finding_1 rfl (fun v1 => ?_)
  exact sw_ret ok okr dX7_finding_4 trivial rfl
theorem S_X7_finding (a0 : Nat) : Sim 0 yX7_finding cX7_finding 1 (some .int) iI [.ref a0] (P_X7_finding a0) := Sim.intro wd_1056 (by decide) (by decide +kernel) (Nat.le_of_ble_eq_true rfl) (fun Γ ok okr => W_X7_finding ok okr a0)
theorem dX7_findings_0 : decode cX7_findings 0 = .ok (.iload_n 1, 1) := by decide +kernel
theorem dX7_findings_1 : decode cX7_findings 1 = .ok (.iconst 1, 1) := by decide +kernel
theorem dX7_findings_2 : decode cX7_findings 2 = .ok (.if_icmp .lt 17, 3) := by decide +kernel
theorem dX7_findings_5 : decode cX7_findings 5 = .ok (.iload_n 1, 1) := by decide +kernel
theorem dX7_findings_6 : decode cX7_findings 6 = .ok (.iconst 5, 1) := by decide +kernel
theorem dX7_findings_7 : decode cX7_findings 7 = .ok (.if_icmp .gt 12, 3) := by decide +kernel
theorem dX7_findings_10 : decode cX7_findings 10 = .ok (.aload_n 0, 1) := by decide +kernel
theorem dX7_findings_11 : decode cX7_findings 11 = .ok (.getfield 57, 3) := by decide +kernel
theorem dX7_findings_14 : decode cX7_findings 14 = .ok (.iload_n 1, 1) := by decide +kernel
theorem dX7_findings_15 : decode cX7_findings 15 = .ok (.iaload, 1) := by decide +kernel
theorem dX7_findings_16 : decode cX7_findings 16 = .ok (.goto 4, 3) := by decide +kernel
theorem dX7_findings_19 : decode cX7_findings 19 = .ok (.iconst (-1), 1) := by decide +kernel
theorem dX7_findings_20 : decode cX7_findings 20 = .ok (.ireturn, 1) := by decide +kernel
def P_X7_findings (a0 : Nat) (x1 : Int32) : PM Int32 :=
jn (
pureM ((-1))) fun k1 =>
ifB (decide (x1 < 1)) (
k1) (
ifB (decide (5 < x1)) (
k1) (
getR 7 8 a0 fun v2 =>
ald v2 x1 fun v3 =>
pureM v3))
set_option maxHeartbeats 4000000 in
set_option maxRecDepth 100000 in
theorem W_X7_findings {Γ : Cx} (ok : OKc Γ cX7_findings RX7 0 "findings") (okr : OKr Γ cX7_findings (some .int)) (a0 : Nat) (x1 : Int32) : SW Γ iI 0 [some (.ref a0), some (.int x1)] [] (P_X7_findings a0 x1) := by
  unfold P_X7_findings
  refine sw_iload_n (z := x1) (pc' := 1) ok dX7_findings_0 rfl rfl ?_
  refine sw_iconst (v := 1) (pc' := 2) ok dX7_findings_1 rfl cc_iconst_1 ?_
  refine sw_jn (fun k1 : PM Int32 => SW Γ iI 19 [none, none] [] (k1)) ?_ (fun k1 hk1 => ?_)
  · refine sw_iconst (v := (-1)) (pc' := 20) ok dX7_findings_19 rfl cc_iconst_m1 ?_
    exact sw_ret ok okr dX7_findings_20 trivial rfl
  refine sw_icmp_lt (tgt := 19) (pc' := 5) ok dX7_findings_2 (by decide) rfl ?_ ?_
  · refine sw_fg (l' := [none, none]) [false, false] rfl ?_
    exact hk1
  refine sw_iload_n (z := x1) (pc' := 6) ok dX7_findings_5 rfl rfl ?_
  refine sw_iconst (v := 5) (pc' := 7) ok dX7_findings_6 rfl cc_iconst_5 ?_
  refine sw_icmp_gt (tgt := 19) (pc' := 10) ok dX7_findings_7 (by decide) rfl ?_ ?_
  · refine sw_fg (l' := [none, none]) [false, false] rfl ?_
    exact hk1
  refine sw_aload_n (z := a0) (pc' := 11) ok dX7_findings_10 rfl rfl ?_
  refine sw_getR (pc' := 14) ok (fr_X7_57.g) dX7_findings_11 rfl (fun v2 => ?_)
  refine sw_iload_n (z := x1) (pc' := 15) ok dX7_findings_14 rfl rfl ?_
  refine sw_ald (pc' := 16) ok dX7_findings_15 rfl (fun v3 => ?_)
  refine sw_goto (tgt := 20) ok dX7_findings_16 (by decide) ?_
  exact sw_ret ok okr dX7_findings_20 trivial rfl
theorem S_X7_findings (a0 : Nat) (x1 : Int32) : Sim 0 yX7_findings cX7_findings 2 (some .int) iI [.ref a0, .int x1] (P_X7_findings a0 x1) := Sim.intro wd_1057 (by decide) (by decide +kernel) (Nat.le_of_ble_eq_true rfl) (fun Γ ok okr => W_X7_findings ok okr a0 x1)
theorem dX7_addPlaces_0 : decode cX7_addPlaces 0 = .ok (.lload_n 0, 1) := by decide +kernel
theorem dX7_addPlaces_1 : decode cX7_addPlaces 1 = .ok (.lstore_n 3, 1) := by decide +kernel
theorem dX7_addPlaces_2 : decode cX7_addPlaces 2 = .ok (.iconst 0, 1) := by decide +kernel
theorem dX7_addPlaces_3 : decode cX7_addPlaces 3 = .ok (.istore 5, 2) := by decide +kernel
theorem dX7_addPlaces_5 : decode cX7_addPlaces 5 = .ok (.iload 5, 2) := by decide +kernel
theorem dX7_addPlaces_7 : decode cX7_addPlaces 7 = .ok (.aload_n 2, 1) := by decide +kernel
theorem dX7_addPlaces_8 : decode cX7_addPlaces 8 = .ok (.arraylength, 1) := by decide +kernel
theorem dX7_addPlaces_9 : decode cX7_addPlaces 9 = .ok (.if_icmp .ge 82, 3) := by decide +kernel
theorem dX7_addPlaces_12 : decode cX7_addPlaces 12 = .ok (.aload_n 2, 1) := by decide +kernel
theorem dX7_addPlaces_13 : decode cX7_addPlaces 13 = .ok (.iload 5, 2) := by decide +kernel
theorem dX7_addPlaces_15 : decode cX7_addPlaces 15 = .ok (.aaload, 1) := by decide +kernel
theorem dX7_addPlaces_16 : decode cX7_addPlaces 16 = .ok (.astore 6, 2) := by decide +kernel
theorem dX7_addPlaces_18 : decode cX7_addPlaces 18 = .ok (.ldc2_w 357, 3) := by decide +kernel
theorem dX7_addPlaces_21 : decode cX7_addPlaces 21 = .ok (.lload_n 3, 1) := by decide +kernel
theorem dX7_addPlaces_22 : decode cX7_addPlaces 22 = .ok (.lmul, 1) := by decide +kernel
theorem dX7_addPlaces_23 : decode cX7_addPlaces 23 = .ok (.aload 6, 2) := by decide +kernel
theorem dX7_addPlaces_25 : decode cX7_addPlaces 25 = .ok (.getfield 104, 3) := by decide +kernel
theorem dX7_addPlaces_28 : decode cX7_addPlaces 28 = .ok (.ifCond .eq 11, 3) := by decide +kernel
theorem dX7_addPlaces_31 : decode cX7_addPlaces 31 = .ok (.aload 6, 2) := by decide +kernel
theorem dX7_addPlaces_33 : decode cX7_addPlaces 33 = .ok (.getfield 121, 3) := by decide +kernel
theorem dX7_addPlaces_36 : decode cX7_addPlaces 36 = .ok (.goto 4, 3) := by decide +kernel
theorem dX7_addPlaces_39 : decode cX7_addPlaces 39 = .ok (.iconst (-1), 1) := by decide +kernel
theorem dX7_addPlaces_40 : decode cX7_addPlaces 40 = .ok (.i2l, 1) := by decide +kernel
theorem dX7_addPlaces_41 : decode cX7_addPlaces 41 = .ok (.ladd, 1) := by decide +kernel
theorem dX7_addPlaces_42 : decode cX7_addPlaces 42 = .ok (.lstore_n 3, 1) := by decide +kernel
theorem dX7_addPlaces_43 : decode cX7_addPlaces 43 = .ok (.iconst 0, 1) := by decide +kernel
theorem dX7_addPlaces_44 : decode cX7_addPlaces 44 = .ok (.istore 7, 2) := by decide +kernel
theorem dX7_addPlaces_46 : decode cX7_addPlaces 46 = .ok (.aload 6, 2) := by decide +kernel
theorem dX7_addPlaces_48 : decode cX7_addPlaces 48 = .ok (.getfield 104, 3) := by decide +kernel
theorem dX7_addPlaces_51 : decode cX7_addPlaces 51 = .ok (.ifCond .eq 34, 3) := by decide +kernel
theorem dX7_addPlaces_54 : decode cX7_addPlaces 54 = .ok (.iload 7, 2) := by decide +kernel
theorem dX7_addPlaces_56 : decode cX7_addPlaces 56 = .ok (.aload 6, 2) := by decide +kernel
theorem dX7_addPlaces_58 : decode cX7_addPlaces 58 = .ok (.getfield 121, 3) := by decide +kernel
theorem dX7_addPlaces_61 : decode cX7_addPlaces 61 = .ok (.if_icmp .ge 24, 3) := by decide +kernel
theorem dX7_addPlaces_64 : decode cX7_addPlaces 64 = .ok (.ldc2_w 357, 3) := by decide +kernel
theorem dX7_addPlaces_67 : decode cX7_addPlaces 67 = .ok (.lload_n 3, 1) := by decide +kernel
theorem dX7_addPlaces_68 : decode cX7_addPlaces 68 = .ok (.lmul, 1) := by decide +kernel
theorem dX7_addPlaces_69 : decode cX7_addPlaces 69 = .ok (.aload 6, 2) := by decide +kernel
theorem dX7_addPlaces_71 : decode cX7_addPlaces 71 = .ok (.iload 7, 2) := by decide +kernel
theorem dX7_addPlaces_73 : decode cX7_addPlaces 73 = .ok (.invokevirtual 101, 3) := by decide +kernel
theorem dX7_addPlaces_76 : decode cX7_addPlaces 76 = .ok (.i2l, 1) := by decide +kernel
theorem dX7_addPlaces_77 : decode cX7_addPlaces 77 = .ok (.ladd, 1) := by decide +kernel
theorem dX7_addPlaces_78 : decode cX7_addPlaces 78 = .ok (.lstore_n 3, 1) := by decide +kernel
theorem dX7_addPlaces_79 : decode cX7_addPlaces 79 = .ok (.iinc 7 1, 3) := by decide +kernel
theorem dX7_addPlaces_82 : decode cX7_addPlaces 82 = .ok (.goto (-36), 3) := by decide +kernel
theorem dX7_addPlaces_85 : decode cX7_addPlaces 85 = .ok (.iinc 5 1, 3) := by decide +kernel
theorem dX7_addPlaces_88 : decode cX7_addPlaces 88 = .ok (.goto (-83), 3) := by decide +kernel
theorem dX7_addPlaces_91 : decode cX7_addPlaces 91 = .ok (.lload_n 3, 1) := by decide +kernel
theorem dX7_addPlaces_92 : decode cX7_addPlaces 92 = .ok (.lreturn, 1) := by decide +kernel
def P_X7_addPlaces_46 (k_85 : Int64 → PM Int64) (p2 : Nat) (p5 : Int32) (p6 : Nat) : Nat → Int64 → Int32 → PM Int64
  | 0, _, _ => failM
  | n + 1, q3, q7 =>
    getI 5 3 p6 fun v8 =>
    ifB (decide (v8 = 0)) (
    k_85 q3) (
    getI 5 2 p6 fun v9 =>
    ifB (decide (v9 ≤ q7)) (
    k_85 q3) (
    cllV 5 p6 (P_X5_get p6 q7) fun v10 =>
    P_X7_addPlaces_46 k_85 p2 p5 p6 n ((31 * q3) + (Int32.toInt64 v10)) (q7 + 1)))
def P_X7_addPlaces_5 (p2 : Nat) : Nat → Int64 → Int32 → PM Int64
  | 0, _, _ => failM
  | n + 1, q3, q5 =>
    alen p2 fun v1 =>
    ifB (decide (v1 ≤ q5)) (
    pureM q3) (
    aldR p2 q5 fun v2 =>
    getI 5 3 v2 fun v3 =>
    jn (fun (j4 : Int64) (j5 : Int32) =>
    jn (fun (e6 : Int64) =>
    P_X7_addPlaces_5 p2 n e6 (q5 + 1)) fun k7 =>
    P_X7_addPlaces_46 k7 p2 q5 v2 4000 (j4 + (Int32.toInt64 j5)) 0) fun k11 =>
    ifB (decide (v3 = 0)) (
    k11 (31 * q3) ((-1))) (
    getI 5 2 v2 fun v12 =>
    k11 (31 * q3) v12))
def P_X7_addPlaces (x0 : Int64) (a1 : Nat) : PM Int64 :=
P_X7_addPlaces_5 a1 4000 x0 0
set_option maxHeartbeats 4000000 in
set_option maxRecDepth 100000 in
theorem W_X7_addPlaces_46 {Γ : Cx} (ok : OKc Γ cX7_addPlaces RX7 2 "addPlaces") (okr : OKr Γ cX7_addPlaces (some .long)) (k_85 : Int64 → PM Int64) (p2 : Nat) (p5 : Int32) (p6 : Nat) (hk_85 : ∀ (y3 : Int64), SW Γ iL 85 [none, none, some (.ref p2), some (.long y3), none, some (.int p5), none, none] [] (k_85 y3)) : ∀ (n : Nat) (q3 : Int64) (q7 : Int32), SW Γ iL 46 [none, none, some (.ref p2), some (.long q3), none, some (.int p5), some (.ref p6), some (.int q7)] [] (P_X7_addPlaces_46 k_85 p2 p5 p6 n q3 q7) := by
  intro n
  induction n with
  | zero =>
    intros
    exact sw_fail
  | succ n ih =>
    intro q3 q7
    unfold P_X7_addPlaces_46
    refine sw_aload (z := p6) (pc' := 48) ok dX7_addPlaces_46 rfl rfl ?_
    refine sw_getI (pc' := 51) ok (fr_X7_104.g) dX7_addPlaces_48 rfl (fun v8 => ?_)
    refine sw_if_eq (tgt := 85) (pc' := 54) ok dX7_addPlaces_51 (by decide) rfl ?_ ?_
    · refine sw_fg (l' := [none, none, some (.ref p2), some (.long q3), none, some (.int p5), none, none]) [false, false, true, true, false, true, false, false] rfl ?_
      exact hk_85 q3
    refine sw_iload (z := q7) (pc' := 56) ok dX7_addPlaces_54 rfl rfl ?_
    refine sw_aload (z := p6) (pc' := 58) ok dX7_addPlaces_56 rfl rfl ?_
    refine sw_getI (pc' := 61) ok (fr_X7_121.g) dX7_addPlaces_58 rfl (fun v9 => ?_)
    refine sw_icmp_ge (tgt := 85) (pc' := 64) ok dX7_addPlaces_61 (by decide) rfl ?_ ?_
    · refine sw_fg (l' := [none, none, some (.ref p2), some (.long q3), none, some (.int p5), none, none]) [false, false, true, true, false, true, false, false] rfl ?_
      exact hk_85 q3
    refine sw_ldc2 (v := 31) (pc' := 67) ok dX7_addPlaces_64 rfl wd_424 ?_
    refine sw_lload_n (z := q3) (pc' := 68) ok dX7_addPlaces_67 rfl rfl ?_
    refine sw_lmul (pc' := 69) ok dX7_addPlaces_68 rfl ?_
    refine sw_aload (z := p6) (pc' := 71) ok dX7_addPlaces_69 rfl rfl ?_
    refine sw_iload (z := q7) (pc' := 73) ok dX7_addPlaces_71 rfl rfl ?_
    refine sw_cllV_I (st := [.long (31 * q3)]) (as := [.int q7]) (pc' := 76) ok (S_X5_get p6 q7) (by decide) lk_X7_101 rfl dX7_addPlaces_73 rfl (Nat.le_of_ble_eq_true rfl) rfl (fun v10 => ?_)
    refine sw_i2l (pc' := 77) ok dX7_addPlaces_76 rfl ?_
    refine sw_ladd (pc' := 78) ok dX7_addPlaces_77 rfl ?_
    refine sw_lstore_n (pc' := 79) (l' := [none, none, some (.ref p2), some (.long ((31 * q3) + (Int32.toInt64 v10))), none, some (.int p5), some (.ref p6), some (.int q7)]) ok dX7_addPlaces_78 rfl (Nat.le_of_ble_eq_true rfl) rfl ?_
    refine sw_iinc (z := q7) (v := q7 + 1) (pc' := 82) (l' := [none, none, some (.ref p2), some (.long ((31 * q3) + (Int32.toInt64 v10))), none, some (.int p5), some (.ref p6), some (.int (q7 + 1))]) ok dX7_addPlaces_79 rfl rfl (by rw [cc_iconst_1]) rfl ?_
    refine sw_goto (tgt := 46) ok dX7_addPlaces_82 (by decide) ?_
    exact ih ((31 * q3) + (Int32.toInt64 v10)) (q7 + 1)
set_option maxHeartbeats 4000000 in
set_option maxRecDepth 100000 in
theorem W_X7_addPlaces_5 {Γ : Cx} (ok : OKc Γ cX7_addPlaces RX7 2 "addPlaces") (okr : OKr Γ cX7_addPlaces (some .long)) (p2 : Nat) : ∀ (n : Nat) (q3 : Int64) (q5 : Int32), SW Γ iL 5 [none, none, some (.ref p2), some (.long q3), none, some (.int q5), none, none] [] (P_X7_addPlaces_5 p2 n q3 q5) := by
  intro n
  induction n with
  | zero =>
    intros
    exact sw_fail
  | succ n ih =>
    intro q3 q5
    unfold P_X7_addPlaces_5
    refine sw_iload (z := q5) (pc' := 7) ok dX7_addPlaces_5 rfl rfl ?_
    refine sw_aload_n (z := p2) (pc' := 8) ok dX7_addPlaces_7 rfl rfl ?_
    refine sw_alen (pc' := 9) ok dX7_addPlaces_8 rfl (fun v1 => ?_)
    refine sw_icmp_ge (tgt := 91) (pc' := 12) ok dX7_addPlaces_9 (by decide) rfl ?_ ?_
    · refine sw_lload_n (z := q3) (pc' := 92) ok dX7_addPlaces_91 rfl rfl ?_
      exact sw_ret ok okr dX7_addPlaces_92 trivial rfl
    refine sw_aload_n (z := p2) (pc' := 13) ok dX7_addPlaces_12 rfl rfl ?_
    refine sw_iload (z := q5) (pc' := 15) ok dX7_addPlaces_13 rfl rfl ?_
    refine sw_aldR (pc' := 16) ok dX7_addPlaces_15 rfl (fun v2 => ?_)
    refine sw_astore (pc' := 18) (l' := [none, none, some (.ref p2), some (.long q3), none, some (.int q5), some (.ref v2), none]) ok dX7_addPlaces_16 rfl (Nat.le_of_ble_eq_true rfl) rfl ?_
    refine sw_ldc2 (v := 31) (pc' := 21) ok dX7_addPlaces_18 rfl wd_424 ?_
    refine sw_lload_n (z := q3) (pc' := 22) ok dX7_addPlaces_21 rfl rfl ?_
    refine sw_lmul (pc' := 23) ok dX7_addPlaces_22 rfl ?_
    refine sw_aload (z := v2) (pc' := 25) ok dX7_addPlaces_23 rfl rfl ?_
    refine sw_getI (pc' := 28) ok (fr_X7_104.g) dX7_addPlaces_25 rfl (fun v3 => ?_)
    refine sw_jn (fun k11 : Int64 → Int32 → PM Int64 => ∀ (j4 : Int64) (j5 : Int32), SW Γ iL 40 [none, none, some (.ref p2), none, none, some (.int q5), some (.ref v2), none] [.int j5, .long j4] (k11 j4 j5)) ?_ (fun k11 hk11 => ?_)
    · intro j4 j5
      refine sw_i2l (pc' := 41) ok dX7_addPlaces_40 rfl ?_
      refine sw_ladd (pc' := 42) ok dX7_addPlaces_41 rfl ?_
      refine sw_lstore_n (pc' := 43) (l' := [none, none, some (.ref p2), some (.long (j4 + (Int32.toInt64 j5))), none, some (.int q5), some (.ref v2), none]) ok dX7_addPlaces_42 rfl (Nat.le_of_ble_eq_true rfl) rfl ?_
      refine sw_iconst (v := 0) (pc' := 44) ok dX7_addPlaces_43 rfl cc_iconst_0 ?_
      refine sw_istore (pc' := 46) (l' := [none, none, some (.ref p2), some (.long (j4 + (Int32.toInt64 j5))), none, some (.int q5), some (.ref v2), some (.int 0)]) ok dX7_addPlaces_44 rfl (Nat.le_of_ble_eq_true rfl) rfl ?_
      refine sw_jn (fun k7 : Int64 → PM Int64 => ∀ (e6 : Int64), SW Γ iL 85 [none, none, some (.ref p2), some (.long e6), none, some (.int q5), none, none] [] (k7 e6)) ?_ (fun k7 hk7 => ?_)
      · intro e6
        refine sw_iinc (z := q5) (v := q5 + 1) (pc' := 88) (l' := [none, none, some (.ref p2), some (.long e6), none, some (.int (q5 + 1)), none, none]) ok dX7_addPlaces_85 rfl rfl (by rw [cc_iconst_1]) rfl ?_
        refine sw_goto (tgt := 5) ok dX7_addPlaces_88 (by decide) ?_
        exact ih e6 (q5 + 1)
      exact W_X7_addPlaces_46 ok okr k7 p2 q5 v2 hk7 4000 (j4 + (Int32.toInt64 j5)) 0
    refine sw_if_eq (tgt := 39) (pc' := 31) ok dX7_addPlaces_28 (by decide) rfl ?_ ?_
    · refine sw_iconst (v := (-1)) (pc' := 40) ok dX7_addPlaces_39 rfl cc_iconst_m1 ?_
      refine sw_fg (l' := [none, none, some (.ref p2), none, none, some (.int q5), some (.ref v2), none]) [false, false, true, false, false, true, true, false] rfl ?_
      exact hk11 (31 * q3) ((-1))
    refine sw_aload (z := v2) (pc' := 33) ok dX7_addPlaces_31 rfl rfl ?_
    refine sw_getI (pc' := 36) ok (fr_X7_121.g) dX7_addPlaces_33 rfl (fun v12 => ?_)
    refine sw_goto (tgt := 40) ok dX7_addPlaces_36 (by decide) ?_
    refine sw_fg (l' := [none, none, some (.ref p2), none, none, some (.int q5), some (.ref v2), none]) [false, false, true, false, false, true, true, false] rfl ?_
    exact hk11 (31 * q3) v12
set_option maxHeartbeats 4000000 in
set_option maxRecDepth 100000 in
theorem W_X7_addPlaces {Γ : Cx} (ok : OKc Γ cX7_addPlaces RX7 2 "addPlaces") (okr : OKr Γ cX7_addPlaces (some .long)) (x0 : Int64) (a1 : Nat) : SW Γ iL 0 [some (.long x0), none, some (.ref a1), none, none, none, none, none] [] (P_X7_addPlaces x0 a1) := by
  unfold P_X7_addPlaces
  refine sw_lload_n (z := x0) (pc' := 1) ok dX7_addPlaces_0 rfl rfl ?_
  refine sw_lstore_n (pc' := 2) (l' := [some (.long x0), none, some (.ref a1), some (.long x0), none, none, none, none]) ok dX7_addPlaces_1 rfl (Nat.le_of_ble_eq_true rfl) rfl ?_
  refine sw_iconst (v := 0) (pc' := 3) ok dX7_addPlaces_2 rfl cc_iconst_0 ?_
  refine sw_istore (pc' := 5) (l' := [some (.long x0), none, some (.ref a1), some (.long x0), none, some (.int 0), none, none]) ok dX7_addPlaces_3 rfl (Nat.le_of_ble_eq_true rfl) rfl ?_
  refine sw_fg (l' := [none, none, some (.ref a1), some (.long x0), none, some (.int 0), none, none]) [false, false, true, true, false, true, false, false] rfl ?_
  exact W_X7_addPlaces_5 ok okr a1 4000 x0 0
theorem S_X7_addPlaces (x0 : Int64) (a1 : Nat) : Sim 2 yX7_addPlaces cX7_addPlaces 8 (some .long) iL [.long x0, .ref a1] (P_X7_addPlaces x0 a1) := Sim.intro wd_1058 (by decide) (by decide +kernel) (Nat.le_of_ble_eq_true rfl) (fun Γ ok okr => W_X7_addPlaces ok okr x0 a1)
theorem dX7_digest_0 : decode cX7_digest 0 = .ok (.ldc2_w 355, 3) := by decide +kernel
theorem dX7_digest_3 : decode cX7_digest 3 = .ok (.lstore_n 1, 1) := by decide +kernel
theorem dX7_digest_4 : decode cX7_digest 4 = .ok (.iconst 0, 1) := by decide +kernel
theorem dX7_digest_5 : decode cX7_digest 5 = .ok (.istore_n 3, 1) := by decide +kernel
theorem dX7_digest_6 : decode cX7_digest 6 = .ok (.iload_n 3, 1) := by decide +kernel
theorem dX7_digest_7 : decode cX7_digest 7 = .ok (.bipush 11, 2) := by decide +kernel
theorem dX7_digest_9 : decode cX7_digest 9 = .ok (.if_icmp .ge 22, 3) := by decide +kernel
theorem dX7_digest_12 : decode cX7_digest 12 = .ok (.ldc2_w 357, 3) := by decide +kernel
theorem dX7_digest_15 : decode cX7_digest 15 = .ok (.lload_n 1, 1) := by decide +kernel
theorem dX7_digest_16 : decode cX7_digest 16 = .ok (.lmul, 1) := by decide +kernel
theorem dX7_digest_17 : decode cX7_digest 17 = .ok (.aload_n 0, 1) := by decide +kernel
theorem dX7_digest_18 : decode cX7_digest 18 = .ok (.iload_n 3, 1) := by decide +kernel
theorem dX7_digest_19 : decode cX7_digest 19 = .ok (.invokevirtual 359, 3) := by decide +kernel
theorem dX7_digest_22 : decode cX7_digest 22 = .ok (.i2l, 1) := by decide +kernel
theorem dX7_digest_23 : decode cX7_digest 23 = .ok (.ladd, 1) := by decide +kernel
theorem dX7_digest_24 : decode cX7_digest 24 = .ok (.lstore_n 1, 1) := by decide +kernel
theorem dX7_digest_25 : decode cX7_digest 25 = .ok (.iinc 3 1, 3) := by decide +kernel
theorem dX7_digest_28 : decode cX7_digest 28 = .ok (.goto (-22), 3) := by decide +kernel
theorem dX7_digest_31 : decode cX7_digest 31 = .ok (.iconst 0, 1) := by decide +kernel
theorem dX7_digest_32 : decode cX7_digest 32 = .ok (.istore_n 3, 1) := by decide +kernel
theorem dX7_digest_33 : decode cX7_digest 33 = .ok (.iload_n 3, 1) := by decide +kernel
theorem dX7_digest_34 : decode cX7_digest 34 = .ok (.aload_n 0, 1) := by decide +kernel
theorem dX7_digest_35 : decode cX7_digest 35 = .ok (.getfield 27, 3) := by decide +kernel
theorem dX7_digest_38 : decode cX7_digest 38 = .ok (.getfield 143, 3) := by decide +kernel
theorem dX7_digest_41 : decode cX7_digest 41 = .ok (.if_icmp .ge 40, 3) := by decide +kernel
theorem dX7_digest_44 : decode cX7_digest 44 = .ok (.iconst 0, 1) := by decide +kernel
theorem dX7_digest_45 : decode cX7_digest 45 = .ok (.istore 4, 2) := by decide +kernel
theorem dX7_digest_47 : decode cX7_digest 47 = .ok (.iload 4, 2) := by decide +kernel
theorem dX7_digest_49 : decode cX7_digest 49 = .ok (.bipush 6, 2) := by decide +kernel
theorem dX7_digest_51 : decode cX7_digest 51 = .ok (.if_icmp .ge 24, 3) := by decide +kernel
theorem dX7_digest_54 : decode cX7_digest 54 = .ok (.ldc2_w 357, 3) := by decide +kernel
theorem dX7_digest_57 : decode cX7_digest 57 = .ok (.lload_n 1, 1) := by decide +kernel
theorem dX7_digest_58 : decode cX7_digest 58 = .ok (.lmul, 1) := by decide +kernel
theorem dX7_digest_59 : decode cX7_digest 59 = .ok (.aload_n 0, 1) := by decide +kernel
theorem dX7_digest_60 : decode cX7_digest 60 = .ok (.iload_n 3, 1) := by decide +kernel
theorem dX7_digest_61 : decode cX7_digest 61 = .ok (.iload 4, 2) := by decide +kernel
theorem dX7_digest_63 : decode cX7_digest 63 = .ok (.invokevirtual 147, 3) := by decide +kernel
theorem dX7_digest_66 : decode cX7_digest 66 = .ok (.i2l, 1) := by decide +kernel
theorem dX7_digest_67 : decode cX7_digest 67 = .ok (.ladd, 1) := by decide +kernel
theorem dX7_digest_68 : decode cX7_digest 68 = .ok (.lstore_n 1, 1) := by decide +kernel
theorem dX7_digest_69 : decode cX7_digest 69 = .ok (.iinc 4 1, 3) := by decide +kernel
theorem dX7_digest_72 : decode cX7_digest 72 = .ok (.goto (-25), 3) := by decide +kernel
theorem dX7_digest_75 : decode cX7_digest 75 = .ok (.iinc 3 1, 3) := by decide +kernel
theorem dX7_digest_78 : decode cX7_digest 78 = .ok (.goto (-45), 3) := by decide +kernel
theorem dX7_digest_81 : decode cX7_digest 81 = .ok (.iconst 0, 1) := by decide +kernel
theorem dX7_digest_82 : decode cX7_digest 82 = .ok (.istore_n 3, 1) := by decide +kernel
theorem dX7_digest_83 : decode cX7_digest 83 = .ok (.iload_n 3, 1) := by decide +kernel
theorem dX7_digest_84 : decode cX7_digest 84 = .ok (.iconst 3, 1) := by decide +kernel
theorem dX7_digest_85 : decode cX7_digest 85 = .ok (.if_icmp .ge 42, 3) := by decide +kernel
theorem dX7_digest_88 : decode cX7_digest 88 = .ok (.ldc2_w 357, 3) := by decide +kernel
theorem dX7_digest_91 : decode cX7_digest 91 = .ok (.lload_n 1, 1) := by decide +kernel
theorem dX7_digest_92 : decode cX7_digest 92 = .ok (.lmul, 1) := by decide +kernel
theorem dX7_digest_93 : decode cX7_digest 93 = .ok (.aload_n 0, 1) := by decide +kernel
theorem dX7_digest_94 : decode cX7_digest 94 = .ok (.getfield 20, 3) := by decide +kernel
theorem dX7_digest_97 : decode cX7_digest 97 = .ok (.iload_n 3, 1) := by decide +kernel
theorem dX7_digest_98 : decode cX7_digest 98 = .ok (.aaload, 1) := by decide +kernel
theorem dX7_digest_99 : decode cX7_digest 99 = .ok (.getfield 142, 3) := by decide +kernel
theorem dX7_digest_102 : decode cX7_digest 102 = .ok (.ifCond .eq 15, 3) := by decide +kernel
theorem dX7_digest_105 : decode cX7_digest 105 = .ok (.aload_n 0, 1) := by decide +kernel
theorem dX7_digest_106 : decode cX7_digest 106 = .ok (.getfield 20, 3) := by decide +kernel
theorem dX7_digest_109 : decode cX7_digest 109 = .ok (.iload_n 3, 1) := by decide +kernel
theorem dX7_digest_110 : decode cX7_digest 110 = .ok (.aaload, 1) := by decide +kernel
theorem dX7_digest_111 : decode cX7_digest 111 = .ok (.getfield 214, 3) := by decide +kernel
theorem dX7_digest_114 : decode cX7_digest 114 = .ok (.goto 4, 3) := by decide +kernel
theorem dX7_digest_117 : decode cX7_digest 117 = .ok (.iconst (-1), 1) := by decide +kernel
theorem dX7_digest_118 : decode cX7_digest 118 = .ok (.i2l, 1) := by decide +kernel
theorem dX7_digest_119 : decode cX7_digest 119 = .ok (.ladd, 1) := by decide +kernel
theorem dX7_digest_120 : decode cX7_digest 120 = .ok (.lstore_n 1, 1) := by decide +kernel
theorem dX7_digest_121 : decode cX7_digest 121 = .ok (.iinc 3 1, 3) := by decide +kernel
theorem dX7_digest_124 : decode cX7_digest 124 = .ok (.goto (-41), 3) := by decide +kernel
theorem dX7_digest_127 : decode cX7_digest 127 = .ok (.lload_n 1, 1) := by decide +kernel
theorem dX7_digest_128 : decode cX7_digest 128 = .ok (.aload_n 0, 1) := by decide +kernel
theorem dX7_digest_129 : decode cX7_digest 129 = .ok (.getfield 11, 3) := by decide +kernel
theorem dX7_digest_132 : decode cX7_digest 132 = .ok (.invokestatic 362, 3) := by decide +kernel
theorem dX7_digest_135 : decode cX7_digest 135 = .ok (.aload_n 0, 1) := by decide +kernel
theorem dX7_digest_136 : decode cX7_digest 136 = .ok (.getfield 15, 3) := by decide +kernel
theorem dX7_digest_139 : decode cX7_digest 139 = .ok (.invokestatic 362, 3) := by decide +kernel
theorem dX7_digest_142 : decode cX7_digest 142 = .ok (.lreturn, 1) := by decide +kernel
def P_X7_digest_83 (k_127 : Int64 → PM Int64) (p0 : Nat) : Nat → Int64 → Int32 → PM Int64
  | 0, _, _ => failM
  | n + 1, q1, q3 =>
    ifB (decide (3 ≤ q3)) (
    k_127 q1) (
    getR 7 2 p0 fun v9 =>
    aldR v9 q3 fun v10 =>
    getI 3 6 v10 fun v11 =>
    jn (fun (j12 : Int64) (j13 : Int32) =>
    P_X7_digest_83 k_127 p0 n (j12 + (Int32.toInt64 j13)) (q3 + 1)) fun k14 =>
    ifB (decide (v11 = 0)) (
    k14 (31 * q1) ((-1))) (
    getR 7 2 p0 fun v15 =>
    aldR v15 q3 fun v16 =>
    getI 3 2 v16 fun v17 =>
    k14 (31 * q1) v17))
def P_X7_digest_47 (k_75 : Int64 → PM Int64) (p0 : Nat) (p3 : Int32) : Nat → Int64 → Int32 → PM Int64
  | 0, _, _ => failM
  | n + 1, q1, q4 =>
    ifB (decide (6 ≤ q4)) (
    k_75 q1) (
    cllV 7 p0 (P_X7_fact p0 p3 q4) fun v23 =>
    P_X7_digest_47 k_75 p0 p3 n ((31 * q1) + (Int32.toInt64 v23)) (q4 + 1))
def P_X7_digest_33 (k_81 : Int64 → PM Int64) (p0 : Nat) : Nat → Int64 → Int32 → PM Int64
  | 0, _, _ => failM
  | n + 1, q1, q3 =>
    getR 7 3 p0 fun v19 =>
    getI 0 4 v19 fun v20 =>
    ifB (decide (v20 ≤ q3)) (
    k_81 q1) (
    jn (fun (e21 : Int64) =>
    P_X7_digest_33 k_81 p0 n e21 (q3 + 1)) fun k22 =>
    P_X7_digest_47 k22 p0 q3 4000 q1 0)
def P_X7_digest_6 (k_31 : Int64 → PM Int64) (p0 : Nat) : Nat → Int64 → Int32 → PM Int64
  | 0, _, _ => failM
  | n + 1, q1, q3 =>
    ifB (decide (11 ≤ q3)) (
    k_31 q1) (
    cllV 7 p0 (P_X7_count p0 q3) fun v25 =>
    P_X7_digest_6 k_31 p0 n ((31 * q1) + (Int32.toInt64 v25)) (q3 + 1))
def P_X7_digest (a0 : Nat) : PM Int64 :=
jn (fun (e1 : Int64) =>
jn (fun (e2 : Int64) =>
jn (fun (e3 : Int64) =>
getR 7 0 a0 fun v4 =>
cll0 (P_X7_addPlaces e3 v4) fun v5 =>
getR 7 1 a0 fun v6 =>
cll0 (P_X7_addPlaces v5 v6) fun v7 =>
pureM v7) fun k8 =>
P_X7_digest_83 k8 a0 4000 e2 0) fun k18 =>
P_X7_digest_33 k18 a0 4000 e1 0) fun k24 =>
P_X7_digest_6 k24 a0 4000 17 0
set_option maxHeartbeats 4000000 in
set_option maxRecDepth 100000 in
theorem W_X7_digest_83 {Γ : Cx} (ok : OKc Γ cX7_digest RX7 3 "digest") (okr : OKr Γ cX7_digest (some .long)) (k_127 : Int64 → PM Int64) (p0 : Nat) (hk_127 : ∀ (y1 : Int64), SW Γ iL 127 [some (.ref p0), some (.long y1), none, none, none] [] (k_127 y1)) : ∀ (n : Nat) (q1 : Int64) (q3 : Int32), SW Γ iL 83 [some (.ref p0), some (.long q1), none, some (.int q3), none] [] (P_X7_digest_83 k_127 p0 n q1 q3) := by
  intro n
  induction n with
  | zero =>
    intros
    exact sw_fail
  | succ n ih =>
    intro q1 q3
    unfold P_X7_digest_83
    refine sw_iload_n (z := q3) (pc' := 84) ok dX7_digest_83 rfl rfl ?_
    refine sw_iconst (v := 3) (pc' := 85) ok dX7_digest_84 rfl cc_iconst_3 ?_
    refine sw_icmp_ge (tgt := 127) (pc' := 88) ok dX7_digest_85 (by decide) rfl ?_ ?_
    · refine sw_fg (l' := [some (.ref p0), some (.long q1), none, none, none]) [true, true, false, false, false] rfl ?_
      exact hk_127 q1
    refine sw_ldc2 (v := 31) (pc' := 91) ok dX7_digest_88 rfl wd_424 ?_
    refine sw_lload_n (z := q1) (pc' := 92) ok dX7_digest_91 rfl rfl ?_
    refine sw_lmul (pc' := 93) ok dX7_digest_92 rfl ?_
    refine sw_aload_n (z := p0) (pc' := 94) ok dX7_digest_93 rfl rfl ?_
    refine sw_getR (pc' := 97) ok (fr_X7_20.g) dX7_digest_94 rfl (fun v9 => ?_)
    refine sw_iload_n (z := q3) (pc' := 98) ok dX7_digest_97 rfl rfl ?_
    refine sw_aldR (pc' := 99) ok dX7_digest_98 rfl (fun v10 => ?_)
    refine sw_getI (pc' := 102) ok (fr_X7_142.g) dX7_digest_99 rfl (fun v11 => ?_)
    refine sw_jn (fun k14 : Int64 → Int32 → PM Int64 => ∀ (j12 : Int64) (j13 : Int32), SW Γ iL 118 [some (.ref p0), none, none, some (.int q3), none] [.int j13, .long j12] (k14 j12 j13)) ?_ (fun k14 hk14 => ?_)
    · intro j12 j13
      refine sw_i2l (pc' := 119) ok dX7_digest_118 rfl ?_
      refine sw_ladd (pc' := 120) ok dX7_digest_119 rfl ?_
      refine sw_lstore_n (pc' := 121) (l' := [some (.ref p0), some (.long (j12 + (Int32.toInt64 j13))), none, some (.int q3), none]) ok dX7_digest_120 rfl (Nat.le_of_ble_eq_true rfl) rfl ?_
      refine sw_iinc (z := q3) (v := q3 + 1) (pc' := 124) (l' := [some (.ref p0), some (.long (j12 + (Int32.toInt64 j13))), none, some (.int (q3 + 1)), none]) ok dX7_digest_121 rfl rfl (by rw [cc_iconst_1]) rfl ?_
      refine sw_goto (tgt := 83) ok dX7_digest_124 (by decide) ?_
      exact ih (j12 + (Int32.toInt64 j13)) (q3 + 1)
    refine sw_if_eq (tgt := 117) (pc' := 105) ok dX7_digest_102 (by decide) rfl ?_ ?_
    · refine sw_iconst (v := (-1)) (pc' := 118) ok dX7_digest_117 rfl cc_iconst_m1 ?_
      refine sw_fg (l' := [some (.ref p0), none, none, some (.int q3), none]) [true, false, false, true, false] rfl ?_
      exact hk14 (31 * q1) ((-1))
    refine sw_aload_n (z := p0) (pc' := 106) ok dX7_digest_105 rfl rfl ?_
    refine sw_getR (pc' := 109) ok (fr_X7_20.g) dX7_digest_106 rfl (fun v15 => ?_)
    refine sw_iload_n (z := q3) (pc' := 110) ok dX7_digest_109 rfl rfl ?_
    refine sw_aldR (pc' := 111) ok dX7_digest_110 rfl (fun v16 => ?_)
    refine sw_getI (pc' := 114) ok (fr_X7_214.g) dX7_digest_111 rfl (fun v17 => ?_)
    refine sw_goto (tgt := 118) ok dX7_digest_114 (by decide) ?_
    refine sw_fg (l' := [some (.ref p0), none, none, some (.int q3), none]) [true, false, false, true, false] rfl ?_
    exact hk14 (31 * q1) v17
set_option maxHeartbeats 4000000 in
set_option maxRecDepth 100000 in
theorem W_X7_digest_47 {Γ : Cx} (ok : OKc Γ cX7_digest RX7 3 "digest") (okr : OKr Γ cX7_digest (some .long)) (k_75 : Int64 → PM Int64) (p0 : Nat) (p3 : Int32) (hk_75 : ∀ (y1 : Int64), SW Γ iL 75 [some (.ref p0), some (.long y1), none, some (.int p3), none] [] (k_75 y1)) : ∀ (n : Nat) (q1 : Int64) (q4 : Int32), SW Γ iL 47 [some (.ref p0), some (.long q1), none, some (.int p3), some (.int q4)] [] (P_X7_digest_47 k_75 p0 p3 n q1 q4) := by
  intro n
  induction n with
  | zero =>
    intros
    exact sw_fail
  | succ n ih =>
    intro q1 q4
    unfold P_X7_digest_47
    refine sw_iload (z := q4) (pc' := 49) ok dX7_digest_47 rfl rfl ?_
    refine sw_bipush (v := 6) (pc' := 51) ok dX7_digest_49 rfl cc_bipush_6 ?_
    refine sw_icmp_ge (tgt := 75) (pc' := 54) ok dX7_digest_51 (by decide) rfl ?_ ?_
    · refine sw_fg (l' := [some (.ref p0), some (.long q1), none, some (.int p3), none]) [true, true, false, true, false] rfl ?_
      exact hk_75 q1
    refine sw_ldc2 (v := 31) (pc' := 57) ok dX7_digest_54 rfl wd_424 ?_
    refine sw_lload_n (z := q1) (pc' := 58) ok dX7_digest_57 rfl rfl ?_
    refine sw_lmul (pc' := 59) ok dX7_digest_58 rfl ?_
    refine sw_aload_n (z := p0) (pc' := 60) ok dX7_digest_59 rfl rfl ?_
    refine sw_iload_n (z := p3) (pc' := 61) ok dX7_digest_60 rfl rfl ?_
    refine sw_iload (z := q4) (pc' := 63) ok dX7_digest_61 rfl rfl ?_
    refine sw_cllV_I (st := [.long (31 * q1)]) (as := [.int p3, .int q4]) (pc' := 66) ok (S_X7_fact p0 p3 q4) (by decide) lk_X7_147 rfl dX7_digest_63 rfl (Nat.le_of_ble_eq_true rfl) rfl (fun v23 => ?_)
    refine sw_i2l (pc' := 67) ok dX7_digest_66 rfl ?_
    refine sw_ladd (pc' := 68) ok dX7_digest_67 rfl ?_
    refine sw_lstore_n (pc' := 69) (l' := [some (.ref p0), some (.long ((31 * q1) + (Int32.toInt64 v23))), none, some (.int p3), some (.int q4)]) ok dX7_digest_68 rfl (Nat.le_of_ble_eq_true rfl) rfl ?_
    refine sw_iinc (z := q4) (v := q4 + 1) (pc' := 72) (l' := [some (.ref p0), some (.long ((31 * q1) + (Int32.toInt64 v23))), none, some (.int p3), some (.int (q4 + 1))]) ok dX7_digest_69 rfl rfl (by rw [cc_iconst_1]) rfl ?_
    refine sw_goto (tgt := 47) ok dX7_digest_72 (by decide) ?_
    exact ih ((31 * q1) + (Int32.toInt64 v23)) (q4 + 1)
set_option maxHeartbeats 4000000 in
set_option maxRecDepth 100000 in
theorem W_X7_digest_33 {Γ : Cx} (ok : OKc Γ cX7_digest RX7 3 "digest") (okr : OKr Γ cX7_digest (some .long)) (k_81 : Int64 → PM Int64) (p0 : Nat) (hk_81 : ∀ (y1 : Int64), SW Γ iL 81 [some (.ref p0), some (.long y1), none, none, none] [] (k_81 y1)) : ∀ (n : Nat) (q1 : Int64) (q3 : Int32), SW Γ iL 33 [some (.ref p0), some (.long q1), none, some (.int q3), none] [] (P_X7_digest_33 k_81 p0 n q1 q3) := by
  intro n
  induction n with
  | zero =>
    intros
    exact sw_fail
  | succ n ih =>
    intro q1 q3
    unfold P_X7_digest_33
    refine sw_iload_n (z := q3) (pc' := 34) ok dX7_digest_33 rfl rfl ?_
    refine sw_aload_n (z := p0) (pc' := 35) ok dX7_digest_34 rfl rfl ?_
    refine sw_getR (pc' := 38) ok (fr_X7_27.g) dX7_digest_35 rfl (fun v19 => ?_)
    refine sw_getI (pc' := 41) ok (fr_X7_143.g) dX7_digest_38 rfl (fun v20 => ?_)
    refine sw_icmp_ge (tgt := 81) (pc' := 44) ok dX7_digest_41 (by decide) rfl ?_ ?_
    · refine sw_fg (l' := [some (.ref p0), some (.long q1), none, none, none]) [true, true, false, false, false] rfl ?_
      exact hk_81 q1
    refine sw_iconst (v := 0) (pc' := 45) ok dX7_digest_44 rfl cc_iconst_0 ?_
    refine sw_istore (pc' := 47) (l' := [some (.ref p0), some (.long q1), none, some (.int q3), some (.int 0)]) ok dX7_digest_45 rfl (Nat.le_of_ble_eq_true rfl) rfl ?_
    refine sw_jn (fun k22 : Int64 → PM Int64 => ∀ (e21 : Int64), SW Γ iL 75 [some (.ref p0), some (.long e21), none, some (.int q3), none] [] (k22 e21)) ?_ (fun k22 hk22 => ?_)
    · intro e21
      refine sw_iinc (z := q3) (v := q3 + 1) (pc' := 78) (l' := [some (.ref p0), some (.long e21), none, some (.int (q3 + 1)), none]) ok dX7_digest_75 rfl rfl (by rw [cc_iconst_1]) rfl ?_
      refine sw_goto (tgt := 33) ok dX7_digest_78 (by decide) ?_
      exact ih e21 (q3 + 1)
    exact W_X7_digest_47 ok okr k22 p0 q3 hk22 4000 q1 0
set_option maxHeartbeats 4000000 in
set_option maxRecDepth 100000 in
theorem W_X7_digest_6 {Γ : Cx} (ok : OKc Γ cX7_digest RX7 3 "digest") (okr : OKr Γ cX7_digest (some .long)) (k_31 : Int64 → PM Int64) (p0 : Nat) (hk_31 : ∀ (y1 : Int64), SW Γ iL 31 [some (.ref p0), some (.long y1), none, none, none] [] (k_31 y1)) : ∀ (n : Nat) (q1 : Int64) (q3 : Int32), SW Γ iL 6 [some (.ref p0), some (.long q1), none, some (.int q3), none] [] (P_X7_digest_6 k_31 p0 n q1 q3) := by
  intro n
  induction n with
  | zero =>
    intros
    exact sw_fail
  | succ n ih =>
    intro q1 q3
    unfold P_X7_digest_6
    refine sw_iload_n (z := q3) (pc' := 7) ok dX7_digest_6 rfl rfl ?_
    refine sw_bipush (v := 11) (pc' := 9) ok dX7_digest_7 rfl cc_bipush_11 ?_
    refine sw_icmp_ge (tgt := 31) (pc' := 12) ok dX7_digest_9 (by decide) rfl ?_ ?_
    · refine sw_fg (l' := [some (.ref p0), some (.long q1), none, none, none]) [true, true, false, false, false] rfl ?_
      exact hk_31 q1
    refine sw_ldc2 (v := 31) (pc' := 15) ok dX7_digest_12 rfl wd_424 ?_
    refine sw_lload_n (z := q1) (pc' := 16) ok dX7_digest_15 rfl rfl ?_
    refine sw_lmul (pc' := 17) ok dX7_digest_16 rfl ?_
    refine sw_aload_n (z := p0) (pc' := 18) ok dX7_digest_17 rfl rfl ?_
    refine sw_iload_n (z := q3) (pc' := 19) ok dX7_digest_18 rfl rfl ?_
    refine sw_cllV_I (st := [.long (31 * q1)]) (as := [.int q3]) (pc' := 22) ok (S_X7_count p0 q3) (by decide) lk_X7_359 rfl dX7_digest_19 rfl (Nat.le_of_ble_eq_true rfl) rfl (fun v25 => ?_)
    refine sw_i2l (pc' := 23) ok dX7_digest_22 rfl ?_
    refine sw_ladd (pc' := 24) ok dX7_digest_23 rfl ?_
    refine sw_lstore_n (pc' := 25) (l' := [some (.ref p0), some (.long ((31 * q1) + (Int32.toInt64 v25))), none, some (.int q3), none]) ok dX7_digest_24 rfl (Nat.le_of_ble_eq_true rfl) rfl ?_
    refine sw_iinc (z := q3) (v := q3 + 1) (pc' := 28) (l' := [some (.ref p0), some (.long ((31 * q1) + (Int32.toInt64 v25))), none, some (.int (q3 + 1)), none]) ok dX7_digest_25 rfl rfl (by rw [cc_iconst_1]) rfl ?_
    refine sw_goto (tgt := 6) ok dX7_digest_28 (by decide) ?_
    exact ih ((31 * q1) + (Int32.toInt64 v25)) (q3 + 1)
set_option maxHeartbeats 4000000 in
set_option maxRecDepth 100000 in
theorem W_X7_digest {Γ : Cx} (ok : OKc Γ cX7_digest RX7 3 "digest") (okr : OKr Γ cX7_digest (some .long)) (a0 : Nat) : SW Γ iL 0 [some (.ref a0), none, none, none, none] [] (P_X7_digest a0) := by
  unfold P_X7_digest
  refine sw_ldc2 (v := 17) (pc' := 3) ok dX7_digest_0 rfl wd_421 ?_
  refine sw_lstore_n (pc' := 4) (l' := [some (.ref a0), some (.long 17), none, none, none]) ok dX7_digest_3 rfl (Nat.le_of_ble_eq_true rfl) rfl ?_
  refine sw_iconst (v := 0) (pc' := 5) ok dX7_digest_4 rfl cc_iconst_0 ?_
  refine sw_istore_n (pc' := 6) (l' := [some (.ref a0), some (.long 17), none, some (.int 0), none]) ok dX7_digest_5 rfl (Nat.le_of_ble_eq_true rfl) rfl ?_
  refine sw_jn (fun k24 : Int64 → PM Int64 => ∀ (e1 : Int64), SW Γ iL 31 [some (.ref a0), some (.long e1), none, none, none] [] (k24 e1)) ?_ (fun k24 hk24 => ?_)
  · intro e1
    refine sw_iconst (v := 0) (pc' := 32) ok dX7_digest_31 rfl cc_iconst_0 ?_
    refine sw_istore_n (pc' := 33) (l' := [some (.ref a0), some (.long e1), none, some (.int 0), none]) ok dX7_digest_32 rfl (Nat.le_of_ble_eq_true rfl) rfl ?_
    refine sw_jn (fun k18 : Int64 → PM Int64 => ∀ (e2 : Int64), SW Γ iL 81 [some (.ref a0), some (.long e2), none, none, none] [] (k18 e2)) ?_ (fun k18 hk18 => ?_)
    · intro e2
      refine sw_iconst (v := 0) (pc' := 82) ok dX7_digest_81 rfl cc_iconst_0 ?_
      refine sw_istore_n (pc' := 83) (l' := [some (.ref a0), some (.long e2), none, some (.int 0), none]) ok dX7_digest_82 rfl (Nat.le_of_ble_eq_true rfl) rfl ?_
      refine sw_jn (fun k8 : Int64 → PM Int64 => ∀ (e3 : Int64), SW Γ iL 127 [some (.ref a0), some (.long e3), none, none, none] [] (k8 e3)) ?_ (fun k8 hk8 => ?_)
      · intro e3
        refine sw_lload_n (z := e3) (pc' := 128) ok dX7_digest_127 rfl rfl ?_
        refine sw_aload_n (z := a0) (pc' := 129) ok dX7_digest_128 rfl rfl ?_
        refine sw_getR (pc' := 132) ok (fr_X7_11.g) dX7_digest_129 rfl (fun v4 => ?_)
        refine sw_cll0_L (st := []) (as := [.long e3, .ref v4]) (pc' := 135) ok (S_X7_addPlaces e3 v4) (by decide) lk_X7_362 rfl dX7_digest_132 rfl (Nat.le_of_ble_eq_true rfl) rfl (fun v5 => ?_)
        refine sw_aload_n (z := a0) (pc' := 136) ok dX7_digest_135 rfl rfl ?_
        refine sw_getR (pc' := 139) ok (fr_X7_15.g) dX7_digest_136 rfl (fun v6 => ?_)
        refine sw_cll0_L (st := []) (as := [.long v5, .ref v6]) (pc' := 142) ok (S_X7_addPlaces v5 v6) (by decide) lk_X7_362 rfl dX7_digest_139 rfl (Nat.le_of_ble_eq_true rfl) rfl (fun v7 => ?_)
        exact sw_ret ok okr dX7_digest_142 trivial rfl
      exact W_X7_digest_83 ok okr k8 a0 hk8 4000 e2 0
    exact W_X7_digest_33 ok okr k18 a0 hk18 4000 e1 0
  exact W_X7_digest_6 ok okr k24 a0 hk24 4000 17 0
theorem S_X7_digest (a0 : Nat) : Sim 3 yX7_digest cX7_digest 5 (some .long) iL [.ref a0] (P_X7_digest a0) := Sim.intro wd_1059 (by decide) (by decide +kernel) (Nat.le_of_ble_eq_true rfl) (fun Γ ok okr => W_X7_digest ok okr a0)
