/-! Programs and walks, printed by program (gen.py). -/
theorem dX8_put_0 : decode cX8_put 0 = .ok (.iload_n 1, 1) := by decide +kernel
theorem dX8_put_1 : decode cX8_put 1 = .ok (.invokestatic 101, 3) := by decide +kernel
theorem dX8_put_4 : decode cX8_put 4 = .ok (.ifCond .ne 5, 3) := by decide +kernel
theorem dX8_put_7 : decode cX8_put 7 = .ok (.iconst (-1), 1) := by decide +kernel
theorem dX8_put_8 : decode cX8_put 8 = .ok (.ireturn, 1) := by decide +kernel
theorem dX8_put_9 : decode cX8_put 9 = .ok (.aload_n 0, 1) := by decide +kernel
theorem dX8_put_10 : decode cX8_put 10 = .ok (.getfield 19, 3) := by decide +kernel
theorem dX8_put_13 : decode cX8_put 13 = .ok (.iload_n 1, 1) := by decide +kernel
theorem dX8_put_14 : decode cX8_put 14 = .ok (.iaload, 1) := by decide +kernel
theorem dX8_put_15 : decode cX8_put 15 = .ok (.ifCond .ge 9, 3) := by decide +kernel
theorem dX8_put_18 : decode cX8_put 18 = .ok (.aload_n 0, 1) := by decide +kernel
theorem dX8_put_19 : decode cX8_put 19 = .ok (.iconst 1, 1) := by decide +kernel
theorem dX8_put_20 : decode cX8_put 20 = .ok (.invokevirtual 90, 3) := by decide +kernel
theorem dX8_put_23 : decode cX8_put 23 = .ok (.ireturn, 1) := by decide +kernel
theorem dX8_put_24 : decode cX8_put 24 = .ok (.iload_n 2, 1) := by decide +kernel
theorem dX8_put_25 : decode cX8_put 25 = .ok (.i2l, 1) := by decide +kernel
theorem dX8_put_26 : decode cX8_put 26 = .ok (.lconst 0, 1) := by decide +kernel
theorem dX8_put_27 : decode cX8_put 27 = .ok (.aload_n 0, 1) := by decide +kernel
theorem dX8_put_28 : decode cX8_put 28 = .ok (.getfield 19, 3) := by decide +kernel
theorem dX8_put_31 : decode cX8_put 31 = .ok (.iload_n 1, 1) := by decide +kernel
theorem dX8_put_32 : decode cX8_put 32 = .ok (.iaload, 1) := by decide +kernel
theorem dX8_put_33 : decode cX8_put 33 = .ok (.iconst 1, 1) := by decide +kernel
theorem dX8_put_34 : decode cX8_put 34 = .ok (.isub, 1) := by decide +kernel
theorem dX8_put_35 : decode cX8_put 35 = .ok (.i2l, 1) := by decide +kernel
theorem dX8_put_36 : decode cX8_put 36 = .ok (.invokestatic 80, 3) := by decide +kernel
theorem dX8_put_39 : decode cX8_put 39 = .ok (.ifCond .ne 9, 3) := by decide +kernel
theorem dX8_put_42 : decode cX8_put 42 = .ok (.aload_n 0, 1) := by decide +kernel
theorem dX8_put_43 : decode cX8_put 43 = .ok (.iconst 2, 1) := by decide +kernel
theorem dX8_put_44 : decode cX8_put 44 = .ok (.invokevirtual 90, 3) := by decide +kernel
theorem dX8_put_47 : decode cX8_put 47 = .ok (.ireturn, 1) := by decide +kernel
theorem dX8_put_48 : decode cX8_put 48 = .ok (.aload_n 0, 1) := by decide +kernel
theorem dX8_put_49 : decode cX8_put 49 = .ok (.getfield 16, 3) := by decide +kernel
theorem dX8_put_52 : decode cX8_put 52 = .ok (.bipush 60, 2) := by decide +kernel
theorem dX8_put_54 : decode cX8_put 54 = .ok (.iload_n 1, 1) := by decide +kernel
theorem dX8_put_55 : decode cX8_put 55 = .ok (.imul, 1) := by decide +kernel
theorem dX8_put_56 : decode cX8_put 56 = .ok (.iload_n 2, 1) := by decide +kernel
theorem dX8_put_57 : decode cX8_put 57 = .ok (.iadd, 1) := by decide +kernel
theorem dX8_put_58 : decode cX8_put 58 = .ok (.iaload, 1) := by decide +kernel
theorem dX8_put_59 : decode cX8_put 59 = .ok (.istore 4, 2) := by decide +kernel
theorem dX8_put_61 : decode cX8_put 61 = .ok (.aload_n 0, 1) := by decide +kernel
theorem dX8_put_62 : decode cX8_put 62 = .ok (.getfield 16, 3) := by decide +kernel
theorem dX8_put_65 : decode cX8_put 65 = .ok (.bipush 60, 2) := by decide +kernel
theorem dX8_put_67 : decode cX8_put 67 = .ok (.iload_n 1, 1) := by decide +kernel
theorem dX8_put_68 : decode cX8_put 68 = .ok (.imul, 1) := by decide +kernel
theorem dX8_put_69 : decode cX8_put 69 = .ok (.iload_n 2, 1) := by decide +kernel
theorem dX8_put_70 : decode cX8_put 70 = .ok (.iadd, 1) := by decide +kernel
theorem dX8_put_71 : decode cX8_put 71 = .ok (.iload_n 3, 1) := by decide +kernel
theorem dX8_put_72 : decode cX8_put 72 = .ok (.i2b, 1) := by decide +kernel
theorem dX8_put_73 : decode cX8_put 73 = .ok (.iastore, 1) := by decide +kernel
theorem dX8_put_74 : decode cX8_put 74 = .ok (.iload 4, 2) := by decide +kernel
theorem dX8_put_76 : decode cX8_put 76 = .ok (.sipush 1000, 3) := by decide +kernel
theorem dX8_put_79 : decode cX8_put 79 = .ok (.iadd, 1) := by decide +kernel
theorem dX8_put_80 : decode cX8_put 80 = .ok (.ireturn, 1) := by decide +kernel
def P_X8_put (a0 : Nat) (x1 : Int32) (x2 : Int32) (x3 : Int32) : PM Int32 :=
cll0 (P_X8_isText x1) fun v1 =>
ifB (decide (¬ v1 = 0)) (
getR 8 3 a0 fun v2 =>
ald v2 x1 fun v3 =>
ifB (decide (0 ≤ v3)) (
getR 8 3 a0 fun v4 =>
ald v4 x1 fun v5 =>
cll0 (P_X8_in (Int32.toInt64 x2) 0 (Int32.toInt64 (v5 - 1))) fun v6 =>
ifB (decide (¬ v6 = 0)) (
getR 8 2 a0 fun v7 =>
ald v7 ((60 * x1) + x2) fun v8 =>
getR 8 2 a0 fun v9 =>
ast v9 ((60 * x1) + x2) ((Int32.toInt8 x3).toInt32) <|
pureM (v8 + 1000)) (
cllV 8 a0 (P_X8_refuse a0 2) fun v10 =>
pureM v10)) (
cllV 8 a0 (P_X8_refuse a0 1) fun v11 =>
pureM v11)) (
pureM ((-1)))
set_option maxHeartbeats 4000000 in
set_option maxRecDepth 100000 in
theorem W_X8_put {Γ : Cx} (ok : OKc Γ cX8_put RX8 2 "put") (okr : OKr Γ cX8_put (some .int)) (a0 : Nat) (x1 : Int32) (x2 : Int32) (x3 : Int32) : SW Γ iI 0 [some (.ref a0), some (.int x1), some (.int x2), some (.int x3), none] [] (P_X8_put a0 x1 x2 x3) := by
  unfold P_X8_put
  refine sw_iload_n (z := x1) (pc' := 1) ok dX8_put_0 rfl rfl ?_
  refine sw_cll0_I (st := []) (as := [.int x1]) (pc' := 4) ok (S_X8_isText x1) (by decide) lk_X8_101 rfl dX8_put_1 rfl (Nat.le_of_ble_eq_true rfl) rfl (fun v1 => ?_)
  refine sw_if_ne (tgt := 9) (pc' := 7) ok dX8_put_4 (by decide) rfl ?_ ?_
  · refine sw_aload_n (z := a0) (pc' := 10) ok dX8_put_9 rfl rfl ?_
    refine sw_getR (pc' := 13) ok (fr_X8_19.g) dX8_put_10 rfl (fun v2 => ?_)
    refine sw_iload_n (z := x1) (pc' := 14) ok dX8_put_13 rfl rfl ?_
    refine sw_ald (pc' := 15) ok dX8_put_14 rfl (fun v3 => ?_)
    refine sw_if_ge (tgt := 24) (pc' := 18) ok dX8_put_15 (by decide) rfl ?_ ?_
    · refine sw_iload_n (z := x2) (pc' := 25) ok dX8_put_24 rfl rfl ?_
      refine sw_i2l (pc' := 26) ok dX8_put_25 rfl ?_
      refine sw_lconst (v := 0) (pc' := 27) ok dX8_put_26 rfl cc_lconst_0 ?_
      refine sw_aload_n (z := a0) (pc' := 28) ok dX8_put_27 rfl rfl ?_
      refine sw_getR (pc' := 31) ok (fr_X8_19.g) dX8_put_28 rfl (fun v4 => ?_)
      refine sw_iload_n (z := x1) (pc' := 32) ok dX8_put_31 rfl rfl ?_
      refine sw_ald (pc' := 33) ok dX8_put_32 rfl (fun v5 => ?_)
      refine sw_iconst (v := 1) (pc' := 34) ok dX8_put_33 rfl cc_iconst_1 ?_
      refine sw_isub (pc' := 35) ok dX8_put_34 rfl ?_
      refine sw_i2l (pc' := 36) ok dX8_put_35 rfl ?_
      refine sw_cll0_I (st := []) (as := [.long (Int32.toInt64 x2), .long 0, .long (Int32.toInt64 (v5 - 1))]) (pc' := 39) ok (S_X8_in (Int32.toInt64 x2) 0 (Int32.toInt64 (v5 - 1))) (by decide) lk_X8_80 rfl dX8_put_36 rfl (Nat.le_of_ble_eq_true rfl) rfl (fun v6 => ?_)
      refine sw_if_ne (tgt := 48) (pc' := 42) ok dX8_put_39 (by decide) rfl ?_ ?_
      · refine sw_aload_n (z := a0) (pc' := 49) ok dX8_put_48 rfl rfl ?_
        refine sw_getR (pc' := 52) ok (fr_X8_16.g) dX8_put_49 rfl (fun v7 => ?_)
        refine sw_bipush (v := 60) (pc' := 54) ok dX8_put_52 rfl cc_bipush_60 ?_
        refine sw_iload_n (z := x1) (pc' := 55) ok dX8_put_54 rfl rfl ?_
        refine sw_imul (pc' := 56) ok dX8_put_55 rfl ?_
        refine sw_iload_n (z := x2) (pc' := 57) ok dX8_put_56 rfl rfl ?_
        refine sw_iadd (pc' := 58) ok dX8_put_57 rfl ?_
        refine sw_ald (pc' := 59) ok dX8_put_58 rfl (fun v8 => ?_)
        refine sw_istore (pc' := 61) (l' := [some (.ref a0), some (.int x1), some (.int x2), some (.int x3), some (.int v8)]) ok dX8_put_59 rfl (Nat.le_of_ble_eq_true rfl) rfl ?_
        refine sw_aload_n (z := a0) (pc' := 62) ok dX8_put_61 rfl rfl ?_
        refine sw_getR (pc' := 65) ok (fr_X8_16.g) dX8_put_62 rfl (fun v9 => ?_)
        refine sw_bipush (v := 60) (pc' := 67) ok dX8_put_65 rfl cc_bipush_60 ?_
        refine sw_iload_n (z := x1) (pc' := 68) ok dX8_put_67 rfl rfl ?_
        refine sw_imul (pc' := 69) ok dX8_put_68 rfl ?_
        refine sw_iload_n (z := x2) (pc' := 70) ok dX8_put_69 rfl rfl ?_
        refine sw_iadd (pc' := 71) ok dX8_put_70 rfl ?_
        refine sw_iload_n (z := x3) (pc' := 72) ok dX8_put_71 rfl rfl ?_
        refine sw_i2b (pc' := 73) ok dX8_put_72 rfl ?_
        refine sw_ast (pc' := 74) ok dX8_put_73 rfl ?_
        refine sw_iload (z := v8) (pc' := 76) ok dX8_put_74 rfl rfl ?_
        refine sw_sipush (v := 1000) (pc' := 79) ok dX8_put_76 rfl cc_sipush_1000 ?_
        refine sw_iadd (pc' := 80) ok dX8_put_79 rfl ?_
        exact sw_ret ok okr dX8_put_80 trivial rfl
      refine sw_aload_n (z := a0) (pc' := 43) ok dX8_put_42 rfl rfl ?_
      refine sw_iconst (v := 2) (pc' := 44) ok dX8_put_43 rfl cc_iconst_2 ?_
      refine sw_cllV_I (st := []) (as := [.int 2]) (pc' := 47) ok (S_X8_refuse a0 2) (by decide) lk_X8_90 rfl dX8_put_44 rfl (Nat.le_of_ble_eq_true rfl) rfl (fun v10 => ?_)
      exact sw_ret ok okr dX8_put_47 trivial rfl
    refine sw_aload_n (z := a0) (pc' := 19) ok dX8_put_18 rfl rfl ?_
    refine sw_iconst (v := 1) (pc' := 20) ok dX8_put_19 rfl cc_iconst_1 ?_
    refine sw_cllV_I (st := []) (as := [.int 1]) (pc' := 23) ok (S_X8_refuse a0 1) (by decide) lk_X8_90 rfl dX8_put_20 rfl (Nat.le_of_ble_eq_true rfl) rfl (fun v11 => ?_)
    exact sw_ret ok okr dX8_put_23 trivial rfl
  refine sw_iconst (v := (-1)) (pc' := 8) ok dX8_put_7 rfl cc_iconst_m1 ?_
  exact sw_ret ok okr dX8_put_8 trivial rfl
theorem S_X8_put (a0 : Nat) (x1 : Int32) (x2 : Int32) (x3 : Int32) : Sim 2 yX8_put cX8_put 5 (some .int) iI [.ref a0, .int x1, .int x2, .int x3] (P_X8_put a0 x1 x2 x3) := Sim.intro wd_1076 (by decide) (by decide +kernel) (Nat.le_of_ble_eq_true rfl) (fun Γ ok okr => W_X8_put ok okr a0 x1 x2 x3)
theorem dX8_sign_0 : decode cX8_sign 0 = .ok (.aload_n 0, 1) := by decide +kernel
theorem dX8_sign_1 : decode cX8_sign 1 = .ok (.getfield 104, 3) := by decide +kernel
theorem dX8_sign_4 : decode cX8_sign 4 = .ok (.aload_n 0, 1) := by decide +kernel
theorem dX8_sign_5 : decode cX8_sign 5 = .ok (.getfield 19, 3) := by decide +kernel
theorem dX8_sign_8 : decode cX8_sign 8 = .ok (.aload_n 0, 1) := by decide +kernel
theorem dX8_sign_9 : decode cX8_sign 9 = .ok (.getfield 107, 3) := by decide +kernel
theorem dX8_sign_12 : decode cX8_sign 12 = .ok (.iaload, 1) := by decide +kernel
theorem dX8_sign_13 : decode cX8_sign 13 = .ok (.if_icmp .ge 23, 3) := by decide +kernel
theorem dX8_sign_16 : decode cX8_sign 16 = .ok (.aload_n 0, 1) := by decide +kernel
theorem dX8_sign_17 : decode cX8_sign 17 = .ok (.getfield 16, 3) := by decide +kernel
theorem dX8_sign_20 : decode cX8_sign 20 = .ok (.bipush 60, 2) := by decide +kernel
theorem dX8_sign_22 : decode cX8_sign 22 = .ok (.aload_n 0, 1) := by decide +kernel
theorem dX8_sign_23 : decode cX8_sign 23 = .ok (.getfield 107, 3) := by decide +kernel
theorem dX8_sign_26 : decode cX8_sign 26 = .ok (.imul, 1) := by decide +kernel
theorem dX8_sign_27 : decode cX8_sign 27 = .ok (.aload_n 0, 1) := by decide +kernel
theorem dX8_sign_28 : decode cX8_sign 28 = .ok (.getfield 104, 3) := by decide +kernel
theorem dX8_sign_31 : decode cX8_sign 31 = .ok (.iadd, 1) := by decide +kernel
theorem dX8_sign_32 : decode cX8_sign 32 = .ok (.iaload, 1) := by decide +kernel
theorem dX8_sign_33 : decode cX8_sign 33 = .ok (.goto 5, 3) := by decide +kernel
theorem dX8_sign_36 : decode cX8_sign 36 = .ok (.bipush (-9), 2) := by decide +kernel
theorem dX8_sign_38 : decode cX8_sign 38 = .ok (.ireturn, 1) := by decide +kernel
def P_X8_sign (a0 : Nat) : PM Int32 :=
getI 8 18 a0 fun v1 =>
getR 8 3 a0 fun v2 =>
getI 8 20 a0 fun v3 =>
ald v2 v3 fun v4 =>
ifB (decide (v4 ≤ v1)) (
pureM ((-9))) (
getR 8 2 a0 fun v5 =>
getI 8 20 a0 fun v6 =>
getI 8 18 a0 fun v7 =>
ald v5 ((60 * v6) + v7) fun v8 =>
pureM v8)
set_option maxHeartbeats 4000000 in
set_option maxRecDepth 100000 in
theorem W_X8_sign {Γ : Cx} (ok : OKc Γ cX8_sign RX8 0 "sign") (okr : OKr Γ cX8_sign (some .int)) (a0 : Nat) : SW Γ iI 0 [some (.ref a0)] [] (P_X8_sign a0) := by
  unfold P_X8_sign
  refine sw_aload_n (z := a0) (pc' := 1) ok dX8_sign_0 rfl rfl ?_
  refine sw_getI (pc' := 4) ok (fr_X8_104.g) dX8_sign_1 rfl (fun v1 => ?_)
  refine sw_aload_n (z := a0) (pc' := 5) ok dX8_sign_4 rfl rfl ?_
  refine sw_getR (pc' := 8) ok (fr_X8_19.g) dX8_sign_5 rfl (fun v2 => ?_)
  refine sw_aload_n (z := a0) (pc' := 9) ok dX8_sign_8 rfl rfl ?_
  refine sw_getI (pc' := 12) ok (fr_X8_107.g) dX8_sign_9 rfl (fun v3 => ?_)
  refine sw_ald (pc' := 13) ok dX8_sign_12 rfl (fun v4 => ?_)
  refine sw_icmp_ge (tgt := 36) (pc' := 16) ok dX8_sign_13 (by decide) rfl ?_ ?_
  · refine sw_bipush (v := (-9)) (pc' := 38) ok dX8_sign_36 rfl cc_bipush_m9 ?_
    exact sw_ret ok okr dX8_sign_38 trivial rfl
  refine sw_aload_n (z := a0) (pc' := 17) ok dX8_sign_16 rfl rfl ?_
  refine sw_getR (pc' := 20) ok (fr_X8_16.g) dX8_sign_17 rfl (fun v5 => ?_)
  refine sw_bipush (v := 60) (pc' := 22) ok dX8_sign_20 rfl cc_bipush_60 ?_
  refine sw_aload_n (z := a0) (pc' := 23) ok dX8_sign_22 rfl rfl ?_
  refine sw_getI (pc' := 26) ok (fr_X8_107.g) dX8_sign_23 rfl (fun v6 => ?_)
  refine sw_imul (pc' := 27) ok dX8_sign_26 rfl ?_
  refine sw_aload_n (z := a0) (pc' := 28) ok dX8_sign_27 rfl rfl ?_
  refine sw_getI (pc' := 31) ok (fr_X8_104.g) dX8_sign_28 rfl (fun v7 => ?_)
  refine sw_iadd (pc' := 32) ok dX8_sign_31 rfl ?_
  refine sw_ald (pc' := 33) ok dX8_sign_32 rfl (fun v8 => ?_)
  refine sw_goto (tgt := 38) ok dX8_sign_33 (by decide) ?_
  exact sw_ret ok okr dX8_sign_38 trivial rfl
theorem S_X8_sign (a0 : Nat) : Sim 0 yX8_sign cX8_sign 1 (some .int) iI [.ref a0] (P_X8_sign a0) := Sim.intro wd_1077 (by decide) (by decide +kernel) (Nat.le_of_ble_eq_true rfl) (fun Γ ok okr => W_X8_sign ok okr a0)
theorem dX8_blanks_0 : decode cX8_blanks 0 = .ok (.aload_n 0, 1) := by decide +kernel
theorem dX8_blanks_1 : decode cX8_blanks 1 = .ok (.invokevirtual 110, 3) := by decide +kernel
theorem dX8_blanks_4 : decode cX8_blanks 4 = .ok (.bipush 32, 2) := by decide +kernel
theorem dX8_blanks_6 : decode cX8_blanks 6 = .ok (.if_icmp .ne 16, 3) := by decide +kernel
theorem dX8_blanks_9 : decode cX8_blanks 9 = .ok (.aload_n 0, 1) := by decide +kernel
theorem dX8_blanks_10 : decode cX8_blanks 10 = .ok (.dup, 1) := by decide +kernel
theorem dX8_blanks_11 : decode cX8_blanks 11 = .ok (.getfield 104, 3) := by decide +kernel
theorem dX8_blanks_14 : decode cX8_blanks 14 = .ok (.iconst 1, 1) := by decide +kernel
theorem dX8_blanks_15 : decode cX8_blanks 15 = .ok (.iadd, 1) := by decide +kernel
theorem dX8_blanks_16 : decode cX8_blanks 16 = .ok (.putfield 104, 3) := by decide +kernel
theorem dX8_blanks_19 : decode cX8_blanks 19 = .ok (.goto (-19), 3) := by decide +kernel
theorem dX8_blanks_22 : decode cX8_blanks 22 = .ok (.return_, 1) := by decide +kernel
def P_X8_blanks_0 (p0 : Nat) : Nat → PM Unit
  | 0 => failM
  | n + 1 =>
    cllV 8 p0 (P_X8_sign p0) fun v1 =>
    ifB (decide (¬ v1 = 32)) (
    pureM ()) (
    getI 8 18 p0 fun v2 =>
    setI 8 18 p0 (v2 + 1) <|
    P_X8_blanks_0 p0 n)
def P_X8_blanks (a0 : Nat) : PM Unit :=
P_X8_blanks_0 a0 4000
set_option maxHeartbeats 4000000 in
set_option maxRecDepth 100000 in
theorem W_X8_blanks_0 {Γ : Cx} (ok : OKc Γ cX8_blanks RX8 1 "blanks") (okr : OKr Γ cX8_blanks (none)) (p0 : Nat) : ∀ (n : Nat), SW Γ iU 0 [some (.ref p0)] [] (P_X8_blanks_0 p0 n) := by
  intro n
  induction n with
  | zero =>
    intros
    exact sw_fail
  | succ n ih =>
    unfold P_X8_blanks_0
    refine sw_aload_n (z := p0) (pc' := 1) ok dX8_blanks_0 rfl rfl ?_
    refine sw_cllV_I (st := []) (as := []) (pc' := 4) ok (S_X8_sign p0) (by decide) lk_X8_110 rfl dX8_blanks_1 rfl (Nat.le_of_ble_eq_true rfl) rfl (fun v1 => ?_)
    refine sw_bipush (v := 32) (pc' := 6) ok dX8_blanks_4 rfl cc_bipush_32 ?_
    refine sw_icmp_ne (tgt := 22) (pc' := 9) ok dX8_blanks_6 (by decide) rfl ?_ ?_
    · exact sw_ret ok okr dX8_blanks_22 trivial rfl
    refine sw_aload_n (z := p0) (pc' := 10) ok dX8_blanks_9 rfl rfl ?_
    refine sw_dup (pc' := 11) ok dX8_blanks_10 rfl rfl ?_
    refine sw_getI (pc' := 14) ok (fr_X8_104.g) dX8_blanks_11 rfl (fun v2 => ?_)
    refine sw_iconst (v := 1) (pc' := 15) ok dX8_blanks_14 rfl cc_iconst_1 ?_
    refine sw_iadd (pc' := 16) ok dX8_blanks_15 rfl ?_
    refine sw_setI (pc' := 19) ok fr_X8_104 dX8_blanks_16 (fun h => by cases h) rfl ?_
    refine sw_goto (tgt := 0) ok dX8_blanks_19 (by decide) ?_
    exact ih
set_option maxHeartbeats 4000000 in
set_option maxRecDepth 100000 in
theorem W_X8_blanks {Γ : Cx} (ok : OKc Γ cX8_blanks RX8 1 "blanks") (okr : OKr Γ cX8_blanks (none)) (a0 : Nat) : SW Γ iU 0 [some (.ref a0)] [] (P_X8_blanks a0) := by
  unfold P_X8_blanks
  exact W_X8_blanks_0 ok okr a0 4000
theorem S_X8_blanks (a0 : Nat) : Sim 1 yX8_blanks cX8_blanks 1 (none) iU [.ref a0] (P_X8_blanks a0) := Sim.intro wd_1078 (by decide) (by decide +kernel) (Nat.le_of_ble_eq_true rfl) (fun Γ ok okr => W_X8_blanks ok okr a0)
theorem dX8_want_0 : decode cX8_want 0 = .ok (.aload_n 0, 1) := by decide +kernel
theorem dX8_want_1 : decode cX8_want 1 = .ok (.aload_n 0, 1) := by decide +kernel
theorem dX8_want_2 : decode cX8_want 2 = .ok (.getfield 114, 3) := by decide +kernel
theorem dX8_want_5 : decode cX8_want 5 = .ok (.bipush (-9), 2) := by decide +kernel
theorem dX8_want_7 : decode cX8_want 7 = .ok (.if_icmp .ne 11, 3) := by decide +kernel
theorem dX8_want_10 : decode cX8_want 10 = .ok (.iload_n 1, 1) := by decide +kernel
theorem dX8_want_11 : decode cX8_want 11 = .ok (.ifCond .ne 7, 3) := by decide +kernel
theorem dX8_want_14 : decode cX8_want 14 = .ok (.iload_n 2, 1) := by decide +kernel
theorem dX8_want_15 : decode cX8_want 15 = .ok (.goto 7, 3) := by decide +kernel
theorem dX8_want_18 : decode cX8_want 18 = .ok (.aload_n 0, 1) := by decide +kernel
theorem dX8_want_19 : decode cX8_want 19 = .ok (.getfield 114, 3) := by decide +kernel
theorem dX8_want_22 : decode cX8_want 22 = .ok (.putfield 114, 3) := by decide +kernel
theorem dX8_want_25 : decode cX8_want 25 = .ok (.aload_n 0, 1) := by decide +kernel
theorem dX8_want_26 : decode cX8_want 26 = .ok (.getfield 114, 3) := by decide +kernel
theorem dX8_want_29 : decode cX8_want 29 = .ok (.bipush (-9), 2) := by decide +kernel
theorem dX8_want_31 : decode cX8_want 31 = .ok (.if_icmp .ne 7, 3) := by decide +kernel
theorem dX8_want_34 : decode cX8_want 34 = .ok (.iconst 1, 1) := by decide +kernel
theorem dX8_want_35 : decode cX8_want 35 = .ok (.goto 4, 3) := by decide +kernel
theorem dX8_want_38 : decode cX8_want 38 = .ok (.iconst 0, 1) := by decide +kernel
theorem dX8_want_39 : decode cX8_want 39 = .ok (.ireturn, 1) := by decide +kernel
def P_X8_want (a0 : Nat) (x1 : Int32) (x2 : Int32) : PM Int32 :=
getI 8 19 a0 fun v1 =>
jn (fun (j2 : Nat) (j3 : Int32) =>
setI 8 19 j2 j3 <|
getI 8 19 a0 fun v4 =>
ifB (decide (¬ v4 = ((-9)))) (
retZ 0) (
retZ 1)) fun k5 =>
jn (fun (j6 : Nat) =>
getI 8 19 a0 fun v7 =>
k5 j6 v7) fun k8 =>
ifB (decide (¬ v1 = ((-9)))) (
k8 a0) (
ifB (decide (¬ x1 = 0)) (
k8 a0) (
k5 a0 x2))
set_option maxHeartbeats 4000000 in
set_option maxRecDepth 100000 in
theorem W_X8_want {Γ : Cx} (ok : OKc Γ cX8_want RX8 0 "want") (okr : OKr Γ cX8_want (some .boolean)) (a0 : Nat) (x1 : Int32) (x2 : Int32) : SW Γ iI 0 [some (.ref a0), some (.int x1), some (.int x2)] [] (P_X8_want a0 x1 x2) := by
  unfold P_X8_want
  refine sw_aload_n (z := a0) (pc' := 1) ok dX8_want_0 rfl rfl ?_
  refine sw_aload_n (z := a0) (pc' := 2) ok dX8_want_1 rfl rfl ?_
  refine sw_getI (pc' := 5) ok (fr_X8_114.g) dX8_want_2 rfl (fun v1 => ?_)
  refine sw_bipush (v := (-9)) (pc' := 7) ok dX8_want_5 rfl cc_bipush_m9 ?_
  refine sw_jn (fun k5 : Nat → Int32 → PM Int32 => ∀ (j2 : Nat) (j3 : Int32), SW Γ iI 22 [some (.ref a0), none, none] [.int j3, .ref j2] (k5 j2 j3)) ?_ (fun k5 hk5 => ?_)
  · intro j2 j3
    refine sw_setI (pc' := 25) ok fr_X8_114 dX8_want_22 (fun h => by cases h) rfl ?_
    refine sw_aload_n (z := a0) (pc' := 26) ok dX8_want_25 rfl rfl ?_
    refine sw_getI (pc' := 29) ok (fr_X8_114.g) dX8_want_26 rfl (fun v4 => ?_)
    refine sw_bipush (v := (-9)) (pc' := 31) ok dX8_want_29 rfl cc_bipush_m9 ?_
    refine sw_icmp_ne (tgt := 38) (pc' := 34) ok dX8_want_31 (by decide) rfl ?_ ?_
    · refine sw_iconst (v := 0) (pc' := 39) ok dX8_want_38 rfl cc_iconst_0 ?_
      exact sw_retZ ok okr dX8_want_39
    refine sw_iconst (v := 1) (pc' := 35) ok dX8_want_34 rfl cc_iconst_1 ?_
    refine sw_goto (tgt := 39) ok dX8_want_35 (by decide) ?_
    exact sw_retZ ok okr dX8_want_39
  refine sw_jn (fun k8 : Nat → PM Int32 => ∀ (j6 : Nat), SW Γ iI 18 [some (.ref a0), none, none] [.ref j6] (k8 j6)) ?_ (fun k8 hk8 => ?_)
  · intro j6
    refine sw_aload_n (z := a0) (pc' := 19) ok dX8_want_18 rfl rfl ?_
    refine sw_getI (pc' := 22) ok (fr_X8_114.g) dX8_want_19 rfl (fun v7 => ?_)
    exact hk5 j6 v7
  refine sw_icmp_ne (tgt := 18) (pc' := 10) ok dX8_want_7 (by decide) rfl ?_ ?_
  · refine sw_fg (l' := [some (.ref a0), none, none]) [true, false, false] rfl ?_
    exact hk8 a0
  refine sw_iload_n (z := x1) (pc' := 11) ok dX8_want_10 rfl rfl ?_
  refine sw_if_ne (tgt := 18) (pc' := 14) ok dX8_want_11 (by decide) rfl ?_ ?_
  · refine sw_fg (l' := [some (.ref a0), none, none]) [true, false, false] rfl ?_
    exact hk8 a0
  refine sw_iload_n (z := x2) (pc' := 15) ok dX8_want_14 rfl rfl ?_
  refine sw_goto (tgt := 22) ok dX8_want_15 (by decide) ?_
  refine sw_fg (l' := [some (.ref a0), none, none]) [true, false, false] rfl ?_
  exact hk5 a0 x2
theorem S_X8_want (a0 : Nat) (x1 : Int32) (x2 : Int32) : Sim 0 yX8_want cX8_want 3 (some .boolean) iI [.ref a0, .int x1, .int x2] (P_X8_want a0 x1 x2) := Sim.intro wd_1079 (by decide) (by decide +kernel) (Nat.le_of_ble_eq_true rfl) (fun Γ ok okr => W_X8_want ok okr a0 x1 x2)
theorem dX8_figure_0 : decode cX8_figure 0 = .ok (.aload_n 0, 1) := by decide +kernel
theorem dX8_figure_1 : decode cX8_figure 1 = .ok (.aload_n 0, 1) := by decide +kernel
theorem dX8_figure_2 : decode cX8_figure 2 = .ok (.invokevirtual 110, 3) := by decide +kernel
theorem dX8_figure_5 : decode cX8_figure 5 = .ok (.i2l, 1) := by decide +kernel
theorem dX8_figure_6 : decode cX8_figure 6 = .ok (.ldc2_w 117, 3) := by decide +kernel
theorem dX8_figure_9 : decode cX8_figure 9 = .ok (.ldc2_w 119, 3) := by decide +kernel
theorem dX8_figure_12 : decode cX8_figure 12 = .ok (.invokestatic 80, 3) := by decide +kernel
theorem dX8_figure_15 : decode cX8_figure 15 = .ok (.aload_n 0, 1) := by decide +kernel
theorem dX8_figure_16 : decode cX8_figure 16 = .ok (.getfield 104, 3) := by decide +kernel
theorem dX8_figure_19 : decode cX8_figure 19 = .ok (.invokevirtual 121, 3) := by decide +kernel
theorem dX8_figure_22 : decode cX8_figure 22 = .ok (.ifCond .ne 5, 3) := by decide +kernel
theorem dX8_figure_25 : decode cX8_figure 25 = .ok (.iconst 0, 1) := by decide +kernel
theorem dX8_figure_26 : decode cX8_figure 26 = .ok (.ireturn, 1) := by decide +kernel
theorem dX8_figure_27 : decode cX8_figure 27 = .ok (.aload_n 0, 1) := by decide +kernel
theorem dX8_figure_28 : decode cX8_figure 28 = .ok (.invokevirtual 110, 3) := by decide +kernel
theorem dX8_figure_31 : decode cX8_figure 31 = .ok (.bipush 48, 2) := by decide +kernel
theorem dX8_figure_33 : decode cX8_figure 33 = .ok (.isub, 1) := by decide +kernel
theorem dX8_figure_34 : decode cX8_figure 34 = .ok (.istore_n 1, 1) := by decide +kernel
theorem dX8_figure_35 : decode cX8_figure 35 = .ok (.aload_n 0, 1) := by decide +kernel
theorem dX8_figure_36 : decode cX8_figure 36 = .ok (.dup, 1) := by decide +kernel
theorem dX8_figure_37 : decode cX8_figure 37 = .ok (.getfield 104, 3) := by decide +kernel
theorem dX8_figure_40 : decode cX8_figure 40 = .ok (.iconst 1, 1) := by decide +kernel
theorem dX8_figure_41 : decode cX8_figure 41 = .ok (.iadd, 1) := by decide +kernel
theorem dX8_figure_42 : decode cX8_figure 42 = .ok (.putfield 104, 3) := by decide +kernel
theorem dX8_figure_45 : decode cX8_figure 45 = .ok (.iload_n 1, 1) := by decide +kernel
theorem dX8_figure_46 : decode cX8_figure 46 = .ok (.ireturn, 1) := by decide +kernel
def P_X8_figure (a0 : Nat) : PM Int32 :=
cllV 8 a0 (P_X8_sign a0) fun v1 =>
cll0 (P_X8_in (Int32.toInt64 v1) 48 57) fun v2 =>
getI 8 18 a0 fun v3 =>
cllV 8 a0 (P_X8_want a0 v2 v3) fun v4 =>
ifB (decide (¬ v4 = 0)) (
cllV 8 a0 (P_X8_sign a0) fun v5 =>
getI 8 18 a0 fun v6 =>
setI 8 18 a0 (v6 + 1) <|
pureM (v5 - 48)) (
pureM 0)
set_option maxHeartbeats 4000000 in
set_option maxRecDepth 100000 in
theorem W_X8_figure {Γ : Cx} (ok : OKc Γ cX8_figure RX8 1 "figure") (okr : OKr Γ cX8_figure (some .int)) (a0 : Nat) : SW Γ iI 0 [some (.ref a0), none] [] (P_X8_figure a0) := by
  unfold P_X8_figure
  refine sw_aload_n (z := a0) (pc' := 1) ok dX8_figure_0 rfl rfl ?_
  refine sw_aload_n (z := a0) (pc' := 2) ok dX8_figure_1 rfl rfl ?_
  refine sw_cllV_I (st := [.ref a0]) (as := []) (pc' := 5) ok (S_X8_sign a0) (by decide) lk_X8_110 rfl dX8_figure_2 rfl (Nat.le_of_ble_eq_true rfl) rfl (fun v1 => ?_)
  refine sw_i2l (pc' := 6) ok dX8_figure_5 rfl ?_
  refine sw_ldc2 (v := 48) (pc' := 9) ok dX8_figure_6 rfl wd_497 ?_
  refine sw_ldc2 (v := 57) (pc' := 12) ok dX8_figure_9 rfl wd_498 ?_
  refine sw_cll0_I (st := [.ref a0]) (as := [.long (Int32.toInt64 v1), .long 48, .long 57]) (pc' := 15) ok (S_X8_in (Int32.toInt64 v1) 48 57) (by decide) lk_X8_80 rfl dX8_figure_12 rfl (Nat.le_of_ble_eq_true rfl) rfl (fun v2 => ?_)
  refine sw_aload_n (z := a0) (pc' := 16) ok dX8_figure_15 rfl rfl ?_
  refine sw_getI (pc' := 19) ok (fr_X8_104.g) dX8_figure_16 rfl (fun v3 => ?_)
  refine sw_cllV_I (st := []) (as := [.int v2, .int v3]) (pc' := 22) ok (S_X8_want a0 v2 v3) (by decide) lk_X8_121 rfl dX8_figure_19 rfl (Nat.le_of_ble_eq_true rfl) rfl (fun v4 => ?_)
  refine sw_if_ne (tgt := 27) (pc' := 25) ok dX8_figure_22 (by decide) rfl ?_ ?_
  · refine sw_aload_n (z := a0) (pc' := 28) ok dX8_figure_27 rfl rfl ?_
    refine sw_cllV_I (st := []) (as := []) (pc' := 31) ok (S_X8_sign a0) (by decide) lk_X8_110 rfl dX8_figure_28 rfl (Nat.le_of_ble_eq_true rfl) rfl (fun v5 => ?_)
    refine sw_bipush (v := 48) (pc' := 33) ok dX8_figure_31 rfl cc_bipush_48 ?_
    refine sw_isub (pc' := 34) ok dX8_figure_33 rfl ?_
    refine sw_istore_n (pc' := 35) (l' := [some (.ref a0), some (.int (v5 - 48))]) ok dX8_figure_34 rfl (Nat.le_of_ble_eq_true rfl) rfl ?_
    refine sw_aload_n (z := a0) (pc' := 36) ok dX8_figure_35 rfl rfl ?_
    refine sw_dup (pc' := 37) ok dX8_figure_36 rfl rfl ?_
    refine sw_getI (pc' := 40) ok (fr_X8_104.g) dX8_figure_37 rfl (fun v6 => ?_)
    refine sw_iconst (v := 1) (pc' := 41) ok dX8_figure_40 rfl cc_iconst_1 ?_
    refine sw_iadd (pc' := 42) ok dX8_figure_41 rfl ?_
    refine sw_setI (pc' := 45) ok fr_X8_104 dX8_figure_42 (fun h => by cases h) rfl ?_
    refine sw_iload_n (z := (v5 - 48)) (pc' := 46) ok dX8_figure_45 rfl rfl ?_
    exact sw_ret ok okr dX8_figure_46 trivial rfl
  refine sw_iconst (v := 0) (pc' := 26) ok dX8_figure_25 rfl cc_iconst_0 ?_
  exact sw_ret ok okr dX8_figure_26 trivial rfl
theorem S_X8_figure (a0 : Nat) : Sim 1 yX8_figure cX8_figure 2 (some .int) iI [.ref a0] (P_X8_figure a0) := Sim.intro wd_1080 (by decide) (by decide +kernel) (Nat.le_of_ble_eq_true rfl) (fun Γ ok okr => W_X8_figure ok okr a0)
theorem dX8_readFirst_0 : decode cX8_readFirst 0 = .ok (.aload_n 0, 1) := by decide +kernel
theorem dX8_readFirst_1 : decode cX8_readFirst 1 = .ok (.aload_n 0, 1) := by decide +kernel
theorem dX8_readFirst_2 : decode cX8_readFirst 2 = .ok (.invokevirtual 110, 3) := by decide +kernel
theorem dX8_readFirst_5 : decode cX8_readFirst 5 = .ok (.bipush 104, 2) := by decide +kernel
theorem dX8_readFirst_7 : decode cX8_readFirst 7 = .ok (.if_icmp .ne 7, 3) := by decide +kernel
theorem dX8_readFirst_10 : decode cX8_readFirst 10 = .ok (.iconst 1, 1) := by decide +kernel
theorem dX8_readFirst_11 : decode cX8_readFirst 11 = .ok (.goto 4, 3) := by decide +kernel
theorem dX8_readFirst_14 : decode cX8_readFirst 14 = .ok (.iconst 0, 1) := by decide +kernel
theorem dX8_readFirst_15 : decode cX8_readFirst 15 = .ok (.aload_n 0, 1) := by decide +kernel
theorem dX8_readFirst_16 : decode cX8_readFirst 16 = .ok (.getfield 104, 3) := by decide +kernel
theorem dX8_readFirst_19 : decode cX8_readFirst 19 = .ok (.invokevirtual 121, 3) := by decide +kernel
theorem dX8_readFirst_22 : decode cX8_readFirst 22 = .ok (.ifCond .ne 4, 3) := by decide +kernel
theorem dX8_readFirst_25 : decode cX8_readFirst 25 = .ok (.return_, 1) := by decide +kernel
theorem dX8_readFirst_26 : decode cX8_readFirst 26 = .ok (.aload_n 0, 1) := by decide +kernel
theorem dX8_readFirst_27 : decode cX8_readFirst 27 = .ok (.dup, 1) := by decide +kernel
theorem dX8_readFirst_28 : decode cX8_readFirst 28 = .ok (.getfield 104, 3) := by decide +kernel
theorem dX8_readFirst_31 : decode cX8_readFirst 31 = .ok (.iconst 1, 1) := by decide +kernel
theorem dX8_readFirst_32 : decode cX8_readFirst 32 = .ok (.iadd, 1) := by decide +kernel
theorem dX8_readFirst_33 : decode cX8_readFirst 33 = .ok (.putfield 104, 3) := by decide +kernel
theorem dX8_readFirst_36 : decode cX8_readFirst 36 = .ok (.aload_n 0, 1) := by decide +kernel
theorem dX8_readFirst_37 : decode cX8_readFirst 37 = .ok (.getfield 104, 3) := by decide +kernel
theorem dX8_readFirst_40 : decode cX8_readFirst 40 = .ok (.istore_n 1, 1) := by decide +kernel
theorem dX8_readFirst_41 : decode cX8_readFirst 41 = .ok (.aload_n 0, 1) := by decide +kernel
theorem dX8_readFirst_42 : decode cX8_readFirst 42 = .ok (.invokevirtual 125, 3) := by decide +kernel
theorem dX8_readFirst_45 : decode cX8_readFirst 45 = .ok (.istore_n 2, 1) := by decide +kernel
theorem dX8_readFirst_46 : decode cX8_readFirst 46 = .ok (.aload_n 0, 1) := by decide +kernel
theorem dX8_readFirst_47 : decode cX8_readFirst 47 = .ok (.invokevirtual 125, 3) := by decide +kernel
theorem dX8_readFirst_50 : decode cX8_readFirst 50 = .ok (.istore_n 3, 1) := by decide +kernel
theorem dX8_readFirst_51 : decode cX8_readFirst 51 = .ok (.aload_n 0, 1) := by decide +kernel
theorem dX8_readFirst_52 : decode cX8_readFirst 52 = .ok (.aload_n 0, 1) := by decide +kernel
theorem dX8_readFirst_53 : decode cX8_readFirst 53 = .ok (.getfield 114, 3) := by decide +kernel
theorem dX8_readFirst_56 : decode cX8_readFirst 56 = .ok (.bipush (-9), 2) := by decide +kernel
theorem dX8_readFirst_58 : decode cX8_readFirst 58 = .ok (.if_icmp .ne 14, 3) := by decide +kernel
theorem dX8_readFirst_61 : decode cX8_readFirst 61 = .ok (.bipush 10, 2) := by decide +kernel
theorem dX8_readFirst_63 : decode cX8_readFirst 63 = .ok (.iload_n 2, 1) := by decide +kernel
theorem dX8_readFirst_64 : decode cX8_readFirst 64 = .ok (.imul, 1) := by decide +kernel
theorem dX8_readFirst_65 : decode cX8_readFirst 65 = .ok (.iload_n 3, 1) := by decide +kernel
theorem dX8_readFirst_66 : decode cX8_readFirst 66 = .ok (.iadd, 1) := by decide +kernel
theorem dX8_readFirst_67 : decode cX8_readFirst 67 = .ok (.bipush 40, 2) := by decide +kernel
theorem dX8_readFirst_69 : decode cX8_readFirst 69 = .ok (.if_icmp .gt 7, 3) := by decide +kernel
theorem dX8_readFirst_72 : decode cX8_readFirst 72 = .ok (.iconst 1, 1) := by decide +kernel
theorem dX8_readFirst_73 : decode cX8_readFirst 73 = .ok (.goto 4, 3) := by decide +kernel
theorem dX8_readFirst_76 : decode cX8_readFirst 76 = .ok (.iconst 0, 1) := by decide +kernel
theorem dX8_readFirst_77 : decode cX8_readFirst 77 = .ok (.iload_n 1, 1) := by decide +kernel
theorem dX8_readFirst_78 : decode cX8_readFirst 78 = .ok (.invokevirtual 121, 3) := by decide +kernel
theorem dX8_readFirst_81 : decode cX8_readFirst 81 = .ok (.ifCond .eq 21, 3) := by decide +kernel
theorem dX8_readFirst_84 : decode cX8_readFirst 84 = .ok (.aload_n 0, 1) := by decide +kernel
theorem dX8_readFirst_85 : decode cX8_readFirst 85 = .ok (.bipush 10, 2) := by decide +kernel
theorem dX8_readFirst_87 : decode cX8_readFirst 87 = .ok (.iload_n 2, 1) := by decide +kernel
theorem dX8_readFirst_88 : decode cX8_readFirst 88 = .ok (.imul, 1) := by decide +kernel
theorem dX8_readFirst_89 : decode cX8_readFirst 89 = .ok (.iload_n 3, 1) := by decide +kernel
theorem dX8_readFirst_90 : decode cX8_readFirst 90 = .ok (.iadd, 1) := by decide +kernel
theorem dX8_readFirst_91 : decode cX8_readFirst 91 = .ok (.putfield 128, 3) := by decide +kernel
theorem dX8_readFirst_94 : decode cX8_readFirst 94 = .ok (.aload_n 0, 1) := by decide +kernel
theorem dX8_readFirst_95 : decode cX8_readFirst 95 = .ok (.aload_n 0, 1) := by decide +kernel
theorem dX8_readFirst_96 : decode cX8_readFirst 96 = .ok (.invokevirtual 125, 3) := by decide +kernel
theorem dX8_readFirst_99 : decode cX8_readFirst 99 = .ok (.putfield 131, 3) := by decide +kernel
theorem dX8_readFirst_102 : decode cX8_readFirst 102 = .ok (.return_, 1) := by decide +kernel
def P_X8_readFirst (a0 : Nat) : PM Unit :=
cllV 8 a0 (P_X8_sign a0) fun v1 =>
jn (fun (j2 : Nat) (j3 : Int32) =>
getI 8 18 a0 fun v4 =>
cllV 8 j2 (P_X8_want j2 j3 v4) fun v5 =>
ifB (decide (¬ v5 = 0)) (
getI 8 18 a0 fun v6 =>
setI 8 18 a0 (v6 + 1) <|
getI 8 18 a0 fun v7 =>
cllV 8 a0 (P_X8_figure a0) fun v8 =>
cllV 8 a0 (P_X8_figure a0) fun v9 =>
getI 8 19 a0 fun v10 =>
jn (fun (j11 : Nat) (j12 : Int32) =>
cllV 8 j11 (P_X8_want j11 j12 v7) fun v13 =>
ifB (decide (v13 = 0)) (
pureM ()) (
setI 8 22 a0 ((10 * v8) + v9) <|
cllV 8 a0 (P_X8_figure a0) fun v14 =>
setI 8 23 a0 v14 <|
pureM ())) fun k15 =>
jn (fun (j16 : Nat) =>
k15 j16 1) fun k17 =>
ifB (decide (¬ v10 = ((-9)))) (
k17 a0) (
ifB (decide (40 < ((10 * v8) + v9))) (
k15 a0 0) (
k17 a0))) (
pureM ())) fun k18 =>
ifB (decide (¬ v1 = 104)) (
k18 a0 0) (
k18 a0 1)
set_option maxHeartbeats 4000000 in
set_option maxRecDepth 100000 in
theorem W_X8_readFirst {Γ : Cx} (ok : OKc Γ cX8_readFirst RX8 2 "readFirst") (okr : OKr Γ cX8_readFirst (none)) (a0 : Nat) : SW Γ iU 0 [some (.ref a0), none, none, none] [] (P_X8_readFirst a0) := by
  unfold P_X8_readFirst
  refine sw_aload_n (z := a0) (pc' := 1) ok dX8_readFirst_0 rfl rfl ?_
  refine sw_aload_n (z := a0) (pc' := 2) ok dX8_readFirst_1 rfl rfl ?_
  refine sw_cllV_I (st := [.ref a0]) (as := []) (pc' := 5) ok (S_X8_sign a0) (by decide) lk_X8_110 rfl dX8_readFirst_2 rfl (Nat.le_of_ble_eq_true rfl) rfl (fun v1 => ?_)
  refine sw_bipush (v := 104) (pc' := 7) ok dX8_readFirst_5 rfl cc_bipush_104 ?_
  refine sw_jn (fun k18 : Nat → Int32 → PM Unit => ∀ (j2 : Nat) (j3 : Int32), SW Γ iU 15 [some (.ref a0), none, none, none] [.int j3, .ref j2] (k18 j2 j3)) ?_ (fun k18 hk18 => ?_)
  · intro j2 j3
    refine sw_aload_n (z := a0) (pc' := 16) ok dX8_readFirst_15 rfl rfl ?_
    refine sw_getI (pc' := 19) ok (fr_X8_104.g) dX8_readFirst_16 rfl (fun v4 => ?_)
    refine sw_cllV_I (st := []) (as := [.int j3, .int v4]) (pc' := 22) ok (S_X8_want j2 j3 v4) (by decide) lk_X8_121 rfl dX8_readFirst_19 rfl (Nat.le_of_ble_eq_true rfl) rfl (fun v5 => ?_)
    refine sw_if_ne (tgt := 26) (pc' := 25) ok dX8_readFirst_22 (by decide) rfl ?_ ?_
    · refine sw_aload_n (z := a0) (pc' := 27) ok dX8_readFirst_26 rfl rfl ?_
      refine sw_dup (pc' := 28) ok dX8_readFirst_27 rfl rfl ?_
      refine sw_getI (pc' := 31) ok (fr_X8_104.g) dX8_readFirst_28 rfl (fun v6 => ?_)
      refine sw_iconst (v := 1) (pc' := 32) ok dX8_readFirst_31 rfl cc_iconst_1 ?_
      refine sw_iadd (pc' := 33) ok dX8_readFirst_32 rfl ?_
      refine sw_setI (pc' := 36) ok fr_X8_104 dX8_readFirst_33 (fun h => by cases h) rfl ?_
      refine sw_aload_n (z := a0) (pc' := 37) ok dX8_readFirst_36 rfl rfl ?_
      refine sw_getI (pc' := 40) ok (fr_X8_104.g) dX8_readFirst_37 rfl (fun v7 => ?_)
      refine sw_istore_n (pc' := 41) (l' := [some (.ref a0), some (.int v7), none, none]) ok dX8_readFirst_40 rfl (Nat.le_of_ble_eq_true rfl) rfl ?_
      refine sw_aload_n (z := a0) (pc' := 42) ok dX8_readFirst_41 rfl rfl ?_
      refine sw_cllV_I (st := []) (as := []) (pc' := 45) ok (S_X8_figure a0) (by decide) lk_X8_125 rfl dX8_readFirst_42 rfl (Nat.le_of_ble_eq_true rfl) rfl (fun v8 => ?_)
      refine sw_istore_n (pc' := 46) (l' := [some (.ref a0), some (.int v7), some (.int v8), none]) ok dX8_readFirst_45 rfl (Nat.le_of_ble_eq_true rfl) rfl ?_
      refine sw_aload_n (z := a0) (pc' := 47) ok dX8_readFirst_46 rfl rfl ?_
      refine sw_cllV_I (st := []) (as := []) (pc' := 50) ok (S_X8_figure a0) (by decide) lk_X8_125 rfl dX8_readFirst_47 rfl (Nat.le_of_ble_eq_true rfl) rfl (fun v9 => ?_)
      refine sw_istore_n (pc' := 51) (l' := [some (.ref a0), some (.int v7), some (.int v8), some (.int v9)]) ok dX8_readFirst_50 rfl (Nat.le_of_ble_eq_true rfl) rfl ?_
      refine sw_aload_n (z := a0) (pc' := 52) ok dX8_readFirst_51 rfl rfl ?_
      refine sw_aload_n (z := a0) (pc' := 53) ok dX8_readFirst_52 rfl rfl ?_
      refine sw_getI (pc' := 56) ok (fr_X8_114.g) dX8_readFirst_53 rfl (fun v10 => ?_)
      refine sw_bipush (v := (-9)) (pc' := 58) ok dX8_readFirst_56 rfl cc_bipush_m9 ?_
      refine sw_jn (fun k15 : Nat → Int32 → PM Unit => ∀ (j11 : Nat) (j12 : Int32), SW Γ iU 77 [some (.ref a0), some (.int v7), some (.int v8), some (.int v9)] [.int j12, .ref j11] (k15 j11 j12)) ?_ (fun k15 hk15 => ?_)
      · intro j11 j12
        refine sw_iload_n (z := v7) (pc' := 78) ok dX8_readFirst_77 rfl rfl ?_
        refine sw_cllV_I (st := []) (as := [.int j12, .int v7]) (pc' := 81) ok (S_X8_want j11 j12 v7) (by decide) lk_X8_121 rfl dX8_readFirst_78 rfl (Nat.le_of_ble_eq_true rfl) rfl (fun v13 => ?_)
        refine sw_if_eq (tgt := 102) (pc' := 84) ok dX8_readFirst_81 (by decide) rfl ?_ ?_
        · exact sw_ret ok okr dX8_readFirst_102 trivial rfl
        refine sw_aload_n (z := a0) (pc' := 85) ok dX8_readFirst_84 rfl rfl ?_
        refine sw_bipush (v := 10) (pc' := 87) ok dX8_readFirst_85 rfl cc_bipush_10 ?_
        refine sw_iload_n (z := v8) (pc' := 88) ok dX8_readFirst_87 rfl rfl ?_
        refine sw_imul (pc' := 89) ok dX8_readFirst_88 rfl ?_
        refine sw_iload_n (z := v9) (pc' := 90) ok dX8_readFirst_89 rfl rfl ?_
        refine sw_iadd (pc' := 91) ok dX8_readFirst_90 rfl ?_
        refine sw_setI (pc' := 94) ok fr_X8_128 dX8_readFirst_91 (fun h => by cases h) rfl ?_
        refine sw_aload_n (z := a0) (pc' := 95) ok dX8_readFirst_94 rfl rfl ?_
        refine sw_aload_n (z := a0) (pc' := 96) ok dX8_readFirst_95 rfl rfl ?_
        refine sw_cllV_I (st := [.ref a0]) (as := []) (pc' := 99) ok (S_X8_figure a0) (by decide) lk_X8_125 rfl dX8_readFirst_96 rfl (Nat.le_of_ble_eq_true rfl) rfl (fun v14 => ?_)
        refine sw_setI (pc' := 102) ok fr_X8_131 dX8_readFirst_99 (fun h => by cases h) rfl ?_
        exact sw_ret ok okr dX8_readFirst_102 trivial rfl
      refine sw_jn (fun k17 : Nat → PM Unit => ∀ (j16 : Nat), SW Γ iU 72 [some (.ref a0), some (.int v7), some (.int v8), some (.int v9)] [.ref j16] (k17 j16)) ?_ (fun k17 hk17 => ?_)
      · intro j16
        refine sw_iconst (v := 1) (pc' := 73) ok dX8_readFirst_72 rfl cc_iconst_1 ?_
        refine sw_goto (tgt := 77) ok dX8_readFirst_73 (by decide) ?_
        exact hk15 j16 1
      refine sw_icmp_ne (tgt := 72) (pc' := 61) ok dX8_readFirst_58 (by decide) rfl ?_ ?_
      · exact hk17 a0
      refine sw_bipush (v := 10) (pc' := 63) ok dX8_readFirst_61 rfl cc_bipush_10 ?_
      refine sw_iload_n (z := v8) (pc' := 64) ok dX8_readFirst_63 rfl rfl ?_
      refine sw_imul (pc' := 65) ok dX8_readFirst_64 rfl ?_
      refine sw_iload_n (z := v9) (pc' := 66) ok dX8_readFirst_65 rfl rfl ?_
      refine sw_iadd (pc' := 67) ok dX8_readFirst_66 rfl ?_
      refine sw_bipush (v := 40) (pc' := 69) ok dX8_readFirst_67 rfl cc_bipush_40 ?_
      refine sw_icmp_gt (tgt := 76) (pc' := 72) ok dX8_readFirst_69 (by decide) rfl ?_ ?_
      · refine sw_iconst (v := 0) (pc' := 77) ok dX8_readFirst_76 rfl cc_iconst_0 ?_
        exact hk15 a0 0
      exact hk17 a0
    exact sw_ret ok okr dX8_readFirst_25 trivial rfl
  refine sw_icmp_ne (tgt := 14) (pc' := 10) ok dX8_readFirst_7 (by decide) rfl ?_ ?_
  · refine sw_iconst (v := 0) (pc' := 15) ok dX8_readFirst_14 rfl cc_iconst_0 ?_
    exact hk18 a0 0
  refine sw_iconst (v := 1) (pc' := 11) ok dX8_readFirst_10 rfl cc_iconst_1 ?_
  refine sw_goto (tgt := 15) ok dX8_readFirst_11 (by decide) ?_
  exact hk18 a0 1
theorem S_X8_readFirst (a0 : Nat) : Sim 2 yX8_readFirst cX8_readFirst 4 (none) iU [.ref a0] (P_X8_readFirst a0) := Sim.intro wd_1081 (by decide) (by decide +kernel) (Nat.le_of_ble_eq_true rfl) (fun Γ ok okr => W_X8_readFirst ok okr a0)
theorem dX8_kindOf_0 : decode cX8_kindOf 0 = .ok (.iload_n 0, 1) := by decide +kernel
theorem dX8_kindOf_1 : decode cX8_kindOf 1 = .ok (.lookupswitch 71 #[(98, 61), (99, 65), (108, 63), (112, 67), (116, 59), (119, 69)], 59) := by decide +kernel
theorem dX8_kindOf_60 : decode cX8_kindOf 60 = .ok (.iconst 0, 1) := by decide +kernel
theorem dX8_kindOf_61 : decode cX8_kindOf 61 = .ok (.ireturn, 1) := by decide +kernel
theorem dX8_kindOf_62 : decode cX8_kindOf 62 = .ok (.iconst 1, 1) := by decide +kernel
theorem dX8_kindOf_63 : decode cX8_kindOf 63 = .ok (.ireturn, 1) := by decide +kernel
theorem dX8_kindOf_64 : decode cX8_kindOf 64 = .ok (.iconst 2, 1) := by decide +kernel
theorem dX8_kindOf_65 : decode cX8_kindOf 65 = .ok (.ireturn, 1) := by decide +kernel
theorem dX8_kindOf_66 : decode cX8_kindOf 66 = .ok (.iconst 3, 1) := by decide +kernel
theorem dX8_kindOf_67 : decode cX8_kindOf 67 = .ok (.ireturn, 1) := by decide +kernel
theorem dX8_kindOf_68 : decode cX8_kindOf 68 = .ok (.iconst 4, 1) := by decide +kernel
theorem dX8_kindOf_69 : decode cX8_kindOf 69 = .ok (.ireturn, 1) := by decide +kernel
theorem dX8_kindOf_70 : decode cX8_kindOf 70 = .ok (.iconst 5, 1) := by decide +kernel
theorem dX8_kindOf_71 : decode cX8_kindOf 71 = .ok (.ireturn, 1) := by decide +kernel
theorem dX8_kindOf_72 : decode cX8_kindOf 72 = .ok (.bipush (-9), 2) := by decide +kernel
theorem dX8_kindOf_74 : decode cX8_kindOf 74 = .ok (.ireturn, 1) := by decide +kernel
def P_X8_kindOf (x0 : Int32) : PM Int32 :=
swL x0 [
(98,
pureM 1),
(99,
pureM 3),
(108,
pureM 2),
(112,
pureM 4),
(116,
pureM 0),
(119,
pureM 5)] (
pureM ((-9)))
set_option maxHeartbeats 4000000 in
set_option maxRecDepth 100000 in
theorem W_X8_kindOf {Γ : Cx} (ok : OKc Γ cX8_kindOf RX8 0 "kindOf") (okr : OKr Γ cX8_kindOf (some .int)) (x0 : Int32) : SW Γ iI 0 [some (.int x0)] [] (P_X8_kindOf x0) := by
  unfold P_X8_kindOf
  refine sw_iload_n (z := x0) (pc' := 1) ok dX8_kindOf_0 rfl rfl ?_
  refine sw_lsw (tgt := 72) ok dX8_kindOf_1 (by decide) (by decide) ⟨⟨rfl, 62, by decide, ?_⟩, ⟨rfl, 66, by decide, ?_⟩, ⟨rfl, 64, by decide, ?_⟩, ⟨rfl, 68, by decide, ?_⟩, ⟨rfl, 60, by decide, ?_⟩, ⟨rfl, 70, by decide, ?_⟩, trivial⟩ ?_
  · refine sw_iconst (v := 1) (pc' := 63) ok dX8_kindOf_62 rfl cc_iconst_1 ?_
    exact sw_ret ok okr dX8_kindOf_63 trivial rfl
  · refine sw_iconst (v := 3) (pc' := 67) ok dX8_kindOf_66 rfl cc_iconst_3 ?_
    exact sw_ret ok okr dX8_kindOf_67 trivial rfl
  · refine sw_iconst (v := 2) (pc' := 65) ok dX8_kindOf_64 rfl cc_iconst_2 ?_
    exact sw_ret ok okr dX8_kindOf_65 trivial rfl
  · refine sw_iconst (v := 4) (pc' := 69) ok dX8_kindOf_68 rfl cc_iconst_4 ?_
    exact sw_ret ok okr dX8_kindOf_69 trivial rfl
  · refine sw_iconst (v := 0) (pc' := 61) ok dX8_kindOf_60 rfl cc_iconst_0 ?_
    exact sw_ret ok okr dX8_kindOf_61 trivial rfl
  · refine sw_iconst (v := 5) (pc' := 71) ok dX8_kindOf_70 rfl cc_iconst_5 ?_
    exact sw_ret ok okr dX8_kindOf_71 trivial rfl
  refine sw_bipush (v := (-9)) (pc' := 74) ok dX8_kindOf_72 rfl cc_bipush_m9 ?_
  exact sw_ret ok okr dX8_kindOf_74 trivial rfl
theorem S_X8_kindOf (x0 : Int32) : Sim 0 yX8_kindOf cX8_kindOf 1 (some .int) iI [.int x0] (P_X8_kindOf x0) := Sim.intro wd_1082 (by decide) (by decide +kernel) (Nat.le_of_ble_eq_true rfl) (fun Γ ok okr => W_X8_kindOf ok okr x0)
theorem dX8_readOne_0 : decode cX8_readOne 0 = .ok (.aload_n 0, 1) := by decide +kernel
theorem dX8_readOne_1 : decode cX8_readOne 1 = .ok (.aload_n 0, 1) := by decide +kernel
theorem dX8_readOne_2 : decode cX8_readOne 2 = .ok (.getfield 134, 3) := by decide +kernel
theorem dX8_readOne_5 : decode cX8_readOne 5 = .ok (.bipush 6, 2) := by decide +kernel
theorem dX8_readOne_7 : decode cX8_readOne 7 = .ok (.if_icmp .ge 7, 3) := by decide +kernel
theorem dX8_readOne_10 : decode cX8_readOne 10 = .ok (.iconst 1, 1) := by decide +kernel
theorem dX8_readOne_11 : decode cX8_readOne 11 = .ok (.goto 4, 3) := by decide +kernel
theorem dX8_readOne_14 : decode cX8_readOne 14 = .ok (.iconst 0, 1) := by decide +kernel
theorem dX8_readOne_15 : decode cX8_readOne 15 = .ok (.aload_n 0, 1) := by decide +kernel
theorem dX8_readOne_16 : decode cX8_readOne 16 = .ok (.getfield 104, 3) := by decide +kernel
theorem dX8_readOne_19 : decode cX8_readOne 19 = .ok (.invokevirtual 121, 3) := by decide +kernel
theorem dX8_readOne_22 : decode cX8_readOne 22 = .ok (.ifCond .ne 4, 3) := by decide +kernel
theorem dX8_readOne_25 : decode cX8_readOne 25 = .ok (.return_, 1) := by decide +kernel
theorem dX8_readOne_26 : decode cX8_readOne 26 = .ok (.aload_n 0, 1) := by decide +kernel
theorem dX8_readOne_27 : decode cX8_readOne 27 = .ok (.dup, 1) := by decide +kernel
theorem dX8_readOne_28 : decode cX8_readOne 28 = .ok (.getfield 104, 3) := by decide +kernel
theorem dX8_readOne_31 : decode cX8_readOne 31 = .ok (.iconst 1, 1) := by decide +kernel
theorem dX8_readOne_32 : decode cX8_readOne 32 = .ok (.iadd, 1) := by decide +kernel
theorem dX8_readOne_33 : decode cX8_readOne 33 = .ok (.putfield 104, 3) := by decide +kernel
theorem dX8_readOne_36 : decode cX8_readOne 36 = .ok (.aload_n 0, 1) := by decide +kernel
theorem dX8_readOne_37 : decode cX8_readOne 37 = .ok (.getfield 50, 3) := by decide +kernel
theorem dX8_readOne_40 : decode cX8_readOne 40 = .ok (.aload_n 0, 1) := by decide +kernel
theorem dX8_readOne_41 : decode cX8_readOne 41 = .ok (.getfield 134, 3) := by decide +kernel
theorem dX8_readOne_44 : decode cX8_readOne 44 = .ok (.iload_n 1, 1) := by decide +kernel
theorem dX8_readOne_45 : decode cX8_readOne 45 = .ok (.iastore, 1) := by decide +kernel
theorem dX8_readOne_46 : decode cX8_readOne 46 = .ok (.aload_n 0, 1) := by decide +kernel
theorem dX8_readOne_47 : decode cX8_readOne 47 = .ok (.getfield 53, 3) := by decide +kernel
theorem dX8_readOne_50 : decode cX8_readOne 50 = .ok (.aload_n 0, 1) := by decide +kernel
theorem dX8_readOne_51 : decode cX8_readOne 51 = .ok (.getfield 134, 3) := by decide +kernel
theorem dX8_readOne_54 : decode cX8_readOne 54 = .ok (.aload_n 0, 1) := by decide +kernel
theorem dX8_readOne_55 : decode cX8_readOne 55 = .ok (.invokevirtual 125, 3) := by decide +kernel
theorem dX8_readOne_58 : decode cX8_readOne 58 = .ok (.iastore, 1) := by decide +kernel
theorem dX8_readOne_59 : decode cX8_readOne 59 = .ok (.aload_n 0, 1) := by decide +kernel
theorem dX8_readOne_60 : decode cX8_readOne 60 = .ok (.getfield 56, 3) := by decide +kernel
theorem dX8_readOne_63 : decode cX8_readOne 63 = .ok (.aload_n 0, 1) := by decide +kernel
theorem dX8_readOne_64 : decode cX8_readOne 64 = .ok (.getfield 134, 3) := by decide +kernel
theorem dX8_readOne_67 : decode cX8_readOne 67 = .ok (.aload_n 0, 1) := by decide +kernel
theorem dX8_readOne_68 : decode cX8_readOne 68 = .ok (.invokevirtual 125, 3) := by decide +kernel
theorem dX8_readOne_71 : decode cX8_readOne 71 = .ok (.iastore, 1) := by decide +kernel
theorem dX8_readOne_72 : decode cX8_readOne 72 = .ok (.aload_n 0, 1) := by decide +kernel
theorem dX8_readOne_73 : decode cX8_readOne 73 = .ok (.getfield 59, 3) := by decide +kernel
theorem dX8_readOne_76 : decode cX8_readOne 76 = .ok (.aload_n 0, 1) := by decide +kernel
theorem dX8_readOne_77 : decode cX8_readOne 77 = .ok (.getfield 134, 3) := by decide +kernel
theorem dX8_readOne_80 : decode cX8_readOne 80 = .ok (.iconst 0, 1) := by decide +kernel
theorem dX8_readOne_81 : decode cX8_readOne 81 = .ok (.iastore, 1) := by decide +kernel
theorem dX8_readOne_82 : decode cX8_readOne 82 = .ok (.aload_n 0, 1) := by decide +kernel
theorem dX8_readOne_83 : decode cX8_readOne 83 = .ok (.dup, 1) := by decide +kernel
theorem dX8_readOne_84 : decode cX8_readOne 84 = .ok (.getfield 134, 3) := by decide +kernel
theorem dX8_readOne_87 : decode cX8_readOne 87 = .ok (.iconst 1, 1) := by decide +kernel
theorem dX8_readOne_88 : decode cX8_readOne 88 = .ok (.iadd, 1) := by decide +kernel
theorem dX8_readOne_89 : decode cX8_readOne 89 = .ok (.putfield 134, 3) := by decide +kernel
theorem dX8_readOne_92 : decode cX8_readOne 92 = .ok (.return_, 1) := by decide +kernel
def P_X8_readOne (a0 : Nat) (x1 : Int32) : PM Unit :=
getI 8 21 a0 fun v1 =>
jn (fun (j2 : Nat) (j3 : Int32) =>
getI 8 18 a0 fun v4 =>
cllV 8 j2 (P_X8_want j2 j3 v4) fun v5 =>
ifB (decide (¬ v5 = 0)) (
getI 8 18 a0 fun v6 =>
setI 8 18 a0 (v6 + 1) <|
getR 8 24 a0 fun v7 =>
getI 8 21 a0 fun v8 =>
ast v7 v8 x1 <|
getR 8 25 a0 fun v9 =>
getI 8 21 a0 fun v10 =>
cllV 8 a0 (P_X8_figure a0) fun v11 =>
ast v9 v10 v11 <|
getR 8 26 a0 fun v12 =>
getI 8 21 a0 fun v13 =>
cllV 8 a0 (P_X8_figure a0) fun v14 =>
ast v12 v13 v14 <|
getR 8 27 a0 fun v15 =>
getI 8 21 a0 fun v16 =>
ast v15 v16 0 <|
getI 8 21 a0 fun v17 =>
setI 8 21 a0 (v17 + 1) <|
pureM ()) (
pureM ())) fun k18 =>
ifB (decide (6 ≤ v1)) (
k18 a0 0) (
k18 a0 1)
set_option maxHeartbeats 4000000 in
set_option maxRecDepth 100000 in
theorem W_X8_readOne {Γ : Cx} (ok : OKc Γ cX8_readOne RX8 2 "readOne") (okr : OKr Γ cX8_readOne (none)) (a0 : Nat) (x1 : Int32) : SW Γ iU 0 [some (.ref a0), some (.int x1)] [] (P_X8_readOne a0 x1) := by
  unfold P_X8_readOne
  refine sw_aload_n (z := a0) (pc' := 1) ok dX8_readOne_0 rfl rfl ?_
  refine sw_aload_n (z := a0) (pc' := 2) ok dX8_readOne_1 rfl rfl ?_
  refine sw_getI (pc' := 5) ok (fr_X8_134.g) dX8_readOne_2 rfl (fun v1 => ?_)
  refine sw_bipush (v := 6) (pc' := 7) ok dX8_readOne_5 rfl cc_bipush_6 ?_
  refine sw_jn (fun k18 : Nat → Int32 → PM Unit => ∀ (j2 : Nat) (j3 : Int32), SW Γ iU 15 [some (.ref a0), some (.int x1)] [.int j3, .ref j2] (k18 j2 j3)) ?_ (fun k18 hk18 => ?_)
  · intro j2 j3
    refine sw_aload_n (z := a0) (pc' := 16) ok dX8_readOne_15 rfl rfl ?_
    refine sw_getI (pc' := 19) ok (fr_X8_104.g) dX8_readOne_16 rfl (fun v4 => ?_)
    refine sw_cllV_I (st := []) (as := [.int j3, .int v4]) (pc' := 22) ok (S_X8_want j2 j3 v4) (by decide) lk_X8_121 rfl dX8_readOne_19 rfl (Nat.le_of_ble_eq_true rfl) rfl (fun v5 => ?_)
    refine sw_if_ne (tgt := 26) (pc' := 25) ok dX8_readOne_22 (by decide) rfl ?_ ?_
    · refine sw_aload_n (z := a0) (pc' := 27) ok dX8_readOne_26 rfl rfl ?_
      refine sw_dup (pc' := 28) ok dX8_readOne_27 rfl rfl ?_
      refine sw_getI (pc' := 31) ok (fr_X8_104.g) dX8_readOne_28 rfl (fun v6 => ?_)
      refine sw_iconst (v := 1) (pc' := 32) ok dX8_readOne_31 rfl cc_iconst_1 ?_
      refine sw_iadd (pc' := 33) ok dX8_readOne_32 rfl ?_
      refine sw_setI (pc' := 36) ok fr_X8_104 dX8_readOne_33 (fun h => by cases h) rfl ?_
      refine sw_aload_n (z := a0) (pc' := 37) ok dX8_readOne_36 rfl rfl ?_
      refine sw_getR (pc' := 40) ok (fr_X8_50.g) dX8_readOne_37 rfl (fun v7 => ?_)
      refine sw_aload_n (z := a0) (pc' := 41) ok dX8_readOne_40 rfl rfl ?_
      refine sw_getI (pc' := 44) ok (fr_X8_134.g) dX8_readOne_41 rfl (fun v8 => ?_)
      refine sw_iload_n (z := x1) (pc' := 45) ok dX8_readOne_44 rfl rfl ?_
      refine sw_ast (pc' := 46) ok dX8_readOne_45 rfl ?_
      refine sw_aload_n (z := a0) (pc' := 47) ok dX8_readOne_46 rfl rfl ?_
      refine sw_getR (pc' := 50) ok (fr_X8_53.g) dX8_readOne_47 rfl (fun v9 => ?_)
      refine sw_aload_n (z := a0) (pc' := 51) ok dX8_readOne_50 rfl rfl ?_
      refine sw_getI (pc' := 54) ok (fr_X8_134.g) dX8_readOne_51 rfl (fun v10 => ?_)
      refine sw_aload_n (z := a0) (pc' := 55) ok dX8_readOne_54 rfl rfl ?_
      refine sw_cllV_I (st := [.int v10, .ref v9]) (as := []) (pc' := 58) ok (S_X8_figure a0) (by decide) lk_X8_125 rfl dX8_readOne_55 rfl (Nat.le_of_ble_eq_true rfl) rfl (fun v11 => ?_)
      refine sw_ast (pc' := 59) ok dX8_readOne_58 rfl ?_
      refine sw_aload_n (z := a0) (pc' := 60) ok dX8_readOne_59 rfl rfl ?_
      refine sw_getR (pc' := 63) ok (fr_X8_56.g) dX8_readOne_60 rfl (fun v12 => ?_)
      refine sw_aload_n (z := a0) (pc' := 64) ok dX8_readOne_63 rfl rfl ?_
      refine sw_getI (pc' := 67) ok (fr_X8_134.g) dX8_readOne_64 rfl (fun v13 => ?_)
      refine sw_aload_n (z := a0) (pc' := 68) ok dX8_readOne_67 rfl rfl ?_
      refine sw_cllV_I (st := [.int v13, .ref v12]) (as := []) (pc' := 71) ok (S_X8_figure a0) (by decide) lk_X8_125 rfl dX8_readOne_68 rfl (Nat.le_of_ble_eq_true rfl) rfl (fun v14 => ?_)
      refine sw_ast (pc' := 72) ok dX8_readOne_71 rfl ?_
      refine sw_aload_n (z := a0) (pc' := 73) ok dX8_readOne_72 rfl rfl ?_
      refine sw_getR (pc' := 76) ok (fr_X8_59.g) dX8_readOne_73 rfl (fun v15 => ?_)
      refine sw_aload_n (z := a0) (pc' := 77) ok dX8_readOne_76 rfl rfl ?_
      refine sw_getI (pc' := 80) ok (fr_X8_134.g) dX8_readOne_77 rfl (fun v16 => ?_)
      refine sw_iconst (v := 0) (pc' := 81) ok dX8_readOne_80 rfl cc_iconst_0 ?_
      refine sw_ast (pc' := 82) ok dX8_readOne_81 rfl ?_
      refine sw_aload_n (z := a0) (pc' := 83) ok dX8_readOne_82 rfl rfl ?_
      refine sw_dup (pc' := 84) ok dX8_readOne_83 rfl rfl ?_
      refine sw_getI (pc' := 87) ok (fr_X8_134.g) dX8_readOne_84 rfl (fun v17 => ?_)
      refine sw_iconst (v := 1) (pc' := 88) ok dX8_readOne_87 rfl cc_iconst_1 ?_
      refine sw_iadd (pc' := 89) ok dX8_readOne_88 rfl ?_
      refine sw_setI (pc' := 92) ok fr_X8_134 dX8_readOne_89 (fun h => by cases h) rfl ?_
      exact sw_ret ok okr dX8_readOne_92 trivial rfl
    exact sw_ret ok okr dX8_readOne_25 trivial rfl
  refine sw_icmp_ge (tgt := 14) (pc' := 10) ok dX8_readOne_7 (by decide) rfl ?_ ?_
  · refine sw_iconst (v := 0) (pc' := 15) ok dX8_readOne_14 rfl cc_iconst_0 ?_
    exact hk18 a0 0
  refine sw_iconst (v := 1) (pc' := 11) ok dX8_readOne_10 rfl cc_iconst_1 ?_
  refine sw_goto (tgt := 15) ok dX8_readOne_11 (by decide) ?_
  exact hk18 a0 1
theorem S_X8_readOne (a0 : Nat) (x1 : Int32) : Sim 2 yX8_readOne cX8_readOne 2 (none) iU [.ref a0, .int x1] (P_X8_readOne a0 x1) := Sim.intro wd_1083 (by decide) (by decide +kernel) (Nat.le_of_ble_eq_true rfl) (fun Γ ok okr => W_X8_readOne ok okr a0 x1)
theorem dX8_readQuarrel_0 : decode cX8_readQuarrel 0 = .ok (.aload_n 0, 1) := by decide +kernel
theorem dX8_readQuarrel_1 : decode cX8_readQuarrel 1 = .ok (.dup, 1) := by decide +kernel
theorem dX8_readQuarrel_2 : decode cX8_readQuarrel 2 = .ok (.getfield 104, 3) := by decide +kernel
theorem dX8_readQuarrel_5 : decode cX8_readQuarrel 5 = .ok (.iconst 1, 1) := by decide +kernel
theorem dX8_readQuarrel_6 : decode cX8_readQuarrel 6 = .ok (.iadd, 1) := by decide +kernel
theorem dX8_readQuarrel_7 : decode cX8_readQuarrel 7 = .ok (.putfield 104, 3) := by decide +kernel
theorem dX8_readQuarrel_10 : decode cX8_readQuarrel 10 = .ok (.aload_n 0, 1) := by decide +kernel
theorem dX8_readQuarrel_11 : decode cX8_readQuarrel 11 = .ok (.getfield 104, 3) := by decide +kernel
theorem dX8_readQuarrel_14 : decode cX8_readQuarrel 14 = .ok (.istore_n 1, 1) := by decide +kernel
theorem dX8_readQuarrel_15 : decode cX8_readQuarrel 15 = .ok (.aload_n 0, 1) := by decide +kernel
theorem dX8_readQuarrel_16 : decode cX8_readQuarrel 16 = .ok (.invokevirtual 125, 3) := by decide +kernel
theorem dX8_readQuarrel_19 : decode cX8_readQuarrel 19 = .ok (.istore_n 2, 1) := by decide +kernel
theorem dX8_readQuarrel_20 : decode cX8_readQuarrel 20 = .ok (.aload_n 0, 1) := by decide +kernel
theorem dX8_readQuarrel_21 : decode cX8_readQuarrel 21 = .ok (.aload_n 0, 1) := by decide +kernel
theorem dX8_readQuarrel_22 : decode cX8_readQuarrel 22 = .ok (.getfield 114, 3) := by decide +kernel
theorem dX8_readQuarrel_25 : decode cX8_readQuarrel 25 = .ok (.bipush (-9), 2) := by decide +kernel
theorem dX8_readQuarrel_27 : decode cX8_readQuarrel 27 = .ok (.if_icmp .ne 11, 3) := by decide +kernel
theorem dX8_readQuarrel_30 : decode cX8_readQuarrel 30 = .ok (.iload_n 2, 1) := by decide +kernel
theorem dX8_readQuarrel_31 : decode cX8_readQuarrel 31 = .ok (.aload_n 0, 1) := by decide +kernel
theorem dX8_readQuarrel_32 : decode cX8_readQuarrel 32 = .ok (.getfield 134, 3) := by decide +kernel
theorem dX8_readQuarrel_35 : decode cX8_readQuarrel 35 = .ok (.if_icmp .ge 7, 3) := by decide +kernel
theorem dX8_readQuarrel_38 : decode cX8_readQuarrel 38 = .ok (.iconst 1, 1) := by decide +kernel
theorem dX8_readQuarrel_39 : decode cX8_readQuarrel 39 = .ok (.goto 4, 3) := by decide +kernel
theorem dX8_readQuarrel_42 : decode cX8_readQuarrel 42 = .ok (.iconst 0, 1) := by decide +kernel
theorem dX8_readQuarrel_43 : decode cX8_readQuarrel 43 = .ok (.iload_n 1, 1) := by decide +kernel
theorem dX8_readQuarrel_44 : decode cX8_readQuarrel 44 = .ok (.invokevirtual 121, 3) := by decide +kernel
theorem dX8_readQuarrel_47 : decode cX8_readQuarrel 47 = .ok (.istore_n 3, 1) := by decide +kernel
theorem dX8_readQuarrel_48 : decode cX8_readQuarrel 48 = .ok (.aload_n 0, 1) := by decide +kernel
theorem dX8_readQuarrel_49 : decode cX8_readQuarrel 49 = .ok (.getfield 104, 3) := by decide +kernel
theorem dX8_readQuarrel_52 : decode cX8_readQuarrel 52 = .ok (.istore_n 1, 1) := by decide +kernel
theorem dX8_readQuarrel_53 : decode cX8_readQuarrel 53 = .ok (.aload_n 0, 1) := by decide +kernel
theorem dX8_readQuarrel_54 : decode cX8_readQuarrel 54 = .ok (.invokevirtual 125, 3) := by decide +kernel
theorem dX8_readQuarrel_57 : decode cX8_readQuarrel 57 = .ok (.istore 4, 2) := by decide +kernel
theorem dX8_readQuarrel_59 : decode cX8_readQuarrel 59 = .ok (.aload_n 0, 1) := by decide +kernel
theorem dX8_readQuarrel_60 : decode cX8_readQuarrel 60 = .ok (.aload_n 0, 1) := by decide +kernel
theorem dX8_readQuarrel_61 : decode cX8_readQuarrel 61 = .ok (.getfield 114, 3) := by decide +kernel
theorem dX8_readQuarrel_64 : decode cX8_readQuarrel 64 = .ok (.bipush (-9), 2) := by decide +kernel
theorem dX8_readQuarrel_66 : decode cX8_readQuarrel 66 = .ok (.if_icmp .ne 18, 3) := by decide +kernel
theorem dX8_readQuarrel_69 : decode cX8_readQuarrel 69 = .ok (.iload 4, 2) := by decide +kernel
theorem dX8_readQuarrel_71 : decode cX8_readQuarrel 71 = .ok (.aload_n 0, 1) := by decide +kernel
theorem dX8_readQuarrel_72 : decode cX8_readQuarrel 72 = .ok (.getfield 134, 3) := by decide +kernel
theorem dX8_readQuarrel_75 : decode cX8_readQuarrel 75 = .ok (.if_icmp .ge 13, 3) := by decide +kernel
theorem dX8_readQuarrel_78 : decode cX8_readQuarrel 78 = .ok (.iload 4, 2) := by decide +kernel
theorem dX8_readQuarrel_80 : decode cX8_readQuarrel 80 = .ok (.iload_n 2, 1) := by decide +kernel
theorem dX8_readQuarrel_81 : decode cX8_readQuarrel 81 = .ok (.if_icmp .eq 7, 3) := by decide +kernel
theorem dX8_readQuarrel_84 : decode cX8_readQuarrel 84 = .ok (.iconst 1, 1) := by decide +kernel
theorem dX8_readQuarrel_85 : decode cX8_readQuarrel 85 = .ok (.goto 4, 3) := by decide +kernel
theorem dX8_readQuarrel_88 : decode cX8_readQuarrel 88 = .ok (.iconst 0, 1) := by decide +kernel
theorem dX8_readQuarrel_89 : decode cX8_readQuarrel 89 = .ok (.iload_n 1, 1) := by decide +kernel
theorem dX8_readQuarrel_90 : decode cX8_readQuarrel 90 = .ok (.invokevirtual 121, 3) := by decide +kernel
theorem dX8_readQuarrel_93 : decode cX8_readQuarrel 93 = .ok (.ifCond .eq 29, 3) := by decide +kernel
theorem dX8_readQuarrel_96 : decode cX8_readQuarrel 96 = .ok (.aload_n 0, 1) := by decide +kernel
theorem dX8_readQuarrel_97 : decode cX8_readQuarrel 97 = .ok (.getfield 59, 3) := by decide +kernel
theorem dX8_readQuarrel_100 : decode cX8_readQuarrel 100 = .ok (.iload_n 2, 1) := by decide +kernel
theorem dX8_readQuarrel_101 : decode cX8_readQuarrel 101 = .ok (.dup2, 1) := by decide +kernel
theorem dX8_readQuarrel_102 : decode cX8_readQuarrel 102 = .ok (.iaload, 1) := by decide +kernel
theorem dX8_readQuarrel_103 : decode cX8_readQuarrel 103 = .ok (.iconst 1, 1) := by decide +kernel
theorem dX8_readQuarrel_104 : decode cX8_readQuarrel 104 = .ok (.iload 4, 2) := by decide +kernel
theorem dX8_readQuarrel_106 : decode cX8_readQuarrel 106 = .ok (.ishl, 1) := by decide +kernel
theorem dX8_readQuarrel_107 : decode cX8_readQuarrel 107 = .ok (.ior, 1) := by decide +kernel
theorem dX8_readQuarrel_108 : decode cX8_readQuarrel 108 = .ok (.iastore, 1) := by decide +kernel
theorem dX8_readQuarrel_109 : decode cX8_readQuarrel 109 = .ok (.aload_n 0, 1) := by decide +kernel
theorem dX8_readQuarrel_110 : decode cX8_readQuarrel 110 = .ok (.getfield 59, 3) := by decide +kernel
theorem dX8_readQuarrel_113 : decode cX8_readQuarrel 113 = .ok (.iload 4, 2) := by decide +kernel
theorem dX8_readQuarrel_115 : decode cX8_readQuarrel 115 = .ok (.dup2, 1) := by decide +kernel
theorem dX8_readQuarrel_116 : decode cX8_readQuarrel 116 = .ok (.iaload, 1) := by decide +kernel
theorem dX8_readQuarrel_117 : decode cX8_readQuarrel 117 = .ok (.iconst 1, 1) := by decide +kernel
theorem dX8_readQuarrel_118 : decode cX8_readQuarrel 118 = .ok (.iload_n 2, 1) := by decide +kernel
theorem dX8_readQuarrel_119 : decode cX8_readQuarrel 119 = .ok (.ishl, 1) := by decide +kernel
theorem dX8_readQuarrel_120 : decode cX8_readQuarrel 120 = .ok (.ior, 1) := by decide +kernel
theorem dX8_readQuarrel_121 : decode cX8_readQuarrel 121 = .ok (.iastore, 1) := by decide +kernel
theorem dX8_readQuarrel_122 : decode cX8_readQuarrel 122 = .ok (.return_, 1) := by decide +kernel
def P_X8_readQuarrel (a0 : Nat) : PM Unit :=
getI 8 18 a0 fun v1 =>
setI 8 18 a0 (v1 + 1) <|
getI 8 18 a0 fun v2 =>
cllV 8 a0 (P_X8_figure a0) fun v3 =>
getI 8 19 a0 fun v4 =>
jn (fun (j5 : Nat) (j6 : Int32) =>
cllV 8 j5 (P_X8_want j5 j6 v2) fun v7 =>
getI 8 18 a0 fun v8 =>
cllV 8 a0 (P_X8_figure a0) fun v9 =>
getI 8 19 a0 fun v10 =>
jn (fun (j11 : Nat) (j12 : Int32) =>
cllV 8 j11 (P_X8_want j11 j12 v8) fun v13 =>
ifB (decide (v13 = 0)) (
pureM ()) (
getR 8 27 a0 fun v14 =>
ald v14 v3 fun v15 =>
ast v14 v3 (v15 ||| (1 <<< (v9 &&& 31))) <|
getR 8 27 a0 fun v16 =>
ald v16 v9 fun v17 =>
ast v16 v9 (v17 ||| (1 <<< (v3 &&& 31))) <|
pureM ())) fun k18 =>
jn (fun (j19 : Nat) =>
k18 j19 1) fun k20 =>
ifB (decide (¬ v10 = ((-9)))) (
k20 a0) (
getI 8 21 a0 fun v21 =>
jn (fun (j22 : Nat) =>
k18 j22 0) fun k23 =>
ifB (decide (v21 ≤ v9)) (
k23 a0) (
ifB (decide (v9 = v3)) (
k23 a0) (
k20 a0)))) fun k24 =>
jn (fun (j25 : Nat) =>
k24 j25 1) fun k26 =>
ifB (decide (¬ v4 = ((-9)))) (
k26 a0) (
getI 8 21 a0 fun v27 =>
ifB (decide (v27 ≤ v3)) (
k24 a0 0) (
k26 a0))
set_option maxHeartbeats 4000000 in
set_option maxRecDepth 100000 in
theorem W_X8_readQuarrel {Γ : Cx} (ok : OKc Γ cX8_readQuarrel RX8 2 "readQuarrel") (okr : OKr Γ cX8_readQuarrel (none)) (a0 : Nat) : SW Γ iU 0 [some (.ref a0), none, none, none, none] [] (P_X8_readQuarrel a0) := by
  unfold P_X8_readQuarrel
  refine sw_aload_n (z := a0) (pc' := 1) ok dX8_readQuarrel_0 rfl rfl ?_
  refine sw_dup (pc' := 2) ok dX8_readQuarrel_1 rfl rfl ?_
  refine sw_getI (pc' := 5) ok (fr_X8_104.g) dX8_readQuarrel_2 rfl (fun v1 => ?_)
  refine sw_iconst (v := 1) (pc' := 6) ok dX8_readQuarrel_5 rfl cc_iconst_1 ?_
  refine sw_iadd (pc' := 7) ok dX8_readQuarrel_6 rfl ?_
  refine sw_setI (pc' := 10) ok fr_X8_104 dX8_readQuarrel_7 (fun h => by cases h) rfl ?_
  refine sw_aload_n (z := a0) (pc' := 11) ok dX8_readQuarrel_10 rfl rfl ?_
  refine sw_getI (pc' := 14) ok (fr_X8_104.g) dX8_readQuarrel_11 rfl (fun v2 => ?_)
  refine sw_istore_n (pc' := 15) (l' := [some (.ref a0), some (.int v2), none, none, none]) ok dX8_readQuarrel_14 rfl (Nat.le_of_ble_eq_true rfl) rfl ?_
  refine sw_aload_n (z := a0) (pc' := 16) ok dX8_readQuarrel_15 rfl rfl ?_
  refine sw_cllV_I (st := []) (as := []) (pc' := 19) ok (S_X8_figure a0) (by decide) lk_X8_125 rfl dX8_readQuarrel_16 rfl (Nat.le_of_ble_eq_true rfl) rfl (fun v3 => ?_)
  refine sw_istore_n (pc' := 20) (l' := [some (.ref a0), some (.int v2), some (.int v3), none, none]) ok dX8_readQuarrel_19 rfl (Nat.le_of_ble_eq_true rfl) rfl ?_
  refine sw_aload_n (z := a0) (pc' := 21) ok dX8_readQuarrel_20 rfl rfl ?_
  refine sw_aload_n (z := a0) (pc' := 22) ok dX8_readQuarrel_21 rfl rfl ?_
  refine sw_getI (pc' := 25) ok (fr_X8_114.g) dX8_readQuarrel_22 rfl (fun v4 => ?_)
  refine sw_bipush (v := (-9)) (pc' := 27) ok dX8_readQuarrel_25 rfl cc_bipush_m9 ?_
  refine sw_jn (fun k24 : Nat → Int32 → PM Unit => ∀ (j5 : Nat) (j6 : Int32), SW Γ iU 43 [some (.ref a0), some (.int v2), some (.int v3), none, none] [.int j6, .ref j5] (k24 j5 j6)) ?_ (fun k24 hk24 => ?_)
  · intro j5 j6
    refine sw_iload_n (z := v2) (pc' := 44) ok dX8_readQuarrel_43 rfl rfl ?_
    refine sw_cllV_I (st := []) (as := [.int j6, .int v2]) (pc' := 47) ok (S_X8_want j5 j6 v2) (by decide) lk_X8_121 rfl dX8_readQuarrel_44 rfl (Nat.le_of_ble_eq_true rfl) rfl (fun v7 => ?_)
    refine sw_istore_n (pc' := 48) (l' := [some (.ref a0), some (.int v2), some (.int v3), some (.int v7), none]) ok dX8_readQuarrel_47 rfl (Nat.le_of_ble_eq_true rfl) rfl ?_
    refine sw_aload_n (z := a0) (pc' := 49) ok dX8_readQuarrel_48 rfl rfl ?_
    refine sw_getI (pc' := 52) ok (fr_X8_104.g) dX8_readQuarrel_49 rfl (fun v8 => ?_)
    refine sw_istore_n (pc' := 53) (l' := [some (.ref a0), some (.int v8), some (.int v3), some (.int v7), none]) ok dX8_readQuarrel_52 rfl (Nat.le_of_ble_eq_true rfl) rfl ?_
    refine sw_aload_n (z := a0) (pc' := 54) ok dX8_readQuarrel_53 rfl rfl ?_
    refine sw_cllV_I (st := []) (as := []) (pc' := 57) ok (S_X8_figure a0) (by decide) lk_X8_125 rfl dX8_readQuarrel_54 rfl (Nat.le_of_ble_eq_true rfl) rfl (fun v9 => ?_)
    refine sw_istore (pc' := 59) (l' := [some (.ref a0), some (.int v8), some (.int v3), some (.int v7), some (.int v9)]) ok dX8_readQuarrel_57 rfl (Nat.le_of_ble_eq_true rfl) rfl ?_
    refine sw_aload_n (z := a0) (pc' := 60) ok dX8_readQuarrel_59 rfl rfl ?_
    refine sw_aload_n (z := a0) (pc' := 61) ok dX8_readQuarrel_60 rfl rfl ?_
    refine sw_getI (pc' := 64) ok (fr_X8_114.g) dX8_readQuarrel_61 rfl (fun v10 => ?_)
    refine sw_bipush (v := (-9)) (pc' := 66) ok dX8_readQuarrel_64 rfl cc_bipush_m9 ?_
    refine sw_jn (fun k18 : Nat → Int32 → PM Unit => ∀ (j11 : Nat) (j12 : Int32), SW Γ iU 89 [some (.ref a0), some (.int v8), some (.int v3), none, some (.int v9)] [.int j12, .ref j11] (k18 j11 j12)) ?_ (fun k18 hk18 => ?_)
    · intro j11 j12
      refine sw_iload_n (z := v8) (pc' := 90) ok dX8_readQuarrel_89 rfl rfl ?_
      refine sw_cllV_I (st := []) (as := [.int j12, .int v8]) (pc' := 93) ok (S_X8_want j11 j12 v8) (by decide) lk_X8_121 rfl dX8_readQuarrel_90 rfl (Nat.le_of_ble_eq_true rfl) rfl (fun v13 => ?_)
      refine sw_if_eq (tgt := 122) (pc' := 96) ok dX8_readQuarrel_93 (by decide) rfl ?_ ?_
      · exact sw_ret ok okr dX8_readQuarrel_122 trivial rfl
      refine sw_aload_n (z := a0) (pc' := 97) ok dX8_readQuarrel_96 rfl rfl ?_
      refine sw_getR (pc' := 100) ok (fr_X8_59.g) dX8_readQuarrel_97 rfl (fun v14 => ?_)
      refine sw_iload_n (z := v3) (pc' := 101) ok dX8_readQuarrel_100 rfl rfl ?_
      refine sw_dup2 (pc' := 102) ok dX8_readQuarrel_101 rfl rfl rfl ?_
      refine sw_ald (pc' := 103) ok dX8_readQuarrel_102 rfl (fun v15 => ?_)
      refine sw_iconst (v := 1) (pc' := 104) ok dX8_readQuarrel_103 rfl cc_iconst_1 ?_
      refine sw_iload (z := v9) (pc' := 106) ok dX8_readQuarrel_104 rfl rfl ?_
      refine sw_ishl (pc' := 107) ok dX8_readQuarrel_106 rfl ?_
      refine sw_ior (pc' := 108) ok dX8_readQuarrel_107 rfl ?_
      refine sw_ast (pc' := 109) ok dX8_readQuarrel_108 rfl ?_
      refine sw_aload_n (z := a0) (pc' := 110) ok dX8_readQuarrel_109 rfl rfl ?_
      refine sw_getR (pc' := 113) ok (fr_X8_59.g) dX8_readQuarrel_110 rfl (fun v16 => ?_)
      refine sw_iload (z := v9) (pc' := 115) ok dX8_readQuarrel_113 rfl rfl ?_
      refine sw_dup2 (pc' := 116) ok dX8_readQuarrel_115 rfl rfl rfl ?_
      refine sw_ald (pc' := 117) ok dX8_readQuarrel_116 rfl (fun v17 => ?_)
      refine sw_iconst (v := 1) (pc' := 118) ok dX8_readQuarrel_117 rfl cc_iconst_1 ?_
      refine sw_iload_n (z := v3) (pc' := 119) ok dX8_readQuarrel_118 rfl rfl ?_
      refine sw_ishl (pc' := 120) ok dX8_readQuarrel_119 rfl ?_
      refine sw_ior (pc' := 121) ok dX8_readQuarrel_120 rfl ?_
      refine sw_ast (pc' := 122) ok dX8_readQuarrel_121 rfl ?_
      exact sw_ret ok okr dX8_readQuarrel_122 trivial rfl
    refine sw_jn (fun k20 : Nat → PM Unit => ∀ (j19 : Nat), SW Γ iU 84 [some (.ref a0), some (.int v8), some (.int v3), none, some (.int v9)] [.ref j19] (k20 j19)) ?_ (fun k20 hk20 => ?_)
    · intro j19
      refine sw_iconst (v := 1) (pc' := 85) ok dX8_readQuarrel_84 rfl cc_iconst_1 ?_
      refine sw_goto (tgt := 89) ok dX8_readQuarrel_85 (by decide) ?_
      exact hk18 j19 1
    refine sw_icmp_ne (tgt := 84) (pc' := 69) ok dX8_readQuarrel_66 (by decide) rfl ?_ ?_
    · refine sw_fg (l' := [some (.ref a0), some (.int v8), some (.int v3), none, some (.int v9)]) [true, true, true, false, true] rfl ?_
      exact hk20 a0
    refine sw_iload (z := v9) (pc' := 71) ok dX8_readQuarrel_69 rfl rfl ?_
    refine sw_aload_n (z := a0) (pc' := 72) ok dX8_readQuarrel_71 rfl rfl ?_
    refine sw_getI (pc' := 75) ok (fr_X8_134.g) dX8_readQuarrel_72 rfl (fun v21 => ?_)
    refine sw_jn (fun k23 : Nat → PM Unit => ∀ (j22 : Nat), SW Γ iU 88 [some (.ref a0), some (.int v8), some (.int v3), none, some (.int v9)] [.ref j22] (k23 j22)) ?_ (fun k23 hk23 => ?_)
    · intro j22
      refine sw_iconst (v := 0) (pc' := 89) ok dX8_readQuarrel_88 rfl cc_iconst_0 ?_
      exact hk18 j22 0
    refine sw_icmp_ge (tgt := 88) (pc' := 78) ok dX8_readQuarrel_75 (by decide) rfl ?_ ?_
    · refine sw_fg (l' := [some (.ref a0), some (.int v8), some (.int v3), none, some (.int v9)]) [true, true, true, false, true] rfl ?_
      exact hk23 a0
    refine sw_iload (z := v9) (pc' := 80) ok dX8_readQuarrel_78 rfl rfl ?_
    refine sw_iload_n (z := v3) (pc' := 81) ok dX8_readQuarrel_80 rfl rfl ?_
    refine sw_icmp_eq (tgt := 88) (pc' := 84) ok dX8_readQuarrel_81 (by decide) rfl ?_ ?_
    · refine sw_fg (l' := [some (.ref a0), some (.int v8), some (.int v3), none, some (.int v9)]) [true, true, true, false, true] rfl ?_
      exact hk23 a0
    refine sw_fg (l' := [some (.ref a0), some (.int v8), some (.int v3), none, some (.int v9)]) [true, true, true, false, true] rfl ?_
    exact hk20 a0
  refine sw_jn (fun k26 : Nat → PM Unit => ∀ (j25 : Nat), SW Γ iU 38 [some (.ref a0), some (.int v2), some (.int v3), none, none] [.ref j25] (k26 j25)) ?_ (fun k26 hk26 => ?_)
  · intro j25
    refine sw_iconst (v := 1) (pc' := 39) ok dX8_readQuarrel_38 rfl cc_iconst_1 ?_
    refine sw_goto (tgt := 43) ok dX8_readQuarrel_39 (by decide) ?_
    exact hk24 j25 1
  refine sw_icmp_ne (tgt := 38) (pc' := 30) ok dX8_readQuarrel_27 (by decide) rfl ?_ ?_
  · exact hk26 a0
  refine sw_iload_n (z := v3) (pc' := 31) ok dX8_readQuarrel_30 rfl rfl ?_
  refine sw_aload_n (z := a0) (pc' := 32) ok dX8_readQuarrel_31 rfl rfl ?_
  refine sw_getI (pc' := 35) ok (fr_X8_134.g) dX8_readQuarrel_32 rfl (fun v27 => ?_)
  refine sw_icmp_ge (tgt := 42) (pc' := 38) ok dX8_readQuarrel_35 (by decide) rfl ?_ ?_
  · refine sw_iconst (v := 0) (pc' := 43) ok dX8_readQuarrel_42 rfl cc_iconst_0 ?_
    exact hk24 a0 0
  exact hk26 a0
theorem S_X8_readQuarrel (a0 : Nat) : Sim 2 yX8_readQuarrel cX8_readQuarrel 5 (none) iU [.ref a0] (P_X8_readQuarrel a0) := Sim.intro wd_1084 (by decide) (by decide +kernel) (Nat.le_of_ble_eq_true rfl) (fun Γ ok okr => W_X8_readQuarrel ok okr a0)
theorem dX8_read_0 : decode cX8_read 0 = .ok (.aload_n 0, 1) := by decide +kernel
theorem dX8_read_1 : decode cX8_read 1 = .ok (.iload_n 1, 1) := by decide +kernel
theorem dX8_read_2 : decode cX8_read 2 = .ok (.putfield 107, 3) := by decide +kernel
theorem dX8_read_5 : decode cX8_read 5 = .ok (.aload_n 0, 1) := by decide +kernel
theorem dX8_read_6 : decode cX8_read 6 = .ok (.iconst 0, 1) := by decide +kernel
theorem dX8_read_7 : decode cX8_read 7 = .ok (.putfield 104, 3) := by decide +kernel
theorem dX8_read_10 : decode cX8_read 10 = .ok (.aload_n 0, 1) := by decide +kernel
theorem dX8_read_11 : decode cX8_read 11 = .ok (.bipush (-9), 2) := by decide +kernel
theorem dX8_read_13 : decode cX8_read 13 = .ok (.putfield 114, 3) := by decide +kernel
theorem dX8_read_16 : decode cX8_read 16 = .ok (.aload_n 0, 1) := by decide +kernel
theorem dX8_read_17 : decode cX8_read 17 = .ok (.iconst 0, 1) := by decide +kernel
theorem dX8_read_18 : decode cX8_read 18 = .ok (.putfield 134, 3) := by decide +kernel
theorem dX8_read_21 : decode cX8_read 21 = .ok (.aload_n 0, 1) := by decide +kernel
theorem dX8_read_22 : decode cX8_read 22 = .ok (.invokevirtual 137, 3) := by decide +kernel
theorem dX8_read_25 : decode cX8_read 25 = .ok (.aload_n 0, 1) := by decide +kernel
theorem dX8_read_26 : decode cX8_read 26 = .ok (.invokevirtual 140, 3) := by decide +kernel
theorem dX8_read_29 : decode cX8_read 29 = .ok (.aload_n 0, 1) := by decide +kernel
theorem dX8_read_30 : decode cX8_read 30 = .ok (.invokevirtual 137, 3) := by decide +kernel
theorem dX8_read_33 : decode cX8_read 33 = .ok (.aload_n 0, 1) := by decide +kernel
theorem dX8_read_34 : decode cX8_read 34 = .ok (.getfield 114, 3) := by decide +kernel
theorem dX8_read_37 : decode cX8_read 37 = .ok (.bipush (-9), 2) := by decide +kernel
theorem dX8_read_39 : decode cX8_read 39 = .ok (.if_icmp .ne 74, 3) := by decide +kernel
theorem dX8_read_42 : decode cX8_read 42 = .ok (.aload_n 0, 1) := by decide +kernel
theorem dX8_read_43 : decode cX8_read 43 = .ok (.getfield 104, 3) := by decide +kernel
theorem dX8_read_46 : decode cX8_read 46 = .ok (.aload_n 0, 1) := by decide +kernel
theorem dX8_read_47 : decode cX8_read 47 = .ok (.getfield 19, 3) := by decide +kernel
theorem dX8_read_50 : decode cX8_read 50 = .ok (.iload_n 1, 1) := by decide +kernel
theorem dX8_read_51 : decode cX8_read 51 = .ok (.iaload, 1) := by decide +kernel
theorem dX8_read_52 : decode cX8_read 52 = .ok (.if_icmp .ge 61, 3) := by decide +kernel
theorem dX8_read_55 : decode cX8_read 55 = .ok (.aload_n 0, 1) := by decide +kernel
theorem dX8_read_56 : decode cX8_read 56 = .ok (.invokevirtual 110, 3) := by decide +kernel
theorem dX8_read_59 : decode cX8_read 59 = .ok (.invokestatic 143, 3) := by decide +kernel
theorem dX8_read_62 : decode cX8_read 62 = .ok (.istore_n 2, 1) := by decide +kernel
theorem dX8_read_63 : decode cX8_read 63 = .ok (.iload_n 2, 1) := by decide +kernel
theorem dX8_read_64 : decode cX8_read 64 = .ok (.bipush (-9), 2) := by decide +kernel
theorem dX8_read_66 : decode cX8_read 66 = .ok (.if_icmp .eq 11, 3) := by decide +kernel
theorem dX8_read_69 : decode cX8_read 69 = .ok (.aload_n 0, 1) := by decide +kernel
theorem dX8_read_70 : decode cX8_read 70 = .ok (.iload_n 2, 1) := by decide +kernel
theorem dX8_read_71 : decode cX8_read 71 = .ok (.invokevirtual 146, 3) := by decide +kernel
theorem dX8_read_74 : decode cX8_read 74 = .ok (.goto 32, 3) := by decide +kernel
theorem dX8_read_77 : decode cX8_read 77 = .ok (.aload_n 0, 1) := by decide +kernel
theorem dX8_read_78 : decode cX8_read 78 = .ok (.aload_n 0, 1) := by decide +kernel
theorem dX8_read_79 : decode cX8_read 79 = .ok (.invokevirtual 110, 3) := by decide +kernel
theorem dX8_read_82 : decode cX8_read 82 = .ok (.bipush 113, 2) := by decide +kernel
theorem dX8_read_84 : decode cX8_read 84 = .ok (.if_icmp .ne 7, 3) := by decide +kernel
theorem dX8_read_87 : decode cX8_read 87 = .ok (.iconst 1, 1) := by decide +kernel
theorem dX8_read_88 : decode cX8_read 88 = .ok (.goto 4, 3) := by decide +kernel
theorem dX8_read_91 : decode cX8_read 91 = .ok (.iconst 0, 1) := by decide +kernel
theorem dX8_read_92 : decode cX8_read 92 = .ok (.aload_n 0, 1) := by decide +kernel
theorem dX8_read_93 : decode cX8_read 93 = .ok (.getfield 104, 3) := by decide +kernel
theorem dX8_read_96 : decode cX8_read 96 = .ok (.invokevirtual 121, 3) := by decide +kernel
theorem dX8_read_99 : decode cX8_read 99 = .ok (.ifCond .eq 7, 3) := by decide +kernel
theorem dX8_read_102 : decode cX8_read 102 = .ok (.aload_n 0, 1) := by decide +kernel
theorem dX8_read_103 : decode cX8_read 103 = .ok (.invokevirtual 150, 3) := by decide +kernel
theorem dX8_read_106 : decode cX8_read 106 = .ok (.aload_n 0, 1) := by decide +kernel
theorem dX8_read_107 : decode cX8_read 107 = .ok (.invokevirtual 137, 3) := by decide +kernel
theorem dX8_read_110 : decode cX8_read 110 = .ok (.goto (-77), 3) := by decide +kernel
theorem dX8_read_113 : decode cX8_read 113 = .ok (.aload_n 0, 1) := by decide +kernel
theorem dX8_read_114 : decode cX8_read 114 = .ok (.aload_n 0, 1) := by decide +kernel
theorem dX8_read_115 : decode cX8_read 115 = .ok (.getfield 134, 3) := by decide +kernel
theorem dX8_read_118 : decode cX8_read 118 = .ok (.iconst 1, 1) := by decide +kernel
theorem dX8_read_119 : decode cX8_read 119 = .ok (.if_icmp .le 7, 3) := by decide +kernel
theorem dX8_read_122 : decode cX8_read 122 = .ok (.iconst 1, 1) := by decide +kernel
theorem dX8_read_123 : decode cX8_read 123 = .ok (.goto 4, 3) := by decide +kernel
theorem dX8_read_126 : decode cX8_read 126 = .ok (.iconst 0, 1) := by decide +kernel
theorem dX8_read_127 : decode cX8_read 127 = .ok (.aload_n 0, 1) := by decide +kernel
theorem dX8_read_128 : decode cX8_read 128 = .ok (.getfield 19, 3) := by decide +kernel
theorem dX8_read_131 : decode cX8_read 131 = .ok (.iload_n 1, 1) := by decide +kernel
theorem dX8_read_132 : decode cX8_read 132 = .ok (.iaload, 1) := by decide +kernel
theorem dX8_read_133 : decode cX8_read 133 = .ok (.invokevirtual 121, 3) := by decide +kernel
theorem dX8_read_136 : decode cX8_read 136 = .ok (.istore_n 2, 1) := by decide +kernel
theorem dX8_read_137 : decode cX8_read 137 = .ok (.aload_n 0, 1) := by decide +kernel
theorem dX8_read_138 : decode cX8_read 138 = .ok (.getfield 114, 3) := by decide +kernel
theorem dX8_read_141 : decode cX8_read 141 = .ok (.ireturn, 1) := by decide +kernel
def P_X8_read_33 (k_113 : PM Int32) (p0 : Nat) (p1 : Int32) : Nat → PM Int32
  | 0 => failM
  | n + 1 =>
    getI 8 19 p0 fun v10 =>
    ifB (decide (¬ v10 = ((-9)))) (
    k_113) (
    getI 8 18 p0 fun v11 =>
    getR 8 3 p0 fun v12 =>
    ald v12 p1 fun v13 =>
    ifB (decide (v13 ≤ v11)) (
    k_113) (
    cllV 8 p0 (P_X8_sign p0) fun v14 =>
    cll0 (P_X8_kindOf v14) fun v15 =>
    jn (
    cllV 8 p0 (P_X8_blanks p0) fun _ =>
    P_X8_read_33 k_113 p0 p1 n) fun k16 =>
    ifB (decide (v15 = ((-9)))) (
    cllV 8 p0 (P_X8_sign p0) fun v17 =>
    jn (fun (j18 : Nat) (j19 : Int32) =>
    getI 8 18 p0 fun v20 =>
    cllV 8 j18 (P_X8_want j18 j19 v20) fun v21 =>
    ifB (decide (v21 = 0)) (
    k16) (
    cllV 8 p0 (P_X8_readQuarrel p0) fun _ =>
    k16)) fun k22 =>
    ifB (decide (¬ v17 = 113)) (
    k22 p0 0) (
    k22 p0 1)) (
    cllV 8 p0 (P_X8_readOne p0 v15) fun _ =>
    k16)))
def P_X8_read (a0 : Nat) (x1 : Int32) : PM Int32 :=
setI 8 20 a0 x1 <|
setI 8 18 a0 0 <|
setI 8 19 a0 ((-9)) <|
setI 8 21 a0 0 <|
cllV 8 a0 (P_X8_blanks a0) fun _ =>
cllV 8 a0 (P_X8_readFirst a0) fun _ =>
cllV 8 a0 (P_X8_blanks a0) fun _ =>
jn (
getI 8 21 a0 fun v1 =>
jn (fun (j2 : Nat) (j3 : Int32) =>
getR 8 3 a0 fun v4 =>
ald v4 x1 fun v5 =>
cllV 8 j2 (P_X8_want j2 j3 v5) fun v6 =>
getI 8 19 a0 fun v7 =>
pureM v7) fun k8 =>
ifB (decide (v1 ≤ 1)) (
k8 a0 0) (
k8 a0 1)) fun k9 =>
P_X8_read_33 k9 a0 x1 4000
set_option maxHeartbeats 4000000 in
set_option maxRecDepth 100000 in
theorem W_X8_read_33 {Γ : Cx} (ok : OKc Γ cX8_read RX8 3 "read") (okr : OKr Γ cX8_read (some .int)) (k_113 : PM Int32) (p0 : Nat) (p1 : Int32) (hk_113 : SW Γ iI 113 [some (.ref p0), some (.int p1), none] [] (k_113)) : ∀ (n : Nat), SW Γ iI 33 [some (.ref p0), some (.int p1), none] [] (P_X8_read_33 k_113 p0 p1 n) := by
  intro n
  induction n with
  | zero =>
    intros
    exact sw_fail
  | succ n ih =>
    unfold P_X8_read_33
    refine sw_aload_n (z := p0) (pc' := 34) ok dX8_read_33 rfl rfl ?_
    refine sw_getI (pc' := 37) ok (fr_X8_114.g) dX8_read_34 rfl (fun v10 => ?_)
    refine sw_bipush (v := (-9)) (pc' := 39) ok dX8_read_37 rfl cc_bipush_m9 ?_
    refine sw_icmp_ne (tgt := 113) (pc' := 42) ok dX8_read_39 (by decide) rfl ?_ ?_
    · exact hk_113
    refine sw_aload_n (z := p0) (pc' := 43) ok dX8_read_42 rfl rfl ?_
    refine sw_getI (pc' := 46) ok (fr_X8_104.g) dX8_read_43 rfl (fun v11 => ?_)
    refine sw_aload_n (z := p0) (pc' := 47) ok dX8_read_46 rfl rfl ?_
    refine sw_getR (pc' := 50) ok (fr_X8_19.g) dX8_read_47 rfl (fun v12 => ?_)
    refine sw_iload_n (z := p1) (pc' := 51) ok dX8_read_50 rfl rfl ?_
    refine sw_ald (pc' := 52) ok dX8_read_51 rfl (fun v13 => ?_)
    refine sw_icmp_ge (tgt := 113) (pc' := 55) ok dX8_read_52 (by decide) rfl ?_ ?_
    · exact hk_113
    refine sw_aload_n (z := p0) (pc' := 56) ok dX8_read_55 rfl rfl ?_
    refine sw_cllV_I (st := []) (as := []) (pc' := 59) ok (S_X8_sign p0) (by decide) lk_X8_110 rfl dX8_read_56 rfl (Nat.le_of_ble_eq_true rfl) rfl (fun v14 => ?_)
    refine sw_cll0_I (st := []) (as := [.int v14]) (pc' := 62) ok (S_X8_kindOf v14) (by decide) lk_X8_143 rfl dX8_read_59 rfl (Nat.le_of_ble_eq_true rfl) rfl (fun v15 => ?_)
    refine sw_istore_n (pc' := 63) (l' := [some (.ref p0), some (.int p1), some (.int v15)]) ok dX8_read_62 rfl (Nat.le_of_ble_eq_true rfl) rfl ?_
    refine sw_iload_n (z := v15) (pc' := 64) ok dX8_read_63 rfl rfl ?_
    refine sw_bipush (v := (-9)) (pc' := 66) ok dX8_read_64 rfl cc_bipush_m9 ?_
    refine sw_jn (fun k16 : PM Int32 => SW Γ iI 106 [some (.ref p0), some (.int p1), none] [] (k16)) ?_ (fun k16 hk16 => ?_)
    · refine sw_aload_n (z := p0) (pc' := 107) ok dX8_read_106 rfl rfl ?_
      refine sw_cllV_U (st := []) (as := []) (pc' := 110) ok (S_X8_blanks p0) (by decide) lk_X8_137 rfl dX8_read_107 rfl (Nat.le_of_ble_eq_true rfl) rfl (fun _ => ?_)
      refine sw_goto (tgt := 33) ok dX8_read_110 (by decide) ?_
      exact ih
    refine sw_icmp_eq (tgt := 77) (pc' := 69) ok dX8_read_66 (by decide) rfl ?_ ?_
    · refine sw_aload_n (z := p0) (pc' := 78) ok dX8_read_77 rfl rfl ?_
      refine sw_aload_n (z := p0) (pc' := 79) ok dX8_read_78 rfl rfl ?_
      refine sw_cllV_I (st := [.ref p0]) (as := []) (pc' := 82) ok (S_X8_sign p0) (by decide) lk_X8_110 rfl dX8_read_79 rfl (Nat.le_of_ble_eq_true rfl) rfl (fun v17 => ?_)
      refine sw_bipush (v := 113) (pc' := 84) ok dX8_read_82 rfl cc_bipush_113 ?_
      refine sw_jn (fun k22 : Nat → Int32 → PM Int32 => ∀ (j18 : Nat) (j19 : Int32), SW Γ iI 92 [some (.ref p0), some (.int p1), none] [.int j19, .ref j18] (k22 j18 j19)) ?_ (fun k22 hk22 => ?_)
      · intro j18 j19
        refine sw_aload_n (z := p0) (pc' := 93) ok dX8_read_92 rfl rfl ?_
        refine sw_getI (pc' := 96) ok (fr_X8_104.g) dX8_read_93 rfl (fun v20 => ?_)
        refine sw_cllV_I (st := []) (as := [.int j19, .int v20]) (pc' := 99) ok (S_X8_want j18 j19 v20) (by decide) lk_X8_121 rfl dX8_read_96 rfl (Nat.le_of_ble_eq_true rfl) rfl (fun v21 => ?_)
        refine sw_if_eq (tgt := 106) (pc' := 102) ok dX8_read_99 (by decide) rfl ?_ ?_
        · exact hk16
        refine sw_aload_n (z := p0) (pc' := 103) ok dX8_read_102 rfl rfl ?_
        refine sw_cllV_U (st := []) (as := []) (pc' := 106) ok (S_X8_readQuarrel p0) (by decide) lk_X8_150 rfl dX8_read_103 rfl (Nat.le_of_ble_eq_true rfl) rfl (fun _ => ?_)
        exact hk16
      refine sw_icmp_ne (tgt := 91) (pc' := 87) ok dX8_read_84 (by decide) rfl ?_ ?_
      · refine sw_iconst (v := 0) (pc' := 92) ok dX8_read_91 rfl cc_iconst_0 ?_
        refine sw_fg (l' := [some (.ref p0), some (.int p1), none]) [true, true, false] rfl ?_
        exact hk22 p0 0
      refine sw_iconst (v := 1) (pc' := 88) ok dX8_read_87 rfl cc_iconst_1 ?_
      refine sw_goto (tgt := 92) ok dX8_read_88 (by decide) ?_
      refine sw_fg (l' := [some (.ref p0), some (.int p1), none]) [true, true, false] rfl ?_
      exact hk22 p0 1
    refine sw_aload_n (z := p0) (pc' := 70) ok dX8_read_69 rfl rfl ?_
    refine sw_iload_n (z := v15) (pc' := 71) ok dX8_read_70 rfl rfl ?_
    refine sw_cllV_U (st := []) (as := [.int v15]) (pc' := 74) ok (S_X8_readOne p0 v15) (by decide) lk_X8_146 rfl dX8_read_71 rfl (Nat.le_of_ble_eq_true rfl) rfl (fun _ => ?_)
    refine sw_goto (tgt := 106) ok dX8_read_74 (by decide) ?_
    refine sw_fg (l' := [some (.ref p0), some (.int p1), none]) [true, true, false] rfl ?_
    exact hk16
set_option maxHeartbeats 4000000 in
set_option maxRecDepth 100000 in
theorem W_X8_read {Γ : Cx} (ok : OKc Γ cX8_read RX8 3 "read") (okr : OKr Γ cX8_read (some .int)) (a0 : Nat) (x1 : Int32) : SW Γ iI 0 [some (.ref a0), some (.int x1), none] [] (P_X8_read a0 x1) := by
  unfold P_X8_read
  refine sw_aload_n (z := a0) (pc' := 1) ok dX8_read_0 rfl rfl ?_
  refine sw_iload_n (z := x1) (pc' := 2) ok dX8_read_1 rfl rfl ?_
  refine sw_setI (pc' := 5) ok fr_X8_107 dX8_read_2 (fun h => by cases h) rfl ?_
  refine sw_aload_n (z := a0) (pc' := 6) ok dX8_read_5 rfl rfl ?_
  refine sw_iconst (v := 0) (pc' := 7) ok dX8_read_6 rfl cc_iconst_0 ?_
  refine sw_setI (pc' := 10) ok fr_X8_104 dX8_read_7 (fun h => by cases h) rfl ?_
  refine sw_aload_n (z := a0) (pc' := 11) ok dX8_read_10 rfl rfl ?_
  refine sw_bipush (v := (-9)) (pc' := 13) ok dX8_read_11 rfl cc_bipush_m9 ?_
  refine sw_setI (pc' := 16) ok fr_X8_114 dX8_read_13 (fun h => by cases h) rfl ?_
  refine sw_aload_n (z := a0) (pc' := 17) ok dX8_read_16 rfl rfl ?_
  refine sw_iconst (v := 0) (pc' := 18) ok dX8_read_17 rfl cc_iconst_0 ?_
  refine sw_setI (pc' := 21) ok fr_X8_134 dX8_read_18 (fun h => by cases h) rfl ?_
  refine sw_aload_n (z := a0) (pc' := 22) ok dX8_read_21 rfl rfl ?_
  refine sw_cllV_U (st := []) (as := []) (pc' := 25) ok (S_X8_blanks a0) (by decide) lk_X8_137 rfl dX8_read_22 rfl (Nat.le_of_ble_eq_true rfl) rfl (fun _ => ?_)
  refine sw_aload_n (z := a0) (pc' := 26) ok dX8_read_25 rfl rfl ?_
  refine sw_cllV_U (st := []) (as := []) (pc' := 29) ok (S_X8_readFirst a0) (by decide) lk_X8_140 rfl dX8_read_26 rfl (Nat.le_of_ble_eq_true rfl) rfl (fun _ => ?_)
  refine sw_aload_n (z := a0) (pc' := 30) ok dX8_read_29 rfl rfl ?_
  refine sw_cllV_U (st := []) (as := []) (pc' := 33) ok (S_X8_blanks a0) (by decide) lk_X8_137 rfl dX8_read_30 rfl (Nat.le_of_ble_eq_true rfl) rfl (fun _ => ?_)
  refine sw_jn (fun k9 : PM Int32 => SW Γ iI 113 [some (.ref a0), some (.int x1), none] [] (k9)) ?_ (fun k9 hk9 => ?_)
  · refine sw_aload_n (z := a0) (pc' := 114) ok dX8_read_113 rfl rfl ?_
    refine sw_aload_n (z := a0) (pc' := 115) ok dX8_read_114 rfl rfl ?_
    refine sw_getI (pc' := 118) ok (fr_X8_134.g) dX8_read_115 rfl (fun v1 => ?_)
    refine sw_iconst (v := 1) (pc' := 119) ok dX8_read_118 rfl cc_iconst_1 ?_
    refine sw_jn (fun k8 : Nat → Int32 → PM Int32 => ∀ (j2 : Nat) (j3 : Int32), SW Γ iI 127 [some (.ref a0), some (.int x1), none] [.int j3, .ref j2] (k8 j2 j3)) ?_ (fun k8 hk8 => ?_)
    · intro j2 j3
      refine sw_aload_n (z := a0) (pc' := 128) ok dX8_read_127 rfl rfl ?_
      refine sw_getR (pc' := 131) ok (fr_X8_19.g) dX8_read_128 rfl (fun v4 => ?_)
      refine sw_iload_n (z := x1) (pc' := 132) ok dX8_read_131 rfl rfl ?_
      refine sw_ald (pc' := 133) ok dX8_read_132 rfl (fun v5 => ?_)
      refine sw_cllV_I (st := []) (as := [.int j3, .int v5]) (pc' := 136) ok (S_X8_want j2 j3 v5) (by decide) lk_X8_121 rfl dX8_read_133 rfl (Nat.le_of_ble_eq_true rfl) rfl (fun v6 => ?_)
      refine sw_istore_n (pc' := 137) (l' := [some (.ref a0), some (.int x1), some (.int v6)]) ok dX8_read_136 rfl (Nat.le_of_ble_eq_true rfl) rfl ?_
      refine sw_aload_n (z := a0) (pc' := 138) ok dX8_read_137 rfl rfl ?_
      refine sw_getI (pc' := 141) ok (fr_X8_114.g) dX8_read_138 rfl (fun v7 => ?_)
      exact sw_ret ok okr dX8_read_141 trivial rfl
    refine sw_icmp_le (tgt := 126) (pc' := 122) ok dX8_read_119 (by decide) rfl ?_ ?_
    · refine sw_iconst (v := 0) (pc' := 127) ok dX8_read_126 rfl cc_iconst_0 ?_
      exact hk8 a0 0
    refine sw_iconst (v := 1) (pc' := 123) ok dX8_read_122 rfl cc_iconst_1 ?_
    refine sw_goto (tgt := 127) ok dX8_read_123 (by decide) ?_
    exact hk8 a0 1
  exact W_X8_read_33 ok okr k9 a0 x1 hk9 4000
theorem S_X8_read (a0 : Nat) (x1 : Int32) : Sim 3 yX8_read cX8_read 3 (some .int) iI [.ref a0, .int x1] (P_X8_read a0 x1) := Sim.intro wd_1085 (by decide) (by decide +kernel) (Nat.le_of_ble_eq_true rfl) (fun Γ ok okr => W_X8_read ok okr a0 x1)
theorem dX8_fault_0 : decode cX8_fault 0 = .ok (.iload_n 1, 1) := by decide +kernel
theorem dX8_fault_1 : decode cX8_fault 1 = .ok (.invokestatic 101, 3) := by decide +kernel
theorem dX8_fault_4 : decode cX8_fault 4 = .ok (.ifCond .ne 5, 3) := by decide +kernel
theorem dX8_fault_7 : decode cX8_fault 7 = .ok (.iconst (-1), 1) := by decide +kernel
theorem dX8_fault_8 : decode cX8_fault 8 = .ok (.ireturn, 1) := by decide +kernel
theorem dX8_fault_9 : decode cX8_fault 9 = .ok (.aload_n 0, 1) := by decide +kernel
theorem dX8_fault_10 : decode cX8_fault 10 = .ok (.getfield 19, 3) := by decide +kernel
theorem dX8_fault_13 : decode cX8_fault 13 = .ok (.iload_n 1, 1) := by decide +kernel
theorem dX8_fault_14 : decode cX8_fault 14 = .ok (.iaload, 1) := by decide +kernel
theorem dX8_fault_15 : decode cX8_fault 15 = .ok (.ifCond .ge 11, 3) := by decide +kernel
theorem dX8_fault_18 : decode cX8_fault 18 = .ok (.aload_n 0, 1) := by decide +kernel
theorem dX8_fault_19 : decode cX8_fault 19 = .ok (.iconst 1, 1) := by decide +kernel
theorem dX8_fault_20 : decode cX8_fault 20 = .ok (.invokevirtual 90, 3) := by decide +kernel
theorem dX8_fault_23 : decode cX8_fault 23 = .ok (.goto 8, 3) := by decide +kernel
theorem dX8_fault_26 : decode cX8_fault 26 = .ok (.aload_n 0, 1) := by decide +kernel
theorem dX8_fault_27 : decode cX8_fault 27 = .ok (.iload_n 1, 1) := by decide +kernel
theorem dX8_fault_28 : decode cX8_fault 28 = .ok (.invokevirtual 153, 3) := by decide +kernel
theorem dX8_fault_31 : decode cX8_fault 31 = .ok (.ireturn, 1) := by decide +kernel
def P_X8_fault (a0 : Nat) (x1 : Int32) : PM Int32 :=
cll0 (P_X8_isText x1) fun v1 =>
ifB (decide (¬ v1 = 0)) (
getR 8 3 a0 fun v2 =>
ald v2 x1 fun v3 =>
ifB (decide (0 ≤ v3)) (
cllV 8 a0 (P_X8_read a0 x1) fun v4 =>
pureM v4) (
cllV 8 a0 (P_X8_refuse a0 1) fun v5 =>
pureM v5)) (
pureM ((-1)))
set_option maxHeartbeats 4000000 in
set_option maxRecDepth 100000 in
theorem W_X8_fault {Γ : Cx} (ok : OKc Γ cX8_fault RX8 4 "fault") (okr : OKr Γ cX8_fault (some .int)) (a0 : Nat) (x1 : Int32) : SW Γ iI 0 [some (.ref a0), some (.int x1)] [] (P_X8_fault a0 x1) := by
  unfold P_X8_fault
  refine sw_iload_n (z := x1) (pc' := 1) ok dX8_fault_0 rfl rfl ?_
  refine sw_cll0_I (st := []) (as := [.int x1]) (pc' := 4) ok (S_X8_isText x1) (by decide) lk_X8_101 rfl dX8_fault_1 rfl (Nat.le_of_ble_eq_true rfl) rfl (fun v1 => ?_)
  refine sw_if_ne (tgt := 9) (pc' := 7) ok dX8_fault_4 (by decide) rfl ?_ ?_
  · refine sw_aload_n (z := a0) (pc' := 10) ok dX8_fault_9 rfl rfl ?_
    refine sw_getR (pc' := 13) ok (fr_X8_19.g) dX8_fault_10 rfl (fun v2 => ?_)
    refine sw_iload_n (z := x1) (pc' := 14) ok dX8_fault_13 rfl rfl ?_
    refine sw_ald (pc' := 15) ok dX8_fault_14 rfl (fun v3 => ?_)
    refine sw_if_ge (tgt := 26) (pc' := 18) ok dX8_fault_15 (by decide) rfl ?_ ?_
    · refine sw_aload_n (z := a0) (pc' := 27) ok dX8_fault_26 rfl rfl ?_
      refine sw_iload_n (z := x1) (pc' := 28) ok dX8_fault_27 rfl rfl ?_
      refine sw_cllV_I (st := []) (as := [.int x1]) (pc' := 31) ok (S_X8_read a0 x1) (by decide) lk_X8_153 rfl dX8_fault_28 rfl (Nat.le_of_ble_eq_true rfl) rfl (fun v4 => ?_)
      exact sw_ret ok okr dX8_fault_31 trivial rfl
    refine sw_aload_n (z := a0) (pc' := 19) ok dX8_fault_18 rfl rfl ?_
    refine sw_iconst (v := 1) (pc' := 20) ok dX8_fault_19 rfl cc_iconst_1 ?_
    refine sw_cllV_I (st := []) (as := [.int 1]) (pc' := 23) ok (S_X8_refuse a0 1) (by decide) lk_X8_90 rfl dX8_fault_20 rfl (Nat.le_of_ble_eq_true rfl) rfl (fun v5 => ?_)
    refine sw_goto (tgt := 31) ok dX8_fault_23 (by decide) ?_
    exact sw_ret ok okr dX8_fault_31 trivial rfl
  refine sw_iconst (v := (-1)) (pc' := 8) ok dX8_fault_7 rfl cc_iconst_m1 ?_
  exact sw_ret ok okr dX8_fault_8 trivial rfl
theorem S_X8_fault (a0 : Nat) (x1 : Int32) : Sim 4 yX8_fault cX8_fault 2 (some .int) iI [.ref a0, .int x1] (P_X8_fault a0 x1) := Sim.intro wd_1086 (by decide) (by decide +kernel) (Nat.le_of_ble_eq_true rfl) (fun Γ ok okr => W_X8_fault ok okr a0 x1)
theorem dX8_bridge_0 : decode cX8_bridge 0 = .ok (.iload_n 1, 1) := by decide +kernel
theorem dX8_bridge_1 : decode cX8_bridge 1 = .ok (.invokestatic 101, 3) := by decide +kernel
theorem dX8_bridge_4 : decode cX8_bridge 4 = .ok (.ifCond .ne 5, 3) := by decide +kernel
theorem dX8_bridge_7 : decode cX8_bridge 7 = .ok (.iconst (-1), 1) := by decide +kernel
theorem dX8_bridge_8 : decode cX8_bridge 8 = .ok (.ireturn, 1) := by decide +kernel
theorem dX8_bridge_9 : decode cX8_bridge 9 = .ok (.aload_n 0, 1) := by decide +kernel
theorem dX8_bridge_10 : decode cX8_bridge 10 = .ok (.getfield 19, 3) := by decide +kernel
theorem dX8_bridge_13 : decode cX8_bridge 13 = .ok (.iload_n 1, 1) := by decide +kernel
theorem dX8_bridge_14 : decode cX8_bridge 14 = .ok (.iaload, 1) := by decide +kernel
theorem dX8_bridge_15 : decode cX8_bridge 15 = .ok (.ifCond .ge 9, 3) := by decide +kernel
theorem dX8_bridge_18 : decode cX8_bridge 18 = .ok (.aload_n 0, 1) := by decide +kernel
theorem dX8_bridge_19 : decode cX8_bridge 19 = .ok (.iconst 1, 1) := by decide +kernel
theorem dX8_bridge_20 : decode cX8_bridge 20 = .ok (.invokevirtual 90, 3) := by decide +kernel
theorem dX8_bridge_23 : decode cX8_bridge 23 = .ok (.ireturn, 1) := by decide +kernel
theorem dX8_bridge_24 : decode cX8_bridge 24 = .ok (.aload_n 0, 1) := by decide +kernel
theorem dX8_bridge_25 : decode cX8_bridge 25 = .ok (.iload_n 1, 1) := by decide +kernel
theorem dX8_bridge_26 : decode cX8_bridge 26 = .ok (.invokevirtual 153, 3) := by decide +kernel
theorem dX8_bridge_29 : decode cX8_bridge 29 = .ok (.bipush (-9), 2) := by decide +kernel
theorem dX8_bridge_31 : decode cX8_bridge 31 = .ok (.if_icmp .eq 6, 3) := by decide +kernel
theorem dX8_bridge_34 : decode cX8_bridge 34 = .ok (.bipush (-4), 2) := by decide +kernel
theorem dX8_bridge_36 : decode cX8_bridge 36 = .ok (.ireturn, 1) := by decide +kernel
theorem dX8_bridge_37 : decode cX8_bridge 37 = .ok (.aload_n 0, 1) := by decide +kernel
theorem dX8_bridge_38 : decode cX8_bridge 38 = .ok (.aload_n 0, 1) := by decide +kernel
theorem dX8_bridge_39 : decode cX8_bridge 39 = .ok (.getfield 134, 3) := by decide +kernel
theorem dX8_bridge_42 : decode cX8_bridge 42 = .ok (.putfield 156, 3) := by decide +kernel
theorem dX8_bridge_45 : decode cX8_bridge 45 = .ok (.iconst 0, 1) := by decide +kernel
theorem dX8_bridge_46 : decode cX8_bridge 46 = .ok (.istore_n 2, 1) := by decide +kernel
theorem dX8_bridge_47 : decode cX8_bridge 47 = .ok (.iload_n 2, 1) := by decide +kernel
theorem dX8_bridge_48 : decode cX8_bridge 48 = .ok (.bipush 6, 2) := by decide +kernel
theorem dX8_bridge_50 : decode cX8_bridge 50 = .ok (.if_icmp .ge 57, 3) := by decide +kernel
theorem dX8_bridge_53 : decode cX8_bridge 53 = .ok (.aload_n 0, 1) := by decide +kernel
theorem dX8_bridge_54 : decode cX8_bridge 54 = .ok (.getfield 28, 3) := by decide +kernel
theorem dX8_bridge_57 : decode cX8_bridge 57 = .ok (.iload_n 2, 1) := by decide +kernel
theorem dX8_bridge_58 : decode cX8_bridge 58 = .ok (.aload_n 0, 1) := by decide +kernel
theorem dX8_bridge_59 : decode cX8_bridge 59 = .ok (.getfield 50, 3) := by decide +kernel
theorem dX8_bridge_62 : decode cX8_bridge 62 = .ok (.iload_n 2, 1) := by decide +kernel
theorem dX8_bridge_63 : decode cX8_bridge 63 = .ok (.iaload, 1) := by decide +kernel
theorem dX8_bridge_64 : decode cX8_bridge 64 = .ok (.iastore, 1) := by decide +kernel
theorem dX8_bridge_65 : decode cX8_bridge 65 = .ok (.aload_n 0, 1) := by decide +kernel
theorem dX8_bridge_66 : decode cX8_bridge 66 = .ok (.getfield 31, 3) := by decide +kernel
theorem dX8_bridge_69 : decode cX8_bridge 69 = .ok (.iload_n 2, 1) := by decide +kernel
theorem dX8_bridge_70 : decode cX8_bridge 70 = .ok (.aload_n 0, 1) := by decide +kernel
theorem dX8_bridge_71 : decode cX8_bridge 71 = .ok (.getfield 53, 3) := by decide +kernel
theorem dX8_bridge_74 : decode cX8_bridge 74 = .ok (.iload_n 2, 1) := by decide +kernel
theorem dX8_bridge_75 : decode cX8_bridge 75 = .ok (.iaload, 1) := by decide +kernel
theorem dX8_bridge_76 : decode cX8_bridge 76 = .ok (.iastore, 1) := by decide +kernel
theorem dX8_bridge_77 : decode cX8_bridge 77 = .ok (.aload_n 0, 1) := by decide +kernel
theorem dX8_bridge_78 : decode cX8_bridge 78 = .ok (.getfield 34, 3) := by decide +kernel
theorem dX8_bridge_81 : decode cX8_bridge 81 = .ok (.iload_n 2, 1) := by decide +kernel
theorem dX8_bridge_82 : decode cX8_bridge 82 = .ok (.aload_n 0, 1) := by decide +kernel
theorem dX8_bridge_83 : decode cX8_bridge 83 = .ok (.getfield 56, 3) := by decide +kernel
theorem dX8_bridge_86 : decode cX8_bridge 86 = .ok (.iload_n 2, 1) := by decide +kernel
theorem dX8_bridge_87 : decode cX8_bridge 87 = .ok (.iaload, 1) := by decide +kernel
theorem dX8_bridge_88 : decode cX8_bridge 88 = .ok (.iastore, 1) := by decide +kernel
theorem dX8_bridge_89 : decode cX8_bridge 89 = .ok (.aload_n 0, 1) := by decide +kernel
theorem dX8_bridge_90 : decode cX8_bridge 90 = .ok (.getfield 37, 3) := by decide +kernel
theorem dX8_bridge_93 : decode cX8_bridge 93 = .ok (.iload_n 2, 1) := by decide +kernel
theorem dX8_bridge_94 : decode cX8_bridge 94 = .ok (.aload_n 0, 1) := by decide +kernel
theorem dX8_bridge_95 : decode cX8_bridge 95 = .ok (.getfield 59, 3) := by decide +kernel
theorem dX8_bridge_98 : decode cX8_bridge 98 = .ok (.iload_n 2, 1) := by decide +kernel
theorem dX8_bridge_99 : decode cX8_bridge 99 = .ok (.iaload, 1) := by decide +kernel
theorem dX8_bridge_100 : decode cX8_bridge 100 = .ok (.iastore, 1) := by decide +kernel
theorem dX8_bridge_101 : decode cX8_bridge 101 = .ok (.iinc 2 1, 3) := by decide +kernel
theorem dX8_bridge_104 : decode cX8_bridge 104 = .ok (.goto (-57), 3) := by decide +kernel
theorem dX8_bridge_107 : decode cX8_bridge 107 = .ok (.iconst 0, 1) := by decide +kernel
theorem dX8_bridge_108 : decode cX8_bridge 108 = .ok (.istore_n 2, 1) := by decide +kernel
theorem dX8_bridge_109 : decode cX8_bridge 109 = .ok (.iload_n 2, 1) := by decide +kernel
theorem dX8_bridge_110 : decode cX8_bridge 110 = .ok (.bipush 11, 2) := by decide +kernel
theorem dX8_bridge_112 : decode cX8_bridge 112 = .ok (.if_icmp .ge 16, 3) := by decide +kernel
theorem dX8_bridge_115 : decode cX8_bridge 115 = .ok (.aload_n 0, 1) := by decide +kernel
theorem dX8_bridge_116 : decode cX8_bridge 116 = .ok (.getfield 22, 3) := by decide +kernel
theorem dX8_bridge_119 : decode cX8_bridge 119 = .ok (.iload_n 2, 1) := by decide +kernel
theorem dX8_bridge_120 : decode cX8_bridge 120 = .ok (.iconst 0, 1) := by decide +kernel
theorem dX8_bridge_121 : decode cX8_bridge 121 = .ok (.iastore, 1) := by decide +kernel
theorem dX8_bridge_122 : decode cX8_bridge 122 = .ok (.iinc 2 1, 3) := by decide +kernel
theorem dX8_bridge_125 : decode cX8_bridge 125 = .ok (.goto (-16), 3) := by decide +kernel
theorem dX8_bridge_128 : decode cX8_bridge 128 = .ok (.aload_n 0, 1) := by decide +kernel
theorem dX8_bridge_129 : decode cX8_bridge 129 = .ok (.getfield 22, 3) := by decide +kernel
theorem dX8_bridge_132 : decode cX8_bridge 132 = .ok (.iconst 0, 1) := by decide +kernel
theorem dX8_bridge_133 : decode cX8_bridge 133 = .ok (.aload_n 0, 1) := by decide +kernel
theorem dX8_bridge_134 : decode cX8_bridge 134 = .ok (.getfield 128, 3) := by decide +kernel
theorem dX8_bridge_137 : decode cX8_bridge 137 = .ok (.iastore, 1) := by decide +kernel
theorem dX8_bridge_138 : decode cX8_bridge 138 = .ok (.aload_n 0, 1) := by decide +kernel
theorem dX8_bridge_139 : decode cX8_bridge 139 = .ok (.getfield 22, 3) := by decide +kernel
theorem dX8_bridge_142 : decode cX8_bridge 142 = .ok (.iconst 1, 1) := by decide +kernel
theorem dX8_bridge_143 : decode cX8_bridge 143 = .ok (.aload_n 0, 1) := by decide +kernel
theorem dX8_bridge_144 : decode cX8_bridge 144 = .ok (.getfield 131, 3) := by decide +kernel
theorem dX8_bridge_147 : decode cX8_bridge 147 = .ok (.iastore, 1) := by decide +kernel
theorem dX8_bridge_148 : decode cX8_bridge 148 = .ok (.aload_n 0, 1) := by decide +kernel
theorem dX8_bridge_149 : decode cX8_bridge 149 = .ok (.iconst 0, 1) := by decide +kernel
theorem dX8_bridge_150 : decode cX8_bridge 150 = .ok (.putfield 159, 3) := by decide +kernel
theorem dX8_bridge_153 : decode cX8_bridge 153 = .ok (.iconst 0, 1) := by decide +kernel
theorem dX8_bridge_154 : decode cX8_bridge 154 = .ok (.istore_n 2, 1) := by decide +kernel
theorem dX8_bridge_155 : decode cX8_bridge 155 = .ok (.iload_n 2, 1) := by decide +kernel
theorem dX8_bridge_156 : decode cX8_bridge 156 = .ok (.iconst 3, 1) := by decide +kernel
theorem dX8_bridge_157 : decode cX8_bridge 157 = .ok (.if_icmp .ge 16, 3) := by decide +kernel
theorem dX8_bridge_160 : decode cX8_bridge 160 = .ok (.aload_n 0, 1) := by decide +kernel
theorem dX8_bridge_161 : decode cX8_bridge 161 = .ok (.getfield 25, 3) := by decide +kernel
theorem dX8_bridge_164 : decode cX8_bridge 164 = .ok (.iload_n 2, 1) := by decide +kernel
theorem dX8_bridge_165 : decode cX8_bridge 165 = .ok (.iconst (-1), 1) := by decide +kernel
theorem dX8_bridge_166 : decode cX8_bridge 166 = .ok (.iastore, 1) := by decide +kernel
theorem dX8_bridge_167 : decode cX8_bridge 167 = .ok (.iinc 2 1, 3) := by decide +kernel
theorem dX8_bridge_170 : decode cX8_bridge 170 = .ok (.goto (-15), 3) := by decide +kernel
theorem dX8_bridge_173 : decode cX8_bridge 173 = .ok (.aload_n 0, 1) := by decide +kernel
theorem dX8_bridge_174 : decode cX8_bridge 174 = .ok (.getfield 156, 3) := by decide +kernel
theorem dX8_bridge_177 : decode cX8_bridge 177 = .ok (.ireturn, 1) := by decide +kernel
def P_X8_bridge_155 (k_173 : PM Int32) (p0 : Nat) : Nat → Int32 → PM Int32
  | 0, _ => failM
  | n + 1, q2 =>
    ifB (decide (3 ≤ q2)) (
    k_173) (
    getR 8 5 p0 fun v12 =>
    ast v12 q2 ((-1)) <|
    P_X8_bridge_155 k_173 p0 n (q2 + 1))
def P_X8_bridge_109 (k_128 : PM Int32) (p0 : Nat) : Nat → Int32 → PM Int32
  | 0, _ => failM
  | n + 1, q2 =>
    ifB (decide (11 ≤ q2)) (
    k_128) (
    getR 8 4 p0 fun v14 =>
    ast v14 q2 0 <|
    P_X8_bridge_109 k_128 p0 n (q2 + 1))
def P_X8_bridge_47 (k_107 : PM Int32) (p0 : Nat) : Nat → Int32 → PM Int32
  | 0, _ => failM
  | n + 1, q2 =>
    ifB (decide (6 ≤ q2)) (
    k_107) (
    getR 8 6 p0 fun v16 =>
    getR 8 24 p0 fun v17 =>
    ald v17 q2 fun v18 =>
    ast v16 q2 v18 <|
    getR 8 7 p0 fun v19 =>
    getR 8 25 p0 fun v20 =>
    ald v20 q2 fun v21 =>
    ast v19 q2 v21 <|
    getR 8 8 p0 fun v22 =>
    getR 8 26 p0 fun v23 =>
    ald v23 q2 fun v24 =>
    ast v22 q2 v24 <|
    getR 8 9 p0 fun v25 =>
    getR 8 27 p0 fun v26 =>
    ald v26 q2 fun v27 =>
    ast v25 q2 v27 <|
    P_X8_bridge_47 k_107 p0 n (q2 + 1))
def P_X8_bridge (a0 : Nat) (x1 : Int32) : PM Int32 :=
cll0 (P_X8_isText x1) fun v1 =>
ifB (decide (¬ v1 = 0)) (
getR 8 3 a0 fun v2 =>
ald v2 x1 fun v3 =>
ifB (decide (0 ≤ v3)) (
cllV 8 a0 (P_X8_read a0 x1) fun v4 =>
ifB (decide (v4 = ((-9)))) (
getI 8 21 a0 fun v5 =>
setI 8 10 a0 v5 <|
jn (
jn (
getR 8 4 a0 fun v6 =>
getI 8 22 a0 fun v7 =>
ast v6 0 v7 <|
getR 8 4 a0 fun v8 =>
getI 8 23 a0 fun v9 =>
ast v8 1 v9 <|
setI 8 11 a0 0 <|
jn (
getI 8 10 a0 fun v10 =>
pureM v10) fun k11 =>
P_X8_bridge_155 k11 a0 4000 0) fun k13 =>
P_X8_bridge_109 k13 a0 4000 0) fun k15 =>
P_X8_bridge_47 k15 a0 4000 0) (
pureM ((-4)))) (
cllV 8 a0 (P_X8_refuse a0 1) fun v28 =>
pureM v28)) (
pureM ((-1)))
set_option maxHeartbeats 4000000 in
set_option maxRecDepth 100000 in
theorem W_X8_bridge_155 {Γ : Cx} (ok : OKc Γ cX8_bridge RX8 4 "bridge") (okr : OKr Γ cX8_bridge (some .int)) (k_173 : PM Int32) (p0 : Nat) (hk_173 : SW Γ iI 173 [some (.ref p0), none, none] [] (k_173)) : ∀ (n : Nat) (q2 : Int32), SW Γ iI 155 [some (.ref p0), none, some (.int q2)] [] (P_X8_bridge_155 k_173 p0 n q2) := by
  intro n
  induction n with
  | zero =>
    intros
    exact sw_fail
  | succ n ih =>
    intro q2
    unfold P_X8_bridge_155
    refine sw_iload_n (z := q2) (pc' := 156) ok dX8_bridge_155 rfl rfl ?_
    refine sw_iconst (v := 3) (pc' := 157) ok dX8_bridge_156 rfl cc_iconst_3 ?_
    refine sw_icmp_ge (tgt := 173) (pc' := 160) ok dX8_bridge_157 (by decide) rfl ?_ ?_
    · refine sw_fg (l' := [some (.ref p0), none, none]) [true, false, false] rfl ?_
      exact hk_173
    refine sw_aload_n (z := p0) (pc' := 161) ok dX8_bridge_160 rfl rfl ?_
    refine sw_getR (pc' := 164) ok (fr_X8_25.g) dX8_bridge_161 rfl (fun v12 => ?_)
    refine sw_iload_n (z := q2) (pc' := 165) ok dX8_bridge_164 rfl rfl ?_
    refine sw_iconst (v := (-1)) (pc' := 166) ok dX8_bridge_165 rfl cc_iconst_m1 ?_
    refine sw_ast (pc' := 167) ok dX8_bridge_166 rfl ?_
    refine sw_iinc (z := q2) (v := q2 + 1) (pc' := 170) (l' := [some (.ref p0), none, some (.int (q2 + 1))]) ok dX8_bridge_167 rfl rfl (by rw [cc_iconst_1]) rfl ?_
    refine sw_goto (tgt := 155) ok dX8_bridge_170 (by decide) ?_
    exact ih (q2 + 1)
set_option maxHeartbeats 4000000 in
set_option maxRecDepth 100000 in
theorem W_X8_bridge_109 {Γ : Cx} (ok : OKc Γ cX8_bridge RX8 4 "bridge") (okr : OKr Γ cX8_bridge (some .int)) (k_128 : PM Int32) (p0 : Nat) (hk_128 : SW Γ iI 128 [some (.ref p0), none, none] [] (k_128)) : ∀ (n : Nat) (q2 : Int32), SW Γ iI 109 [some (.ref p0), none, some (.int q2)] [] (P_X8_bridge_109 k_128 p0 n q2) := by
  intro n
  induction n with
  | zero =>
    intros
    exact sw_fail
  | succ n ih =>
    intro q2
    unfold P_X8_bridge_109
    refine sw_iload_n (z := q2) (pc' := 110) ok dX8_bridge_109 rfl rfl ?_
    refine sw_bipush (v := 11) (pc' := 112) ok dX8_bridge_110 rfl cc_bipush_11 ?_
    refine sw_icmp_ge (tgt := 128) (pc' := 115) ok dX8_bridge_112 (by decide) rfl ?_ ?_
    · refine sw_fg (l' := [some (.ref p0), none, none]) [true, false, false] rfl ?_
      exact hk_128
    refine sw_aload_n (z := p0) (pc' := 116) ok dX8_bridge_115 rfl rfl ?_
    refine sw_getR (pc' := 119) ok (fr_X8_22.g) dX8_bridge_116 rfl (fun v14 => ?_)
    refine sw_iload_n (z := q2) (pc' := 120) ok dX8_bridge_119 rfl rfl ?_
    refine sw_iconst (v := 0) (pc' := 121) ok dX8_bridge_120 rfl cc_iconst_0 ?_
    refine sw_ast (pc' := 122) ok dX8_bridge_121 rfl ?_
    refine sw_iinc (z := q2) (v := q2 + 1) (pc' := 125) (l' := [some (.ref p0), none, some (.int (q2 + 1))]) ok dX8_bridge_122 rfl rfl (by rw [cc_iconst_1]) rfl ?_
    refine sw_goto (tgt := 109) ok dX8_bridge_125 (by decide) ?_
    exact ih (q2 + 1)
set_option maxHeartbeats 4000000 in
set_option maxRecDepth 100000 in
theorem W_X8_bridge_47 {Γ : Cx} (ok : OKc Γ cX8_bridge RX8 4 "bridge") (okr : OKr Γ cX8_bridge (some .int)) (k_107 : PM Int32) (p0 : Nat) (hk_107 : SW Γ iI 107 [some (.ref p0), none, none] [] (k_107)) : ∀ (n : Nat) (q2 : Int32), SW Γ iI 47 [some (.ref p0), none, some (.int q2)] [] (P_X8_bridge_47 k_107 p0 n q2) := by
  intro n
  induction n with
  | zero =>
    intros
    exact sw_fail
  | succ n ih =>
    intro q2
    unfold P_X8_bridge_47
    refine sw_iload_n (z := q2) (pc' := 48) ok dX8_bridge_47 rfl rfl ?_
    refine sw_bipush (v := 6) (pc' := 50) ok dX8_bridge_48 rfl cc_bipush_6 ?_
    refine sw_icmp_ge (tgt := 107) (pc' := 53) ok dX8_bridge_50 (by decide) rfl ?_ ?_
    · refine sw_fg (l' := [some (.ref p0), none, none]) [true, false, false] rfl ?_
      exact hk_107
    refine sw_aload_n (z := p0) (pc' := 54) ok dX8_bridge_53 rfl rfl ?_
    refine sw_getR (pc' := 57) ok (fr_X8_28.g) dX8_bridge_54 rfl (fun v16 => ?_)
    refine sw_iload_n (z := q2) (pc' := 58) ok dX8_bridge_57 rfl rfl ?_
    refine sw_aload_n (z := p0) (pc' := 59) ok dX8_bridge_58 rfl rfl ?_
    refine sw_getR (pc' := 62) ok (fr_X8_50.g) dX8_bridge_59 rfl (fun v17 => ?_)
    refine sw_iload_n (z := q2) (pc' := 63) ok dX8_bridge_62 rfl rfl ?_
    refine sw_ald (pc' := 64) ok dX8_bridge_63 rfl (fun v18 => ?_)
    refine sw_ast (pc' := 65) ok dX8_bridge_64 rfl ?_
    refine sw_aload_n (z := p0) (pc' := 66) ok dX8_bridge_65 rfl rfl ?_
    refine sw_getR (pc' := 69) ok (fr_X8_31.g) dX8_bridge_66 rfl (fun v19 => ?_)
    refine sw_iload_n (z := q2) (pc' := 70) ok dX8_bridge_69 rfl rfl ?_
    refine sw_aload_n (z := p0) (pc' := 71) ok dX8_bridge_70 rfl rfl ?_
    refine sw_getR (pc' := 74) ok (fr_X8_53.g) dX8_bridge_71 rfl (fun v20 => ?_)
    refine sw_iload_n (z := q2) (pc' := 75) ok dX8_bridge_74 rfl rfl ?_
    refine sw_ald (pc' := 76) ok dX8_bridge_75 rfl (fun v21 => ?_)
    refine sw_ast (pc' := 77) ok dX8_bridge_76 rfl ?_
    refine sw_aload_n (z := p0) (pc' := 78) ok dX8_bridge_77 rfl rfl ?_
    refine sw_getR (pc' := 81) ok (fr_X8_34.g) dX8_bridge_78 rfl (fun v22 => ?_)
    refine sw_iload_n (z := q2) (pc' := 82) ok dX8_bridge_81 rfl rfl ?_
    refine sw_aload_n (z := p0) (pc' := 83) ok dX8_bridge_82 rfl rfl ?_
    refine sw_getR (pc' := 86) ok (fr_X8_56.g) dX8_bridge_83 rfl (fun v23 => ?_)
    refine sw_iload_n (z := q2) (pc' := 87) ok dX8_bridge_86 rfl rfl ?_
    refine sw_ald (pc' := 88) ok dX8_bridge_87 rfl (fun v24 => ?_)
    refine sw_ast (pc' := 89) ok dX8_bridge_88 rfl ?_
    refine sw_aload_n (z := p0) (pc' := 90) ok dX8_bridge_89 rfl rfl ?_
    refine sw_getR (pc' := 93) ok (fr_X8_37.g) dX8_bridge_90 rfl (fun v25 => ?_)
    refine sw_iload_n (z := q2) (pc' := 94) ok dX8_bridge_93 rfl rfl ?_
    refine sw_aload_n (z := p0) (pc' := 95) ok dX8_bridge_94 rfl rfl ?_
    refine sw_getR (pc' := 98) ok (fr_X8_59.g) dX8_bridge_95 rfl (fun v26 => ?_)
    refine sw_iload_n (z := q2) (pc' := 99) ok dX8_bridge_98 rfl rfl ?_
    refine sw_ald (pc' := 100) ok dX8_bridge_99 rfl (fun v27 => ?_)
    refine sw_ast (pc' := 101) ok dX8_bridge_100 rfl ?_
    refine sw_iinc (z := q2) (v := q2 + 1) (pc' := 104) (l' := [some (.ref p0), none, some (.int (q2 + 1))]) ok dX8_bridge_101 rfl rfl (by rw [cc_iconst_1]) rfl ?_
    refine sw_goto (tgt := 47) ok dX8_bridge_104 (by decide) ?_
    exact ih (q2 + 1)
set_option maxHeartbeats 4000000 in
set_option maxRecDepth 100000 in
theorem W_X8_bridge {Γ : Cx} (ok : OKc Γ cX8_bridge RX8 4 "bridge") (okr : OKr Γ cX8_bridge (some .int)) (a0 : Nat) (x1 : Int32) : SW Γ iI 0 [some (.ref a0), some (.int x1), none] [] (P_X8_bridge a0 x1) := by
  unfold P_X8_bridge
  refine sw_iload_n (z := x1) (pc' := 1) ok dX8_bridge_0 rfl rfl ?_
  refine sw_cll0_I (st := []) (as := [.int x1]) (pc' := 4) ok (S_X8_isText x1) (by decide) lk_X8_101 rfl dX8_bridge_1 rfl (Nat.le_of_ble_eq_true rfl) rfl (fun v1 => ?_)
  refine sw_if_ne (tgt := 9) (pc' := 7) ok dX8_bridge_4 (by decide) rfl ?_ ?_
  · refine sw_aload_n (z := a0) (pc' := 10) ok dX8_bridge_9 rfl rfl ?_
    refine sw_getR (pc' := 13) ok (fr_X8_19.g) dX8_bridge_10 rfl (fun v2 => ?_)
    refine sw_iload_n (z := x1) (pc' := 14) ok dX8_bridge_13 rfl rfl ?_
    refine sw_ald (pc' := 15) ok dX8_bridge_14 rfl (fun v3 => ?_)
    refine sw_if_ge (tgt := 24) (pc' := 18) ok dX8_bridge_15 (by decide) rfl ?_ ?_
    · refine sw_aload_n (z := a0) (pc' := 25) ok dX8_bridge_24 rfl rfl ?_
      refine sw_iload_n (z := x1) (pc' := 26) ok dX8_bridge_25 rfl rfl ?_
      refine sw_cllV_I (st := []) (as := [.int x1]) (pc' := 29) ok (S_X8_read a0 x1) (by decide) lk_X8_153 rfl dX8_bridge_26 rfl (Nat.le_of_ble_eq_true rfl) rfl (fun v4 => ?_)
      refine sw_bipush (v := (-9)) (pc' := 31) ok dX8_bridge_29 rfl cc_bipush_m9 ?_
      refine sw_icmp_eq (tgt := 37) (pc' := 34) ok dX8_bridge_31 (by decide) rfl ?_ ?_
      · refine sw_aload_n (z := a0) (pc' := 38) ok dX8_bridge_37 rfl rfl ?_
        refine sw_aload_n (z := a0) (pc' := 39) ok dX8_bridge_38 rfl rfl ?_
        refine sw_getI (pc' := 42) ok (fr_X8_134.g) dX8_bridge_39 rfl (fun v5 => ?_)
        refine sw_setI (pc' := 45) ok fr_X8_156 dX8_bridge_42 (fun h => by cases h) rfl ?_
        refine sw_iconst (v := 0) (pc' := 46) ok dX8_bridge_45 rfl cc_iconst_0 ?_
        refine sw_istore_n (pc' := 47) (l' := [some (.ref a0), some (.int x1), some (.int 0)]) ok dX8_bridge_46 rfl (Nat.le_of_ble_eq_true rfl) rfl ?_
        refine sw_jn (fun k15 : PM Int32 => SW Γ iI 107 [some (.ref a0), none, none] [] (k15)) ?_ (fun k15 hk15 => ?_)
        · refine sw_iconst (v := 0) (pc' := 108) ok dX8_bridge_107 rfl cc_iconst_0 ?_
          refine sw_istore_n (pc' := 109) (l' := [some (.ref a0), none, some (.int 0)]) ok dX8_bridge_108 rfl (Nat.le_of_ble_eq_true rfl) rfl ?_
          refine sw_jn (fun k13 : PM Int32 => SW Γ iI 128 [some (.ref a0), none, none] [] (k13)) ?_ (fun k13 hk13 => ?_)
          · refine sw_aload_n (z := a0) (pc' := 129) ok dX8_bridge_128 rfl rfl ?_
            refine sw_getR (pc' := 132) ok (fr_X8_22.g) dX8_bridge_129 rfl (fun v6 => ?_)
            refine sw_iconst (v := 0) (pc' := 133) ok dX8_bridge_132 rfl cc_iconst_0 ?_
            refine sw_aload_n (z := a0) (pc' := 134) ok dX8_bridge_133 rfl rfl ?_
            refine sw_getI (pc' := 137) ok (fr_X8_128.g) dX8_bridge_134 rfl (fun v7 => ?_)
            refine sw_ast (pc' := 138) ok dX8_bridge_137 rfl ?_
            refine sw_aload_n (z := a0) (pc' := 139) ok dX8_bridge_138 rfl rfl ?_
            refine sw_getR (pc' := 142) ok (fr_X8_22.g) dX8_bridge_139 rfl (fun v8 => ?_)
            refine sw_iconst (v := 1) (pc' := 143) ok dX8_bridge_142 rfl cc_iconst_1 ?_
            refine sw_aload_n (z := a0) (pc' := 144) ok dX8_bridge_143 rfl rfl ?_
            refine sw_getI (pc' := 147) ok (fr_X8_131.g) dX8_bridge_144 rfl (fun v9 => ?_)
            refine sw_ast (pc' := 148) ok dX8_bridge_147 rfl ?_
            refine sw_aload_n (z := a0) (pc' := 149) ok dX8_bridge_148 rfl rfl ?_
            refine sw_iconst (v := 0) (pc' := 150) ok dX8_bridge_149 rfl cc_iconst_0 ?_
            refine sw_setI (pc' := 153) ok fr_X8_159 dX8_bridge_150 (fun h => by cases h) rfl ?_
            refine sw_iconst (v := 0) (pc' := 154) ok dX8_bridge_153 rfl cc_iconst_0 ?_
            refine sw_istore_n (pc' := 155) (l' := [some (.ref a0), none, some (.int 0)]) ok dX8_bridge_154 rfl (Nat.le_of_ble_eq_true rfl) rfl ?_
            refine sw_jn (fun k11 : PM Int32 => SW Γ iI 173 [some (.ref a0), none, none] [] (k11)) ?_ (fun k11 hk11 => ?_)
            · refine sw_aload_n (z := a0) (pc' := 174) ok dX8_bridge_173 rfl rfl ?_
              refine sw_getI (pc' := 177) ok (fr_X8_156.g) dX8_bridge_174 rfl (fun v10 => ?_)
              exact sw_ret ok okr dX8_bridge_177 trivial rfl
            exact W_X8_bridge_155 ok okr k11 a0 hk11 4000 0
          exact W_X8_bridge_109 ok okr k13 a0 hk13 4000 0
        refine sw_fg (l' := [some (.ref a0), none, some (.int 0)]) [true, false, true] rfl ?_
        exact W_X8_bridge_47 ok okr k15 a0 hk15 4000 0
      refine sw_bipush (v := (-4)) (pc' := 36) ok dX8_bridge_34 rfl cc_bipush_m4 ?_
      exact sw_ret ok okr dX8_bridge_36 trivial rfl
    refine sw_aload_n (z := a0) (pc' := 19) ok dX8_bridge_18 rfl rfl ?_
    refine sw_iconst (v := 1) (pc' := 20) ok dX8_bridge_19 rfl cc_iconst_1 ?_
    refine sw_cllV_I (st := []) (as := [.int 1]) (pc' := 23) ok (S_X8_refuse a0 1) (by decide) lk_X8_90 rfl dX8_bridge_20 rfl (Nat.le_of_ble_eq_true rfl) rfl (fun v28 => ?_)
    exact sw_ret ok okr dX8_bridge_23 trivial rfl
  refine sw_iconst (v := (-1)) (pc' := 8) ok dX8_bridge_7 rfl cc_iconst_m1 ?_
  exact sw_ret ok okr dX8_bridge_8 trivial rfl
theorem S_X8_bridge (a0 : Nat) (x1 : Int32) : Sim 4 yX8_bridge cX8_bridge 3 (some .int) iI [.ref a0, .int x1] (P_X8_bridge a0 x1) := Sim.intro wd_1087 (by decide) (by decide +kernel) (Nat.le_of_ble_eq_true rfl) (fun Γ ok okr => W_X8_bridge ok okr a0 x1)
theorem dX8_talker_0 : decode cX8_talker 0 = .ok (.iconst 0, 1) := by decide +kernel
theorem dX8_talker_1 : decode cX8_talker 1 = .ok (.iload_n 2, 1) := by decide +kernel
theorem dX8_talker_2 : decode cX8_talker 2 = .ok (.iload_n 1, 1) := by decide +kernel
theorem dX8_talker_3 : decode cX8_talker 3 = .ok (.isub, 1) := by decide +kernel
theorem dX8_talker_4 : decode cX8_talker 4 = .ok (.invokestatic 162, 3) := by decide +kernel
theorem dX8_talker_7 : decode cX8_talker 7 = .ok (.istore_n 3, 1) := by decide +kernel
theorem dX8_talker_8 : decode cX8_talker 8 = .ok (.iconst 0, 1) := by decide +kernel
theorem dX8_talker_9 : decode cX8_talker 9 = .ok (.iload_n 0, 1) := by decide +kernel
theorem dX8_talker_10 : decode cX8_talker 10 = .ok (.iconst 2, 1) := by decide +kernel
theorem dX8_talker_11 : decode cX8_talker 11 = .ok (.iload_n 3, 1) := by decide +kernel
theorem dX8_talker_12 : decode cX8_talker 12 = .ok (.imul, 1) := by decide +kernel
theorem dX8_talker_13 : decode cX8_talker 13 = .ok (.isub, 1) := by decide +kernel
theorem dX8_talker_14 : decode cX8_talker 14 = .ok (.invokestatic 162, 3) := by decide +kernel
theorem dX8_talker_17 : decode cX8_talker 17 = .ok (.ireturn, 1) := by decide +kernel
def P_X8_talker (x0 : Int32) (x1 : Int32) (x2 : Int32) : PM Int32 :=
cll0 (P_X8_most 0 (x2 - x1)) fun v1 =>
cll0 (P_X8_most 0 (x0 - (2 * v1))) fun v2 =>
pureM v2
set_option maxHeartbeats 4000000 in
set_option maxRecDepth 100000 in
theorem W_X8_talker {Γ : Cx} (ok : OKc Γ cX8_talker RX8 1 "talker") (okr : OKr Γ cX8_talker (some .int)) (x0 : Int32) (x1 : Int32) (x2 : Int32) : SW Γ iI 0 [some (.int x0), some (.int x1), some (.int x2), none] [] (P_X8_talker x0 x1 x2) := by
  unfold P_X8_talker
  refine sw_iconst (v := 0) (pc' := 1) ok dX8_talker_0 rfl cc_iconst_0 ?_
  refine sw_iload_n (z := x2) (pc' := 2) ok dX8_talker_1 rfl rfl ?_
  refine sw_iload_n (z := x1) (pc' := 3) ok dX8_talker_2 rfl rfl ?_
  refine sw_isub (pc' := 4) ok dX8_talker_3 rfl ?_
  refine sw_cll0_I (st := []) (as := [.int 0, .int (x2 - x1)]) (pc' := 7) ok (S_X8_most 0 (x2 - x1)) (by decide) lk_X8_162 rfl dX8_talker_4 rfl (Nat.le_of_ble_eq_true rfl) rfl (fun v1 => ?_)
  refine sw_istore_n (pc' := 8) (l' := [some (.int x0), some (.int x1), some (.int x2), some (.int v1)]) ok dX8_talker_7 rfl (Nat.le_of_ble_eq_true rfl) rfl ?_
  refine sw_iconst (v := 0) (pc' := 9) ok dX8_talker_8 rfl cc_iconst_0 ?_
  refine sw_iload_n (z := x0) (pc' := 10) ok dX8_talker_9 rfl rfl ?_
  refine sw_iconst (v := 2) (pc' := 11) ok dX8_talker_10 rfl cc_iconst_2 ?_
  refine sw_iload_n (z := v1) (pc' := 12) ok dX8_talker_11 rfl rfl ?_
  refine sw_imul (pc' := 13) ok dX8_talker_12 rfl ?_
  refine sw_isub (pc' := 14) ok dX8_talker_13 rfl ?_
  refine sw_cll0_I (st := []) (as := [.int 0, .int (x0 - (2 * v1))]) (pc' := 17) ok (S_X8_most 0 (x0 - (2 * v1))) (by decide) lk_X8_162 rfl dX8_talker_14 rfl (Nat.le_of_ble_eq_true rfl) rfl (fun v2 => ?_)
  exact sw_ret ok okr dX8_talker_17 trivial rfl
theorem S_X8_talker (x0 : Int32) (x1 : Int32) (x2 : Int32) : Sim 1 yX8_talker cX8_talker 4 (some .int) iI [.int x0, .int x1, .int x2] (P_X8_talker x0 x1 x2) := Sim.intro wd_1088 (by decide) (by decide +kernel) (Nat.le_of_ble_eq_true rfl) (fun Γ ok okr => W_X8_talker ok okr x0 x1 x2)
