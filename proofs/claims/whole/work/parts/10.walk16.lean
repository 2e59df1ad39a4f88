/-! Programs and walks, printed by program (gen.py). -/
theorem dX8_odds_0 : decode cX8_odds 0 = .ok (.aload_n 0, 1) := by decide +kernel
theorem dX8_odds_1 : decode cX8_odds 1 = .ok (.iload_n 1, 1) := by decide +kernel
theorem dX8_odds_2 : decode cX8_odds 2 = .ok (.iload_n 2, 1) := by decide +kernel
theorem dX8_odds_3 : decode cX8_odds 3 = .ok (.invokevirtual 198, 3) := by decide +kernel
theorem dX8_odds_6 : decode cX8_odds 6 = .ok (.ifCond .eq 28, 3) := by decide +kernel
theorem dX8_odds_9 : decode cX8_odds 9 = .ok (.iload_n 3, 1) := by decide +kernel
theorem dX8_odds_10 : decode cX8_odds 10 = .ok (.i2l, 1) := by decide +kernel
theorem dX8_odds_11 : decode cX8_odds 11 = .ok (.lconst 0, 1) := by decide +kernel
theorem dX8_odds_12 : decode cX8_odds 12 = .ok (.ldc2_w 217, 3) := by decide +kernel
theorem dX8_odds_15 : decode cX8_odds 15 = .ok (.invokestatic 80, 3) := by decide +kernel
theorem dX8_odds_18 : decode cX8_odds 18 = .ok (.ifCond .eq 16, 3) := by decide +kernel
theorem dX8_odds_21 : decode cX8_odds 21 = .ok (.iload 4, 2) := by decide +kernel
theorem dX8_odds_23 : decode cX8_odds 23 = .ok (.i2l, 1) := by decide +kernel
theorem dX8_odds_24 : decode cX8_odds 24 = .ok (.lconst 0, 1) := by decide +kernel
theorem dX8_odds_25 : decode cX8_odds 25 = .ok (.ldc2_w 313, 3) := by decide +kernel
theorem dX8_odds_28 : decode cX8_odds 28 = .ok (.invokestatic 80, 3) := by decide +kernel
theorem dX8_odds_31 : decode cX8_odds 31 = .ok (.ifCond .ne 5, 3) := by decide +kernel
theorem dX8_odds_34 : decode cX8_odds 34 = .ok (.iconst (-1), 1) := by decide +kernel
theorem dX8_odds_35 : decode cX8_odds 35 = .ok (.ireturn, 1) := by decide +kernel
theorem dX8_odds_36 : decode cX8_odds 36 = .ok (.iconst 0, 1) := by decide +kernel
theorem dX8_odds_37 : decode cX8_odds 37 = .ok (.istore 5, 2) := by decide +kernel
theorem dX8_odds_39 : decode cX8_odds 39 = .ok (.iconst 0, 1) := by decide +kernel
theorem dX8_odds_40 : decode cX8_odds 40 = .ok (.istore 6, 2) := by decide +kernel
theorem dX8_odds_42 : decode cX8_odds 42 = .ok (.iload 6, 2) := by decide +kernel
theorem dX8_odds_44 : decode cX8_odds 44 = .ok (.iconst 4, 1) := by decide +kernel
theorem dX8_odds_45 : decode cX8_odds 45 = .ok (.if_icmp .ge 37, 3) := by decide +kernel
theorem dX8_odds_48 : decode cX8_odds 48 = .ok (.iload 5, 2) := by decide +kernel
theorem dX8_odds_50 : decode cX8_odds 50 = .ok (.aload_n 0, 1) := by decide +kernel
theorem dX8_odds_51 : decode cX8_odds 51 = .ok (.iload_n 1, 1) := by decide +kernel
theorem dX8_odds_52 : decode cX8_odds 52 = .ok (.iload_n 2, 1) := by decide +kernel
theorem dX8_odds_53 : decode cX8_odds 53 = .ok (.iload 6, 2) := by decide +kernel
theorem dX8_odds_55 : decode cX8_odds 55 = .ok (.invokevirtual 315, 3) := by decide +kernel
theorem dX8_odds_58 : decode cX8_odds 58 = .ok (.iload_n 3, 1) := by decide +kernel
theorem dX8_odds_59 : decode cX8_odds 59 = .ok (.if_icmp .lt 13, 3) := by decide +kernel
theorem dX8_odds_62 : decode cX8_odds 62 = .ok (.iload 6, 2) := by decide +kernel
theorem dX8_odds_64 : decode cX8_odds 64 = .ok (.iload 4, 2) := by decide +kernel
theorem dX8_odds_66 : decode cX8_odds 66 = .ok (.invokestatic 318, 3) := by decide +kernel
theorem dX8_odds_69 : decode cX8_odds 69 = .ok (.goto 4, 3) := by decide +kernel
theorem dX8_odds_72 : decode cX8_odds 72 = .ok (.iconst 0, 1) := by decide +kernel
theorem dX8_odds_73 : decode cX8_odds 73 = .ok (.iadd, 1) := by decide +kernel
theorem dX8_odds_74 : decode cX8_odds 74 = .ok (.istore 5, 2) := by decide +kernel
theorem dX8_odds_76 : decode cX8_odds 76 = .ok (.iinc 6 1, 3) := by decide +kernel
theorem dX8_odds_79 : decode cX8_odds 79 = .ok (.goto (-37), 3) := by decide +kernel
theorem dX8_odds_82 : decode cX8_odds 82 = .ok (.aload_n 0, 1) := by decide +kernel
theorem dX8_odds_83 : decode cX8_odds 83 = .ok (.iload 5, 2) := by decide +kernel
theorem dX8_odds_85 : decode cX8_odds 85 = .ok (.i2l, 1) := by decide +kernel
theorem dX8_odds_86 : decode cX8_odds 86 = .ok (.ldc2_w 321, 3) := by decide +kernel
theorem dX8_odds_89 : decode cX8_odds 89 = .ok (.invokevirtual 323, 3) := by decide +kernel
theorem dX8_odds_92 : decode cX8_odds 92 = .ok (.iconst 1, 1) := by decide +kernel
theorem dX8_odds_93 : decode cX8_odds 93 = .ok (.ireturn, 1) := by decide +kernel
def P_X8_odds_42 (k_82 : Int32 → PM Int32) (p0 : Nat) (p1 : Int32) (p2 : Int32) (p3 : Int32) (p4 : Int32) : Nat → Int32 → Int32 → PM Int32
  | 0, _, _ => failM
  | n + 1, q5, q6 =>
    ifB (decide (4 ≤ q6)) (
    k_82 q5) (
    cllV 8 p0 (P_X8_strength p0 p1 p2 q6) fun v6 =>
    jn (fun (j7 : Int32) (j8 : Int32) =>
    P_X8_odds_42 k_82 p0 p1 p2 p3 p4 n (j7 + j8) (q6 + 1)) fun k9 =>
    ifB (decide (v6 < p3)) (
    k9 q5 0) (
    cll0 (P_X8_weight q6 p4) fun v10 =>
    k9 q5 v10))
def P_X8_odds (a0 : Nat) (x1 : Int32) (x2 : Int32) (x3 : Int32) (x4 : Int32) : PM Int32 :=
cllV 8 a0 (P_X8_isPair a0 x1 x2) fun v1 =>
ifB (decide (v1 = 0)) (
pureM ((-1))) (
cll0 (P_X8_in (Int32.toInt64 x3) 0 60) fun v2 =>
ifB (decide (v2 = 0)) (
pureM ((-1))) (
cll0 (P_X8_in (Int32.toInt64 x4) 0 12) fun v3 =>
ifB (decide (¬ v3 = 0)) (
jn (fun (e4 : Int32) =>
cllV 8 a0 (P_X8_tell a0 (Int32.toInt64 e4) 144) fun _ =>
pureM 1) fun k5 =>
P_X8_odds_42 k5 a0 x1 x2 x3 x4 4000 0 0) (
pureM ((-1)))))
set_option maxHeartbeats 4000000 in
set_option maxRecDepth 100000 in
theorem W_X8_odds_42 {Γ : Cx} (ok : OKc Γ cX8_odds RX8 7 "odds") (okr : OKr Γ cX8_odds (some .int)) (k_82 : Int32 → PM Int32) (p0 : Nat) (p1 : Int32) (p2 : Int32) (p3 : Int32) (p4 : Int32) (hk_82 : ∀ (y5 : Int32), SW Γ iI 82 [some (.ref p0), none, none, none, none, some (.int y5), none] [] (k_82 y5)) : ∀ (n : Nat) (q5 : Int32) (q6 : Int32), SW Γ iI 42 [some (.ref p0), some (.int p1), some (.int p2), some (.int p3), some (.int p4), some (.int q5), some (.int q6)] [] (P_X8_odds_42 k_82 p0 p1 p2 p3 p4 n q5 q6) := by
  intro n
  induction n with
  | zero =>
    intros
    exact sw_fail
  | succ n ih =>
    intro q5 q6
    unfold P_X8_odds_42
    refine sw_iload (z := q6) (pc' := 44) ok dX8_odds_42 rfl rfl ?_
    refine sw_iconst (v := 4) (pc' := 45) ok dX8_odds_44 rfl cc_iconst_4 ?_
    refine sw_icmp_ge (tgt := 82) (pc' := 48) ok dX8_odds_45 (by decide) rfl ?_ ?_
    · refine sw_fg (l' := [some (.ref p0), none, none, none, none, some (.int q5), none]) [true, false, false, false, false, true, false] rfl ?_
      exact hk_82 q5
    refine sw_iload (z := q5) (pc' := 50) ok dX8_odds_48 rfl rfl ?_
    refine sw_aload_n (z := p0) (pc' := 51) ok dX8_odds_50 rfl rfl ?_
    refine sw_iload_n (z := p1) (pc' := 52) ok dX8_odds_51 rfl rfl ?_
    refine sw_iload_n (z := p2) (pc' := 53) ok dX8_odds_52 rfl rfl ?_
    refine sw_iload (z := q6) (pc' := 55) ok dX8_odds_53 rfl rfl ?_
    refine sw_cllV_I (st := [.int q5]) (as := [.int p1, .int p2, .int q6]) (pc' := 58) ok (S_X8_strength p0 p1 p2 q6) (by decide) lk_X8_315 rfl dX8_odds_55 rfl (Nat.le_of_ble_eq_true rfl) rfl (fun v6 => ?_)
    refine sw_iload_n (z := p3) (pc' := 59) ok dX8_odds_58 rfl rfl ?_
    refine sw_jn (fun k9 : Int32 → Int32 → PM Int32 => ∀ (j7 : Int32) (j8 : Int32), SW Γ iI 73 [some (.ref p0), some (.int p1), some (.int p2), some (.int p3), some (.int p4), none, some (.int q6)] [.int j8, .int j7] (k9 j7 j8)) ?_ (fun k9 hk9 => ?_)
    · intro j7 j8
      refine sw_iadd (pc' := 74) ok dX8_odds_73 rfl ?_
      refine sw_istore (pc' := 76) (l' := [some (.ref p0), some (.int p1), some (.int p2), some (.int p3), some (.int p4), some (.int (j7 + j8)), some (.int q6)]) ok dX8_odds_74 rfl (Nat.le_of_ble_eq_true rfl) rfl ?_
      refine sw_iinc (z := q6) (v := q6 + 1) (pc' := 79) (l' := [some (.ref p0), some (.int p1), some (.int p2), some (.int p3), some (.int p4), some (.int (j7 + j8)), some (.int (q6 + 1))]) ok dX8_odds_76 rfl rfl (by rw [cc_iconst_1]) rfl ?_
      refine sw_goto (tgt := 42) ok dX8_odds_79 (by decide) ?_
      exact ih (j7 + j8) (q6 + 1)
    refine sw_icmp_lt (tgt := 72) (pc' := 62) ok dX8_odds_59 (by decide) rfl ?_ ?_
    · refine sw_iconst (v := 0) (pc' := 73) ok dX8_odds_72 rfl cc_iconst_0 ?_
      refine sw_fg (l' := [some (.ref p0), some (.int p1), some (.int p2), some (.int p3), some (.int p4), none, some (.int q6)]) [true, true, true, true, true, false, true] rfl ?_
      exact hk9 q5 0
    refine sw_iload (z := q6) (pc' := 64) ok dX8_odds_62 rfl rfl ?_
    refine sw_iload (z := p4) (pc' := 66) ok dX8_odds_64 rfl rfl ?_
    refine sw_cll0_I (st := [.int q5]) (as := [.int q6, .int p4]) (pc' := 69) ok (S_X8_weight q6 p4) (by decide) lk_X8_318 rfl dX8_odds_66 rfl (Nat.le_of_ble_eq_true rfl) rfl (fun v10 => ?_)
    refine sw_goto (tgt := 73) ok dX8_odds_69 (by decide) ?_
    refine sw_fg (l' := [some (.ref p0), some (.int p1), some (.int p2), some (.int p3), some (.int p4), none, some (.int q6)]) [true, true, true, true, true, false, true] rfl ?_
    exact hk9 q5 v10
set_option maxHeartbeats 4000000 in
set_option maxRecDepth 100000 in
theorem W_X8_odds {Γ : Cx} (ok : OKc Γ cX8_odds RX8 7 "odds") (okr : OKr Γ cX8_odds (some .int)) (a0 : Nat) (x1 : Int32) (x2 : Int32) (x3 : Int32) (x4 : Int32) : SW Γ iI 0 [some (.ref a0), some (.int x1), some (.int x2), some (.int x3), some (.int x4), none, none] [] (P_X8_odds a0 x1 x2 x3 x4) := by
  unfold P_X8_odds
  refine sw_aload_n (z := a0) (pc' := 1) ok dX8_odds_0 rfl rfl ?_
  refine sw_iload_n (z := x1) (pc' := 2) ok dX8_odds_1 rfl rfl ?_
  refine sw_iload_n (z := x2) (pc' := 3) ok dX8_odds_2 rfl rfl ?_
  refine sw_cllV_I (st := []) (as := [.int x1, .int x2]) (pc' := 6) ok (S_X8_isPair a0 x1 x2) (by decide) lk_X8_198 rfl dX8_odds_3 rfl (Nat.le_of_ble_eq_true rfl) rfl (fun v1 => ?_)
  refine sw_if_eq (tgt := 34) (pc' := 9) ok dX8_odds_6 (by decide) rfl ?_ ?_
  · refine sw_iconst (v := (-1)) (pc' := 35) ok dX8_odds_34 rfl cc_iconst_m1 ?_
    exact sw_ret ok okr dX8_odds_35 trivial rfl
  refine sw_iload_n (z := x3) (pc' := 10) ok dX8_odds_9 rfl rfl ?_
  refine sw_i2l (pc' := 11) ok dX8_odds_10 rfl ?_
  refine sw_lconst (v := 0) (pc' := 12) ok dX8_odds_11 rfl cc_lconst_0 ?_
  refine sw_ldc2 (v := 60) (pc' := 15) ok dX8_odds_12 rfl wd_572 ?_
  refine sw_cll0_I (st := []) (as := [.long (Int32.toInt64 x3), .long 0, .long 60]) (pc' := 18) ok (S_X8_in (Int32.toInt64 x3) 0 60) (by decide) lk_X8_80 rfl dX8_odds_15 rfl (Nat.le_of_ble_eq_true rfl) rfl (fun v2 => ?_)
  refine sw_if_eq (tgt := 34) (pc' := 21) ok dX8_odds_18 (by decide) rfl ?_ ?_
  · refine sw_iconst (v := (-1)) (pc' := 35) ok dX8_odds_34 rfl cc_iconst_m1 ?_
    exact sw_ret ok okr dX8_odds_35 trivial rfl
  refine sw_iload (z := x4) (pc' := 23) ok dX8_odds_21 rfl rfl ?_
  refine sw_i2l (pc' := 24) ok dX8_odds_23 rfl ?_
  refine sw_lconst (v := 0) (pc' := 25) ok dX8_odds_24 rfl cc_lconst_0 ?_
  refine sw_ldc2 (v := 12) (pc' := 28) ok dX8_odds_25 rfl wd_644 ?_
  refine sw_cll0_I (st := []) (as := [.long (Int32.toInt64 x4), .long 0, .long 12]) (pc' := 31) ok (S_X8_in (Int32.toInt64 x4) 0 12) (by decide) lk_X8_80 rfl dX8_odds_28 rfl (Nat.le_of_ble_eq_true rfl) rfl (fun v3 => ?_)
  refine sw_if_ne (tgt := 36) (pc' := 34) ok dX8_odds_31 (by decide) rfl ?_ ?_
  · refine sw_iconst (v := 0) (pc' := 37) ok dX8_odds_36 rfl cc_iconst_0 ?_
    refine sw_istore (pc' := 39) (l' := [some (.ref a0), some (.int x1), some (.int x2), some (.int x3), some (.int x4), some (.int 0), none]) ok dX8_odds_37 rfl (Nat.le_of_ble_eq_true rfl) rfl ?_
    refine sw_iconst (v := 0) (pc' := 40) ok dX8_odds_39 rfl cc_iconst_0 ?_
    refine sw_istore (pc' := 42) (l' := [some (.ref a0), some (.int x1), some (.int x2), some (.int x3), some (.int x4), some (.int 0), some (.int 0)]) ok dX8_odds_40 rfl (Nat.le_of_ble_eq_true rfl) rfl ?_
    refine sw_jn (fun k5 : Int32 → PM Int32 => ∀ (e4 : Int32), SW Γ iI 82 [some (.ref a0), none, none, none, none, some (.int e4), none] [] (k5 e4)) ?_ (fun k5 hk5 => ?_)
    · intro e4
      refine sw_aload_n (z := a0) (pc' := 83) ok dX8_odds_82 rfl rfl ?_
      refine sw_iload (z := e4) (pc' := 85) ok dX8_odds_83 rfl rfl ?_
      refine sw_i2l (pc' := 86) ok dX8_odds_85 rfl ?_
      refine sw_ldc2 (v := 144) (pc' := 89) ok dX8_odds_86 rfl wd_645 ?_
      refine sw_cllV_U (st := []) (as := [.long (Int32.toInt64 e4), .long 144]) (pc' := 92) ok (S_X8_tell a0 (Int32.toInt64 e4) 144) (by decide) lk_X8_323 rfl dX8_odds_89 rfl (Nat.le_of_ble_eq_true rfl) rfl (fun _ => ?_)
      refine sw_iconst (v := 1) (pc' := 93) ok dX8_odds_92 rfl cc_iconst_1 ?_
      exact sw_ret ok okr dX8_odds_93 trivial rfl
    exact W_X8_odds_42 ok okr k5 a0 x1 x2 x3 x4 hk5 4000 0 0
  refine sw_iconst (v := (-1)) (pc' := 35) ok dX8_odds_34 rfl cc_iconst_m1 ?_
  exact sw_ret ok okr dX8_odds_35 trivial rfl
theorem S_X8_odds (a0 : Nat) (x1 : Int32) (x2 : Int32) (x3 : Int32) (x4 : Int32) : Sim 7 yX8_odds cX8_odds 7 (some .int) iI [.ref a0, .int x1, .int x2, .int x3, .int x4] (P_X8_odds a0 x1 x2 x3 x4) := Sim.intro wd_1146 (by decide) (by decide +kernel) (Nat.le_of_ble_eq_true rfl) (fun Γ ok okr => W_X8_odds ok okr a0 x1 x2 x3 x4)
theorem dX8_mid_0 : decode cX8_mid 0 = .ok (.aload_n 0, 1) := by decide +kernel
theorem dX8_mid_1 : decode cX8_mid 1 = .ok (.iload_n 1, 1) := by decide +kernel
theorem dX8_mid_2 : decode cX8_mid 2 = .ok (.iload_n 2, 1) := by decide +kernel
theorem dX8_mid_3 : decode cX8_mid 3 = .ok (.invokevirtual 198, 3) := by decide +kernel
theorem dX8_mid_6 : decode cX8_mid 6 = .ok (.ifCond .eq 15, 3) := by decide +kernel
theorem dX8_mid_9 : decode cX8_mid 9 = .ok (.iload_n 3, 1) := by decide +kernel
theorem dX8_mid_10 : decode cX8_mid 10 = .ok (.i2l, 1) := by decide +kernel
theorem dX8_mid_11 : decode cX8_mid 11 = .ok (.lconst 0, 1) := by decide +kernel
theorem dX8_mid_12 : decode cX8_mid 12 = .ok (.ldc2_w 313, 3) := by decide +kernel
theorem dX8_mid_15 : decode cX8_mid 15 = .ok (.invokestatic 80, 3) := by decide +kernel
theorem dX8_mid_18 : decode cX8_mid 18 = .ok (.ifCond .ne 5, 3) := by decide +kernel
theorem dX8_mid_21 : decode cX8_mid 21 = .ok (.iconst (-1), 1) := by decide +kernel
theorem dX8_mid_22 : decode cX8_mid 22 = .ok (.ireturn, 1) := by decide +kernel
theorem dX8_mid_23 : decode cX8_mid 23 = .ok (.iconst 0, 1) := by decide +kernel
theorem dX8_mid_24 : decode cX8_mid 24 = .ok (.istore 4, 2) := by decide +kernel
theorem dX8_mid_26 : decode cX8_mid 26 = .ok (.iconst 0, 1) := by decide +kernel
theorem dX8_mid_27 : decode cX8_mid 27 = .ok (.istore 5, 2) := by decide +kernel
theorem dX8_mid_29 : decode cX8_mid 29 = .ok (.iload 5, 2) := by decide +kernel
theorem dX8_mid_31 : decode cX8_mid 31 = .ok (.iconst 4, 1) := by decide +kernel
theorem dX8_mid_32 : decode cX8_mid 32 = .ok (.if_icmp .ge 29, 3) := by decide +kernel
theorem dX8_mid_35 : decode cX8_mid 35 = .ok (.iload 4, 2) := by decide +kernel
theorem dX8_mid_37 : decode cX8_mid 37 = .ok (.aload_n 0, 1) := by decide +kernel
theorem dX8_mid_38 : decode cX8_mid 38 = .ok (.iload_n 1, 1) := by decide +kernel
theorem dX8_mid_39 : decode cX8_mid 39 = .ok (.iload_n 2, 1) := by decide +kernel
theorem dX8_mid_40 : decode cX8_mid 40 = .ok (.iload 5, 2) := by decide +kernel
theorem dX8_mid_42 : decode cX8_mid 42 = .ok (.invokevirtual 315, 3) := by decide +kernel
theorem dX8_mid_45 : decode cX8_mid 45 = .ok (.iload 5, 2) := by decide +kernel
theorem dX8_mid_47 : decode cX8_mid 47 = .ok (.iload_n 3, 1) := by decide +kernel
theorem dX8_mid_48 : decode cX8_mid 48 = .ok (.invokestatic 318, 3) := by decide +kernel
theorem dX8_mid_51 : decode cX8_mid 51 = .ok (.imul, 1) := by decide +kernel
theorem dX8_mid_52 : decode cX8_mid 52 = .ok (.iadd, 1) := by decide +kernel
theorem dX8_mid_53 : decode cX8_mid 53 = .ok (.istore 4, 2) := by decide +kernel
theorem dX8_mid_55 : decode cX8_mid 55 = .ok (.iinc 5 1, 3) := by decide +kernel
theorem dX8_mid_58 : decode cX8_mid 58 = .ok (.goto (-29), 3) := by decide +kernel
theorem dX8_mid_61 : decode cX8_mid 61 = .ok (.aload_n 0, 1) := by decide +kernel
theorem dX8_mid_62 : decode cX8_mid 62 = .ok (.iload 4, 2) := by decide +kernel
theorem dX8_mid_64 : decode cX8_mid 64 = .ok (.i2l, 1) := by decide +kernel
theorem dX8_mid_65 : decode cX8_mid 65 = .ok (.ldc2_w 321, 3) := by decide +kernel
theorem dX8_mid_68 : decode cX8_mid 68 = .ok (.invokevirtual 323, 3) := by decide +kernel
theorem dX8_mid_71 : decode cX8_mid 71 = .ok (.iconst 1, 1) := by decide +kernel
theorem dX8_mid_72 : decode cX8_mid 72 = .ok (.ireturn, 1) := by decide +kernel
def P_X8_mid_29 (k_61 : Int32 → PM Int32) (p0 : Nat) (p1 : Int32) (p2 : Int32) (p3 : Int32) : Nat → Int32 → Int32 → PM Int32
  | 0, _, _ => failM
  | n + 1, q4, q5 =>
    ifB (decide (4 ≤ q5)) (
    k_61 q4) (
    cllV 8 p0 (P_X8_strength p0 p1 p2 q5) fun v5 =>
    cll0 (P_X8_weight q5 p3) fun v6 =>
    P_X8_mid_29 k_61 p0 p1 p2 p3 n (q4 + (v5 * v6)) (q5 + 1))
def P_X8_mid (a0 : Nat) (x1 : Int32) (x2 : Int32) (x3 : Int32) : PM Int32 :=
cllV 8 a0 (P_X8_isPair a0 x1 x2) fun v1 =>
ifB (decide (v1 = 0)) (
pureM ((-1))) (
cll0 (P_X8_in (Int32.toInt64 x3) 0 12) fun v2 =>
ifB (decide (¬ v2 = 0)) (
jn (fun (e3 : Int32) =>
cllV 8 a0 (P_X8_tell a0 (Int32.toInt64 e3) 144) fun _ =>
pureM 1) fun k4 =>
P_X8_mid_29 k4 a0 x1 x2 x3 4000 0 0) (
pureM ((-1))))
set_option maxHeartbeats 4000000 in
set_option maxRecDepth 100000 in
theorem W_X8_mid_29 {Γ : Cx} (ok : OKc Γ cX8_mid RX8 7 "mid") (okr : OKr Γ cX8_mid (some .int)) (k_61 : Int32 → PM Int32) (p0 : Nat) (p1 : Int32) (p2 : Int32) (p3 : Int32) (hk_61 : ∀ (y4 : Int32), SW Γ iI 61 [some (.ref p0), none, none, none, some (.int y4), none] [] (k_61 y4)) : ∀ (n : Nat) (q4 : Int32) (q5 : Int32), SW Γ iI 29 [some (.ref p0), some (.int p1), some (.int p2), some (.int p3), some (.int q4), some (.int q5)] [] (P_X8_mid_29 k_61 p0 p1 p2 p3 n q4 q5) := by
  intro n
  induction n with
  | zero =>
    intros
    exact sw_fail
  | succ n ih =>
    intro q4 q5
    unfold P_X8_mid_29
    refine sw_iload (z := q5) (pc' := 31) ok dX8_mid_29 rfl rfl ?_
    refine sw_iconst (v := 4) (pc' := 32) ok dX8_mid_31 rfl cc_iconst_4 ?_
    refine sw_icmp_ge (tgt := 61) (pc' := 35) ok dX8_mid_32 (by decide) rfl ?_ ?_
    · refine sw_fg (l' := [some (.ref p0), none, none, none, some (.int q4), none]) [true, false, false, false, true, false] rfl ?_
      exact hk_61 q4
    refine sw_iload (z := q4) (pc' := 37) ok dX8_mid_35 rfl rfl ?_
    refine sw_aload_n (z := p0) (pc' := 38) ok dX8_mid_37 rfl rfl ?_
    refine sw_iload_n (z := p1) (pc' := 39) ok dX8_mid_38 rfl rfl ?_
    refine sw_iload_n (z := p2) (pc' := 40) ok dX8_mid_39 rfl rfl ?_
    refine sw_iload (z := q5) (pc' := 42) ok dX8_mid_40 rfl rfl ?_
    refine sw_cllV_I (st := [.int q4]) (as := [.int p1, .int p2, .int q5]) (pc' := 45) ok (S_X8_strength p0 p1 p2 q5) (by decide) lk_X8_315 rfl dX8_mid_42 rfl (Nat.le_of_ble_eq_true rfl) rfl (fun v5 => ?_)
    refine sw_iload (z := q5) (pc' := 47) ok dX8_mid_45 rfl rfl ?_
    refine sw_iload_n (z := p3) (pc' := 48) ok dX8_mid_47 rfl rfl ?_
    refine sw_cll0_I (st := [.int v5, .int q4]) (as := [.int q5, .int p3]) (pc' := 51) ok (S_X8_weight q5 p3) (by decide) lk_X8_318 rfl dX8_mid_48 rfl (Nat.le_of_ble_eq_true rfl) rfl (fun v6 => ?_)
    refine sw_imul (pc' := 52) ok dX8_mid_51 rfl ?_
    refine sw_iadd (pc' := 53) ok dX8_mid_52 rfl ?_
    refine sw_istore (pc' := 55) (l' := [some (.ref p0), some (.int p1), some (.int p2), some (.int p3), some (.int (q4 + (v5 * v6))), some (.int q5)]) ok dX8_mid_53 rfl (Nat.le_of_ble_eq_true rfl) rfl ?_
    refine sw_iinc (z := q5) (v := q5 + 1) (pc' := 58) (l' := [some (.ref p0), some (.int p1), some (.int p2), some (.int p3), some (.int (q4 + (v5 * v6))), some (.int (q5 + 1))]) ok dX8_mid_55 rfl rfl (by rw [cc_iconst_1]) rfl ?_
    refine sw_goto (tgt := 29) ok dX8_mid_58 (by decide) ?_
    exact ih (q4 + (v5 * v6)) (q5 + 1)
set_option maxHeartbeats 4000000 in
set_option maxRecDepth 100000 in
theorem W_X8_mid {Γ : Cx} (ok : OKc Γ cX8_mid RX8 7 "mid") (okr : OKr Γ cX8_mid (some .int)) (a0 : Nat) (x1 : Int32) (x2 : Int32) (x3 : Int32) : SW Γ iI 0 [some (.ref a0), some (.int x1), some (.int x2), some (.int x3), none, none] [] (P_X8_mid a0 x1 x2 x3) := by
  unfold P_X8_mid
  refine sw_aload_n (z := a0) (pc' := 1) ok dX8_mid_0 rfl rfl ?_
  refine sw_iload_n (z := x1) (pc' := 2) ok dX8_mid_1 rfl rfl ?_
  refine sw_iload_n (z := x2) (pc' := 3) ok dX8_mid_2 rfl rfl ?_
  refine sw_cllV_I (st := []) (as := [.int x1, .int x2]) (pc' := 6) ok (S_X8_isPair a0 x1 x2) (by decide) lk_X8_198 rfl dX8_mid_3 rfl (Nat.le_of_ble_eq_true rfl) rfl (fun v1 => ?_)
  refine sw_if_eq (tgt := 21) (pc' := 9) ok dX8_mid_6 (by decide) rfl ?_ ?_
  · refine sw_iconst (v := (-1)) (pc' := 22) ok dX8_mid_21 rfl cc_iconst_m1 ?_
    exact sw_ret ok okr dX8_mid_22 trivial rfl
  refine sw_iload_n (z := x3) (pc' := 10) ok dX8_mid_9 rfl rfl ?_
  refine sw_i2l (pc' := 11) ok dX8_mid_10 rfl ?_
  refine sw_lconst (v := 0) (pc' := 12) ok dX8_mid_11 rfl cc_lconst_0 ?_
  refine sw_ldc2 (v := 12) (pc' := 15) ok dX8_mid_12 rfl wd_644 ?_
  refine sw_cll0_I (st := []) (as := [.long (Int32.toInt64 x3), .long 0, .long 12]) (pc' := 18) ok (S_X8_in (Int32.toInt64 x3) 0 12) (by decide) lk_X8_80 rfl dX8_mid_15 rfl (Nat.le_of_ble_eq_true rfl) rfl (fun v2 => ?_)
  refine sw_if_ne (tgt := 23) (pc' := 21) ok dX8_mid_18 (by decide) rfl ?_ ?_
  · refine sw_iconst (v := 0) (pc' := 24) ok dX8_mid_23 rfl cc_iconst_0 ?_
    refine sw_istore (pc' := 26) (l' := [some (.ref a0), some (.int x1), some (.int x2), some (.int x3), some (.int 0), none]) ok dX8_mid_24 rfl (Nat.le_of_ble_eq_true rfl) rfl ?_
    refine sw_iconst (v := 0) (pc' := 27) ok dX8_mid_26 rfl cc_iconst_0 ?_
    refine sw_istore (pc' := 29) (l' := [some (.ref a0), some (.int x1), some (.int x2), some (.int x3), some (.int 0), some (.int 0)]) ok dX8_mid_27 rfl (Nat.le_of_ble_eq_true rfl) rfl ?_
    refine sw_jn (fun k4 : Int32 → PM Int32 => ∀ (e3 : Int32), SW Γ iI 61 [some (.ref a0), none, none, none, some (.int e3), none] [] (k4 e3)) ?_ (fun k4 hk4 => ?_)
    · intro e3
      refine sw_aload_n (z := a0) (pc' := 62) ok dX8_mid_61 rfl rfl ?_
      refine sw_iload (z := e3) (pc' := 64) ok dX8_mid_62 rfl rfl ?_
      refine sw_i2l (pc' := 65) ok dX8_mid_64 rfl ?_
      refine sw_ldc2 (v := 144) (pc' := 68) ok dX8_mid_65 rfl wd_645 ?_
      refine sw_cllV_U (st := []) (as := [.long (Int32.toInt64 e3), .long 144]) (pc' := 71) ok (S_X8_tell a0 (Int32.toInt64 e3) 144) (by decide) lk_X8_323 rfl dX8_mid_68 rfl (Nat.le_of_ble_eq_true rfl) rfl (fun _ => ?_)
      refine sw_iconst (v := 1) (pc' := 72) ok dX8_mid_71 rfl cc_iconst_1 ?_
      exact sw_ret ok okr dX8_mid_72 trivial rfl
    exact W_X8_mid_29 ok okr k4 a0 x1 x2 x3 hk4 4000 0 0
  refine sw_iconst (v := (-1)) (pc' := 22) ok dX8_mid_21 rfl cc_iconst_m1 ?_
  exact sw_ret ok okr dX8_mid_22 trivial rfl
theorem S_X8_mid (a0 : Nat) (x1 : Int32) (x2 : Int32) (x3 : Int32) : Sim 7 yX8_mid cX8_mid 6 (some .int) iI [.ref a0, .int x1, .int x2, .int x3] (P_X8_mid a0 x1 x2 x3) := Sim.intro wd_1147 (by decide) (by decide +kernel) (Nat.le_of_ble_eq_true rfl) (fun Γ ok okr => W_X8_mid ok okr a0 x1 x2 x3)
theorem dX8_lots_0 : decode cX8_lots 0 = .ok (.iload_n 1, 1) := by decide +kernel
theorem dX8_lots_1 : decode cX8_lots 1 = .ok (.i2l, 1) := by decide +kernel
theorem dX8_lots_2 : decode cX8_lots 2 = .ok (.lconst 1, 1) := by decide +kernel
theorem dX8_lots_3 : decode cX8_lots 3 = .ok (.ldc2_w 327, 3) := by decide +kernel
theorem dX8_lots_6 : decode cX8_lots 6 = .ok (.invokestatic 80, 3) := by decide +kernel
theorem dX8_lots_9 : decode cX8_lots 9 = .ok (.ifCond .eq 15, 3) := by decide +kernel
theorem dX8_lots_12 : decode cX8_lots 12 = .ok (.iload_n 2, 1) := by decide +kernel
theorem dX8_lots_13 : decode cX8_lots 13 = .ok (.i2l, 1) := by decide +kernel
theorem dX8_lots_14 : decode cX8_lots 14 = .ok (.lconst 1, 1) := by decide +kernel
theorem dX8_lots_15 : decode cX8_lots 15 = .ok (.ldc2_w 329, 3) := by decide +kernel
theorem dX8_lots_18 : decode cX8_lots 18 = .ok (.invokestatic 80, 3) := by decide +kernel
theorem dX8_lots_21 : decode cX8_lots 21 = .ok (.ifCond .ne 5, 3) := by decide +kernel
theorem dX8_lots_24 : decode cX8_lots 24 = .ok (.iconst (-1), 1) := by decide +kernel
theorem dX8_lots_25 : decode cX8_lots 25 = .ok (.ireturn, 1) := by decide +kernel
theorem dX8_lots_26 : decode cX8_lots 26 = .ok (.aload_n 0, 1) := by decide +kernel
theorem dX8_lots_27 : decode cX8_lots 27 = .ok (.getfield 156, 3) := by decide +kernel
theorem dX8_lots_30 : decode cX8_lots 30 = .ok (.ifCond .ne 6, 3) := by decide +kernel
theorem dX8_lots_33 : decode cX8_lots 33 = .ok (.bipush (-4), 2) := by decide +kernel
theorem dX8_lots_35 : decode cX8_lots 35 = .ok (.ireturn, 1) := by decide +kernel
theorem dX8_lots_36 : decode cX8_lots 36 = .ok (.aload_n 0, 1) := by decide +kernel
theorem dX8_lots_37 : decode cX8_lots 37 = .ok (.getfield 159, 3) := by decide +kernel
theorem dX8_lots_40 : decode cX8_lots 40 = .ok (.iload_n 1, 1) := by decide +kernel
theorem dX8_lots_41 : decode cX8_lots 41 = .ok (.iadd, 1) := by decide +kernel
theorem dX8_lots_42 : decode cX8_lots 42 = .ok (.bipush 40, 2) := by decide +kernel
theorem dX8_lots_44 : decode cX8_lots 44 = .ok (.if_icmp .le 6, 3) := by decide +kernel
theorem dX8_lots_47 : decode cX8_lots 47 = .ok (.bipush (-2), 2) := by decide +kernel
theorem dX8_lots_49 : decode cX8_lots 49 = .ok (.ireturn, 1) := by decide +kernel
theorem dX8_lots_50 : decode cX8_lots 50 = .ok (.iload_n 2, 1) := by decide +kernel
theorem dX8_lots_51 : decode cX8_lots 51 = .ok (.i2l, 1) := by decide +kernel
theorem dX8_lots_52 : decode cX8_lots 52 = .ok (.lstore_n 3, 1) := by decide +kernel
theorem dX8_lots_53 : decode cX8_lots 53 = .ok (.iconst 0, 1) := by decide +kernel
theorem dX8_lots_54 : decode cX8_lots 54 = .ok (.istore 5, 2) := by decide +kernel
theorem dX8_lots_56 : decode cX8_lots 56 = .ok (.iload 5, 2) := by decide +kernel
theorem dX8_lots_58 : decode cX8_lots 58 = .ok (.iload_n 1, 1) := by decide +kernel
theorem dX8_lots_59 : decode cX8_lots 59 = .ok (.if_icmp .ge 103, 3) := by decide +kernel
theorem dX8_lots_62 : decode cX8_lots 62 = .ok (.lload_n 3, 1) := by decide +kernel
theorem dX8_lots_63 : decode cX8_lots 63 = .ok (.ldc2_w 331, 3) := by decide +kernel
theorem dX8_lots_66 : decode cX8_lots 66 = .ok (.lmul, 1) := by decide +kernel
theorem dX8_lots_67 : decode cX8_lots 67 = .ok (.ldc2_w 333, 3) := by decide +kernel
theorem dX8_lots_70 : decode cX8_lots 70 = .ok (.lrem, 1) := by decide +kernel
theorem dX8_lots_71 : decode cX8_lots 71 = .ok (.lstore_n 3, 1) := by decide +kernel
theorem dX8_lots_72 : decode cX8_lots 72 = .ok (.aload_n 0, 1) := by decide +kernel
theorem dX8_lots_73 : decode cX8_lots 73 = .ok (.invokevirtual 211, 3) := by decide +kernel
theorem dX8_lots_76 : decode cX8_lots 76 = .ok (.lload_n 3, 1) := by decide +kernel
theorem dX8_lots_77 : decode cX8_lots 77 = .ok (.ldc2_w 335, 3) := by decide +kernel
theorem dX8_lots_80 : decode cX8_lots 80 = .ok (.lrem, 1) := by decide +kernel
theorem dX8_lots_81 : decode cX8_lots 81 = .ok (.lconst 0, 1) := by decide +kernel
theorem dX8_lots_82 : decode cX8_lots 82 = .ok (.lcmp, 1) := by decide +kernel
theorem dX8_lots_83 : decode cX8_lots 83 = .ok (.ifCond .ne 22, 3) := by decide +kernel
theorem dX8_lots_86 : decode cX8_lots 86 = .ok (.aload_n 0, 1) := by decide +kernel
theorem dX8_lots_87 : decode cX8_lots 87 = .ok (.lload_n 3, 1) := by decide +kernel
theorem dX8_lots_88 : decode cX8_lots 88 = .ok (.ldc2_w 337, 3) := by decide +kernel
theorem dX8_lots_91 : decode cX8_lots 91 = .ok (.ldiv, 1) := by decide +kernel
theorem dX8_lots_92 : decode cX8_lots 92 = .ok (.ldc2_w 283, 3) := by decide +kernel
theorem dX8_lots_95 : decode cX8_lots 95 = .ok (.lrem, 1) := by decide +kernel
theorem dX8_lots_96 : decode cX8_lots 96 = .ok (.l2i, 1) := by decide +kernel
theorem dX8_lots_97 : decode cX8_lots 97 = .ok (.invokevirtual 219, 3) := by decide +kernel
theorem dX8_lots_100 : decode cX8_lots 100 = .ok (.istore 6, 2) := by decide +kernel
theorem dX8_lots_102 : decode cX8_lots 102 = .ok (.goto 54, 3) := by decide +kernel
theorem dX8_lots_105 : decode cX8_lots 105 = .ok (.lload_n 3, 1) := by decide +kernel
theorem dX8_lots_106 : decode cX8_lots 106 = .ok (.ldc2_w 337, 3) := by decide +kernel
theorem dX8_lots_109 : decode cX8_lots 109 = .ok (.ldiv, 1) := by decide +kernel
theorem dX8_lots_110 : decode cX8_lots 110 = .ok (.aload_n 0, 1) := by decide +kernel
theorem dX8_lots_111 : decode cX8_lots 111 = .ok (.getfield 156, 3) := by decide +kernel
theorem dX8_lots_114 : decode cX8_lots 114 = .ok (.i2l, 1) := by decide +kernel
theorem dX8_lots_115 : decode cX8_lots 115 = .ok (.lrem, 1) := by decide +kernel
theorem dX8_lots_116 : decode cX8_lots 116 = .ok (.l2i, 1) := by decide +kernel
theorem dX8_lots_117 : decode cX8_lots 117 = .ok (.istore 6, 2) := by decide +kernel
theorem dX8_lots_119 : decode cX8_lots 119 = .ok (.iload 6, 2) := by decide +kernel
theorem dX8_lots_121 : decode cX8_lots 121 = .ok (.iconst 1, 1) := by decide +kernel
theorem dX8_lots_122 : decode cX8_lots 122 = .ok (.iadd, 1) := by decide +kernel
theorem dX8_lots_123 : decode cX8_lots 123 = .ok (.i2l, 1) := by decide +kernel
theorem dX8_lots_124 : decode cX8_lots 124 = .ok (.lload_n 3, 1) := by decide +kernel
theorem dX8_lots_125 : decode cX8_lots 125 = .ok (.ldc2_w 339, 3) := by decide +kernel
theorem dX8_lots_128 : decode cX8_lots 128 = .ok (.ldiv, 1) := by decide +kernel
theorem dX8_lots_129 : decode cX8_lots 129 = .ok (.aload_n 0, 1) := by decide +kernel
theorem dX8_lots_130 : decode cX8_lots 130 = .ok (.getfield 156, 3) := by decide +kernel
theorem dX8_lots_133 : decode cX8_lots 133 = .ok (.iconst 1, 1) := by decide +kernel
theorem dX8_lots_134 : decode cX8_lots 134 = .ok (.isub, 1) := by decide +kernel
theorem dX8_lots_135 : decode cX8_lots 135 = .ok (.i2l, 1) := by decide +kernel
theorem dX8_lots_136 : decode cX8_lots 136 = .ok (.lrem, 1) := by decide +kernel
theorem dX8_lots_137 : decode cX8_lots 137 = .ok (.ladd, 1) := by decide +kernel
theorem dX8_lots_138 : decode cX8_lots 138 = .ok (.aload_n 0, 1) := by decide +kernel
theorem dX8_lots_139 : decode cX8_lots 139 = .ok (.getfield 156, 3) := by decide +kernel
theorem dX8_lots_142 : decode cX8_lots 142 = .ok (.i2l, 1) := by decide +kernel
theorem dX8_lots_143 : decode cX8_lots 143 = .ok (.lrem, 1) := by decide +kernel
theorem dX8_lots_144 : decode cX8_lots 144 = .ok (.l2i, 1) := by decide +kernel
theorem dX8_lots_145 : decode cX8_lots 145 = .ok (.istore 7, 2) := by decide +kernel
theorem dX8_lots_147 : decode cX8_lots 147 = .ok (.aload_n 0, 1) := by decide +kernel
theorem dX8_lots_148 : decode cX8_lots 148 = .ok (.iconst 0, 1) := by decide +kernel
theorem dX8_lots_149 : decode cX8_lots 149 = .ok (.iload 6, 2) := by decide +kernel
theorem dX8_lots_151 : decode cX8_lots 151 = .ok (.iload 7, 2) := by decide +kernel
theorem dX8_lots_153 : decode cX8_lots 153 = .ok (.invokevirtual 214, 3) := by decide +kernel
theorem dX8_lots_156 : decode cX8_lots 156 = .ok (.iinc 5 1, 3) := by decide +kernel
theorem dX8_lots_159 : decode cX8_lots 159 = .ok (.goto (-103), 3) := by decide +kernel
theorem dX8_lots_162 : decode cX8_lots 162 = .ok (.aload_n 0, 1) := by decide +kernel
theorem dX8_lots_163 : decode cX8_lots 163 = .ok (.getfield 22, 3) := by decide +kernel
theorem dX8_lots_166 : decode cX8_lots 166 = .ok (.iconst 0, 1) := by decide +kernel
theorem dX8_lots_167 : decode cX8_lots 167 = .ok (.iaload, 1) := by decide +kernel
theorem dX8_lots_168 : decode cX8_lots 168 = .ok (.ireturn, 1) := by decide +kernel
def P_X8_lots_56 (k_162 : PM Int32) (p0 : Nat) (p1 : Int32) : Nat → Int64 → Int32 → PM Int32
  | 0, _, _ => failM
  | n + 1, q3, q5 =>
    ifB (decide (p1 ≤ q5)) (
    k_162) (
    remL (q3 * 48271) 2147483647 fun v8 =>
    cllV 8 p0 (P_X8_remember p0) fun _ =>
    remL v8 4 fun v9 =>
    jn (
    P_X8_lots_56 k_162 p0 p1 n v8 (q5 + 1)) fun k10 =>
    ifB (decide (¬ (lg_cmp v9 0) = 0)) (
    divL v8 8 fun v11 =>
    getI 8 10 p0 fun v12 =>
    remL v11 (Int32.toInt64 v12) fun v13 =>
    divL v8 64 fun v14 =>
    getI 8 10 p0 fun v15 =>
    remL v14 (Int32.toInt64 (v15 - 1)) fun v16 =>
    getI 8 10 p0 fun v17 =>
    remL ((Int32.toInt64 ((Int64.toInt32 v13) + 1)) + v16) (Int32.toInt64 v17) fun v18 =>
    cllV 8 p0 (P_X8_watchIn p0 0 (Int64.toInt32 v13) (Int64.toInt32 v18)) fun _ =>
    k10) (
    divL v8 8 fun v19 =>
    remL v19 30 fun v20 =>
    cllV 8 p0 (P_X8_send p0 (Int64.toInt32 v20)) fun v21 =>
    k10))
def P_X8_lots (a0 : Nat) (x1 : Int32) (x2 : Int32) : PM Int32 :=
cll0 (P_X8_in (Int32.toInt64 x1) 1 20) fun v1 =>
ifB (decide (v1 = 0)) (
pureM ((-1))) (
cll0 (P_X8_in (Int32.toInt64 x2) 1 2147483646) fun v2 =>
ifB (decide (¬ v2 = 0)) (
getI 8 10 a0 fun v3 =>
ifB (decide (¬ v3 = 0)) (
getI 8 11 a0 fun v4 =>
ifB (decide ((v4 + x1) ≤ 40)) (
jn (
getR 8 4 a0 fun v5 =>
ald v5 0 fun v6 =>
pureM v6) fun k7 =>
P_X8_lots_56 k7 a0 x1 4000 (Int32.toInt64 x2) 0) (
pureM ((-2)))) (
pureM ((-4)))) (
pureM ((-1))))
set_option maxHeartbeats 4000000 in
set_option maxRecDepth 100000 in
theorem W_X8_lots_56 {Γ : Cx} (ok : OKc Γ cX8_lots RX8 7 "lots") (okr : OKr Γ cX8_lots (some .int)) (k_162 : PM Int32) (p0 : Nat) (p1 : Int32) (hk_162 : SW Γ iI 162 [some (.ref p0), none, none, none, none, none, none, none] [] (k_162)) : ∀ (n : Nat) (q3 : Int64) (q5 : Int32), SW Γ iI 56 [some (.ref p0), some (.int p1), none, some (.long q3), none, some (.int q5), none, none] [] (P_X8_lots_56 k_162 p0 p1 n q3 q5) := by
  intro n
  induction n with
  | zero =>
    intros
    exact sw_fail
  | succ n ih =>
    intro q3 q5
    unfold P_X8_lots_56
    refine sw_iload (z := q5) (pc' := 58) ok dX8_lots_56 rfl rfl ?_
    refine sw_iload_n (z := p1) (pc' := 59) ok dX8_lots_58 rfl rfl ?_
    refine sw_icmp_ge (tgt := 162) (pc' := 62) ok dX8_lots_59 (by decide) rfl ?_ ?_
    · refine sw_fg (l' := [some (.ref p0), none, none, none, none, none, none, none]) [true, false, false, false, false, false, false, false] rfl ?_
      exact hk_162
    refine sw_lload_n (z := q3) (pc' := 63) ok dX8_lots_62 rfl rfl ?_
    refine sw_ldc2 (v := 48271) (pc' := 66) ok dX8_lots_63 rfl wd_656 ?_
    refine sw_lmul (pc' := 67) ok dX8_lots_66 rfl ?_
    refine sw_ldc2 (v := 2147483647) (pc' := 70) ok dX8_lots_67 rfl wd_657 ?_
    refine sw_remL (pc' := 71) ok dX8_lots_70 rfl (fun v8 => ?_)
    refine sw_lstore_n (pc' := 72) (l' := [some (.ref p0), some (.int p1), none, some (.long v8), none, some (.int q5), none, none]) ok dX8_lots_71 rfl (Nat.le_of_ble_eq_true rfl) rfl ?_
    refine sw_aload_n (z := p0) (pc' := 73) ok dX8_lots_72 rfl rfl ?_
    refine sw_cllV_U (st := []) (as := []) (pc' := 76) ok (S_X8_remember p0) (by decide) lk_X8_211 rfl dX8_lots_73 rfl (Nat.le_of_ble_eq_true rfl) rfl (fun _ => ?_)
    refine sw_lload_n (z := v8) (pc' := 77) ok dX8_lots_76 rfl rfl ?_
    refine sw_ldc2 (v := 4) (pc' := 80) ok dX8_lots_77 rfl wd_658 ?_
    refine sw_remL (pc' := 81) ok dX8_lots_80 rfl (fun v9 => ?_)
    refine sw_lconst (v := 0) (pc' := 82) ok dX8_lots_81 rfl cc_lconst_0 ?_
    refine sw_lcmp (pc' := 83) ok dX8_lots_82 rfl ?_
    refine sw_jn (fun k10 : PM Int32 => SW Γ iI 156 [some (.ref p0), some (.int p1), none, some (.long v8), none, some (.int q5), none, none] [] (k10)) ?_ (fun k10 hk10 => ?_)
    · refine sw_iinc (z := q5) (v := q5 + 1) (pc' := 159) (l' := [some (.ref p0), some (.int p1), none, some (.long v8), none, some (.int (q5 + 1)), none, none]) ok dX8_lots_156 rfl rfl (by rw [cc_iconst_1]) rfl ?_
      refine sw_goto (tgt := 56) ok dX8_lots_159 (by decide) ?_
      exact ih v8 (q5 + 1)
    refine sw_if_ne (tgt := 105) (pc' := 86) ok dX8_lots_83 (by decide) rfl ?_ ?_
    · refine sw_lload_n (z := v8) (pc' := 106) ok dX8_lots_105 rfl rfl ?_
      refine sw_ldc2 (v := 8) (pc' := 109) ok dX8_lots_106 rfl wd_659 ?_
      refine sw_divL (pc' := 110) ok dX8_lots_109 rfl (fun v11 => ?_)
      refine sw_aload_n (z := p0) (pc' := 111) ok dX8_lots_110 rfl rfl ?_
      refine sw_getI (pc' := 114) ok (fr_X8_156.g) dX8_lots_111 rfl (fun v12 => ?_)
      refine sw_i2l (pc' := 115) ok dX8_lots_114 rfl ?_
      refine sw_remL (pc' := 116) ok dX8_lots_115 rfl (fun v13 => ?_)
      refine sw_l2i (pc' := 117) ok dX8_lots_116 rfl ?_
      refine sw_istore (pc' := 119) (l' := [some (.ref p0), some (.int p1), none, some (.long v8), none, some (.int q5), some (.int (Int64.toInt32 v13)), none]) ok dX8_lots_117 rfl (Nat.le_of_ble_eq_true rfl) rfl ?_
      refine sw_iload (z := (Int64.toInt32 v13)) (pc' := 121) ok dX8_lots_119 rfl rfl ?_
      refine sw_iconst (v := 1) (pc' := 122) ok dX8_lots_121 rfl cc_iconst_1 ?_
      refine sw_iadd (pc' := 123) ok dX8_lots_122 rfl ?_
      refine sw_i2l (pc' := 124) ok dX8_lots_123 rfl ?_
      refine sw_lload_n (z := v8) (pc' := 125) ok dX8_lots_124 rfl rfl ?_
      refine sw_ldc2 (v := 64) (pc' := 128) ok dX8_lots_125 rfl wd_660 ?_
      refine sw_divL (pc' := 129) ok dX8_lots_128 rfl (fun v14 => ?_)
      refine sw_aload_n (z := p0) (pc' := 130) ok dX8_lots_129 rfl rfl ?_
      refine sw_getI (pc' := 133) ok (fr_X8_156.g) dX8_lots_130 rfl (fun v15 => ?_)
      refine sw_iconst (v := 1) (pc' := 134) ok dX8_lots_133 rfl cc_iconst_1 ?_
      refine sw_isub (pc' := 135) ok dX8_lots_134 rfl ?_
      refine sw_i2l (pc' := 136) ok dX8_lots_135 rfl ?_
      refine sw_remL (pc' := 137) ok dX8_lots_136 rfl (fun v16 => ?_)
      refine sw_ladd (pc' := 138) ok dX8_lots_137 rfl ?_
      refine sw_aload_n (z := p0) (pc' := 139) ok dX8_lots_138 rfl rfl ?_
      refine sw_getI (pc' := 142) ok (fr_X8_156.g) dX8_lots_139 rfl (fun v17 => ?_)
      refine sw_i2l (pc' := 143) ok dX8_lots_142 rfl ?_
      refine sw_remL (pc' := 144) ok dX8_lots_143 rfl (fun v18 => ?_)
      refine sw_l2i (pc' := 145) ok dX8_lots_144 rfl ?_
      refine sw_istore (pc' := 147) (l' := [some (.ref p0), some (.int p1), none, some (.long v8), none, some (.int q5), some (.int (Int64.toInt32 v13)), some (.int (Int64.toInt32 v18))]) ok dX8_lots_145 rfl (Nat.le_of_ble_eq_true rfl) rfl ?_
      refine sw_aload_n (z := p0) (pc' := 148) ok dX8_lots_147 rfl rfl ?_
      refine sw_iconst (v := 0) (pc' := 149) ok dX8_lots_148 rfl cc_iconst_0 ?_
      refine sw_iload (z := (Int64.toInt32 v13)) (pc' := 151) ok dX8_lots_149 rfl rfl ?_
      refine sw_iload (z := (Int64.toInt32 v18)) (pc' := 153) ok dX8_lots_151 rfl rfl ?_
      refine sw_cllV_U (st := []) (as := [.int 0, .int (Int64.toInt32 v13), .int (Int64.toInt32 v18)]) (pc' := 156) ok (S_X8_watchIn p0 0 (Int64.toInt32 v13) (Int64.toInt32 v18)) (by decide) lk_X8_214 rfl dX8_lots_153 rfl (Nat.le_of_ble_eq_true rfl) rfl (fun _ => ?_)
      refine sw_fg (l' := [some (.ref p0), some (.int p1), none, some (.long v8), none, some (.int q5), none, none]) [true, true, false, true, false, true, false, false] rfl ?_
      exact hk10
    refine sw_aload_n (z := p0) (pc' := 87) ok dX8_lots_86 rfl rfl ?_
    refine sw_lload_n (z := v8) (pc' := 88) ok dX8_lots_87 rfl rfl ?_
    refine sw_ldc2 (v := 8) (pc' := 91) ok dX8_lots_88 rfl wd_659 ?_
    refine sw_divL (pc' := 92) ok dX8_lots_91 rfl (fun v19 => ?_)
    refine sw_ldc2 (v := 30) (pc' := 95) ok dX8_lots_92 rfl wd_621 ?_
    refine sw_remL (pc' := 96) ok dX8_lots_95 rfl (fun v20 => ?_)
    refine sw_l2i (pc' := 97) ok dX8_lots_96 rfl ?_
    refine sw_cllV_I (st := []) (as := [.int (Int64.toInt32 v20)]) (pc' := 100) ok (S_X8_send p0 (Int64.toInt32 v20)) (by decide) lk_X8_219 rfl dX8_lots_97 rfl (Nat.le_of_ble_eq_true rfl) rfl (fun v21 => ?_)
    refine sw_istore (pc' := 102) (l' := [some (.ref p0), some (.int p1), none, some (.long v8), none, some (.int q5), some (.int v21), none]) ok dX8_lots_100 rfl (Nat.le_of_ble_eq_true rfl) rfl ?_
    refine sw_goto (tgt := 156) ok dX8_lots_102 (by decide) ?_
    refine sw_fg (l' := [some (.ref p0), some (.int p1), none, some (.long v8), none, some (.int q5), none, none]) [true, true, false, true, false, true, false, false] rfl ?_
    exact hk10
set_option maxHeartbeats 4000000 in
set_option maxRecDepth 100000 in
theorem W_X8_lots {Γ : Cx} (ok : OKc Γ cX8_lots RX8 7 "lots") (okr : OKr Γ cX8_lots (some .int)) (a0 : Nat) (x1 : Int32) (x2 : Int32) : SW Γ iI 0 [some (.ref a0), some (.int x1), some (.int x2), none, none, none, none, none] [] (P_X8_lots a0 x1 x2) := by
  unfold P_X8_lots
  refine sw_iload_n (z := x1) (pc' := 1) ok dX8_lots_0 rfl rfl ?_
  refine sw_i2l (pc' := 2) ok dX8_lots_1 rfl ?_
  refine sw_lconst (v := 1) (pc' := 3) ok dX8_lots_2 rfl cc_lconst_1 ?_
  refine sw_ldc2 (v := 20) (pc' := 6) ok dX8_lots_3 rfl wd_654 ?_
  refine sw_cll0_I (st := []) (as := [.long (Int32.toInt64 x1), .long 1, .long 20]) (pc' := 9) ok (S_X8_in (Int32.toInt64 x1) 1 20) (by decide) lk_X8_80 rfl dX8_lots_6 rfl (Nat.le_of_ble_eq_true rfl) rfl (fun v1 => ?_)
  refine sw_if_eq (tgt := 24) (pc' := 12) ok dX8_lots_9 (by decide) rfl ?_ ?_
  · refine sw_iconst (v := (-1)) (pc' := 25) ok dX8_lots_24 rfl cc_iconst_m1 ?_
    exact sw_ret ok okr dX8_lots_25 trivial rfl
  refine sw_iload_n (z := x2) (pc' := 13) ok dX8_lots_12 rfl rfl ?_
  refine sw_i2l (pc' := 14) ok dX8_lots_13 rfl ?_
  refine sw_lconst (v := 1) (pc' := 15) ok dX8_lots_14 rfl cc_lconst_1 ?_
  refine sw_ldc2 (v := 2147483646) (pc' := 18) ok dX8_lots_15 rfl wd_655 ?_
  refine sw_cll0_I (st := []) (as := [.long (Int32.toInt64 x2), .long 1, .long 2147483646]) (pc' := 21) ok (S_X8_in (Int32.toInt64 x2) 1 2147483646) (by decide) lk_X8_80 rfl dX8_lots_18 rfl (Nat.le_of_ble_eq_true rfl) rfl (fun v2 => ?_)
  refine sw_if_ne (tgt := 26) (pc' := 24) ok dX8_lots_21 (by decide) rfl ?_ ?_
  · refine sw_aload_n (z := a0) (pc' := 27) ok dX8_lots_26 rfl rfl ?_
    refine sw_getI (pc' := 30) ok (fr_X8_156.g) dX8_lots_27 rfl (fun v3 => ?_)
    refine sw_if_ne (tgt := 36) (pc' := 33) ok dX8_lots_30 (by decide) rfl ?_ ?_
    · refine sw_aload_n (z := a0) (pc' := 37) ok dX8_lots_36 rfl rfl ?_
      refine sw_getI (pc' := 40) ok (fr_X8_159.g) dX8_lots_37 rfl (fun v4 => ?_)
      refine sw_iload_n (z := x1) (pc' := 41) ok dX8_lots_40 rfl rfl ?_
      refine sw_iadd (pc' := 42) ok dX8_lots_41 rfl ?_
      refine sw_bipush (v := 40) (pc' := 44) ok dX8_lots_42 rfl cc_bipush_40 ?_
      refine sw_icmp_le (tgt := 50) (pc' := 47) ok dX8_lots_44 (by decide) rfl ?_ ?_
      · refine sw_iload_n (z := x2) (pc' := 51) ok dX8_lots_50 rfl rfl ?_
        refine sw_i2l (pc' := 52) ok dX8_lots_51 rfl ?_
        refine sw_lstore_n (pc' := 53) (l' := [some (.ref a0), some (.int x1), some (.int x2), some (.long (Int32.toInt64 x2)), none, none, none, none]) ok dX8_lots_52 rfl (Nat.le_of_ble_eq_true rfl) rfl ?_
        refine sw_iconst (v := 0) (pc' := 54) ok dX8_lots_53 rfl cc_iconst_0 ?_
        refine sw_istore (pc' := 56) (l' := [some (.ref a0), some (.int x1), some (.int x2), some (.long (Int32.toInt64 x2)), none, some (.int 0), none, none]) ok dX8_lots_54 rfl (Nat.le_of_ble_eq_true rfl) rfl ?_
        refine sw_jn (fun k7 : PM Int32 => SW Γ iI 162 [some (.ref a0), none, none, none, none, none, none, none] [] (k7)) ?_ (fun k7 hk7 => ?_)
        · refine sw_aload_n (z := a0) (pc' := 163) ok dX8_lots_162 rfl rfl ?_
          refine sw_getR (pc' := 166) ok (fr_X8_22.g) dX8_lots_163 rfl (fun v5 => ?_)
          refine sw_iconst (v := 0) (pc' := 167) ok dX8_lots_166 rfl cc_iconst_0 ?_
          refine sw_ald (pc' := 168) ok dX8_lots_167 rfl (fun v6 => ?_)
          exact sw_ret ok okr dX8_lots_168 trivial rfl
        refine sw_fg (l' := [some (.ref a0), some (.int x1), none, some (.long (Int32.toInt64 x2)), none, some (.int 0), none, none]) [true, true, false, true, false, true, false, false] rfl ?_
        exact W_X8_lots_56 ok okr k7 a0 x1 hk7 4000 (Int32.toInt64 x2) 0
      refine sw_bipush (v := (-2)) (pc' := 49) ok dX8_lots_47 rfl cc_bipush_m2 ?_
      exact sw_ret ok okr dX8_lots_49 trivial rfl
    refine sw_bipush (v := (-4)) (pc' := 35) ok dX8_lots_33 rfl cc_bipush_m4 ?_
    exact sw_ret ok okr dX8_lots_35 trivial rfl
  refine sw_iconst (v := (-1)) (pc' := 25) ok dX8_lots_24 rfl cc_iconst_m1 ?_
  exact sw_ret ok okr dX8_lots_25 trivial rfl
theorem S_X8_lots (a0 : Nat) (x1 : Int32) (x2 : Int32) : Sim 7 yX8_lots cX8_lots 8 (some .int) iI [.ref a0, .int x1, .int x2] (P_X8_lots a0 x1 x2) := Sim.intro wd_1148 (by decide) (by decide +kernel) (Nat.le_of_ble_eq_true rfl) (fun Γ ok okr => W_X8_lots ok okr a0 x1 x2)
theorem dX8_asked_0 : decode cX8_asked 0 = .ok (.aload_n 0, 1) := by decide +kernel
theorem dX8_asked_1 : decode cX8_asked 1 = .ok (.getfield 98, 3) := by decide +kernel
theorem dX8_asked_4 : decode cX8_asked 4 = .ok (.ireturn, 1) := by decide +kernel
def P_X8_asked (a0 : Nat) : PM Int32 :=
getI 8 14 a0 fun v1 =>
pureM v1
set_option maxHeartbeats 4000000 in
set_option maxRecDepth 100000 in
theorem W_X8_asked {Γ : Cx} (ok : OKc Γ cX8_asked RX8 0 "asked") (okr : OKr Γ cX8_asked (some .int)) (a0 : Nat) : SW Γ iI 0 [some (.ref a0)] [] (P_X8_asked a0) := by
  unfold P_X8_asked
  refine sw_aload_n (z := a0) (pc' := 1) ok dX8_asked_0 rfl rfl ?_
  refine sw_getI (pc' := 4) ok (fr_X8_98.g) dX8_asked_1 rfl (fun v1 => ?_)
  exact sw_ret ok okr dX8_asked_4 trivial rfl
theorem S_X8_asked (a0 : Nat) : Sim 0 yX8_asked cX8_asked 1 (some .int) iI [.ref a0] (P_X8_asked a0) := Sim.intro wd_1149 (by decide) (by decide +kernel) (Nat.le_of_ble_eq_true rfl) (fun Γ ok okr => W_X8_asked ok okr a0)
theorem dX8_upper_0 : decode cX8_upper 0 = .ok (.aload_n 0, 1) := by decide +kernel
theorem dX8_upper_1 : decode cX8_upper 1 = .ok (.getfield 280, 3) := by decide +kernel
theorem dX8_upper_4 : decode cX8_upper 4 = .ok (.lreturn, 1) := by decide +kernel
def P_X8_upper (a0 : Nat) : PM Int64 :=
getL 8 15 a0 fun v1 =>
pureM v1
set_option maxHeartbeats 4000000 in
set_option maxRecDepth 100000 in
theorem W_X8_upper {Γ : Cx} (ok : OKc Γ cX8_upper RX8 0 "upper") (okr : OKr Γ cX8_upper (some .long)) (a0 : Nat) : SW Γ iL 0 [some (.ref a0)] [] (P_X8_upper a0) := by
  unfold P_X8_upper
  refine sw_aload_n (z := a0) (pc' := 1) ok dX8_upper_0 rfl rfl ?_
  refine sw_getL (pc' := 4) ok (fr_X8_280.g) dX8_upper_1 rfl (fun v1 => ?_)
  exact sw_ret ok okr dX8_upper_4 trivial rfl
theorem S_X8_upper (a0 : Nat) : Sim 0 yX8_upper cX8_upper 1 (some .long) iL [.ref a0] (P_X8_upper a0) := Sim.intro wd_1150 (by decide) (by decide +kernel) (Nat.le_of_ble_eq_true rfl) (fun Γ ok okr => W_X8_upper ok okr a0)
theorem dX8_lower_0 : decode cX8_lower 0 = .ok (.aload_n 0, 1) := by decide +kernel
theorem dX8_lower_1 : decode cX8_lower 1 = .ok (.getfield 43, 3) := by decide +kernel
theorem dX8_lower_4 : decode cX8_lower 4 = .ok (.lreturn, 1) := by decide +kernel
def P_X8_lower (a0 : Nat) : PM Int64 :=
getL 8 16 a0 fun v1 =>
pureM v1
set_option maxHeartbeats 4000000 in
set_option maxRecDepth 100000 in
theorem W_X8_lower {Γ : Cx} (ok : OKc Γ cX8_lower RX8 0 "lower") (okr : OKr Γ cX8_lower (some .long)) (a0 : Nat) : SW Γ iL 0 [some (.ref a0)] [] (P_X8_lower a0) := by
  unfold P_X8_lower
  refine sw_aload_n (z := a0) (pc' := 1) ok dX8_lower_0 rfl rfl ?_
  refine sw_getL (pc' := 4) ok (fr_X8_43.g) dX8_lower_1 rfl (fun v1 => ?_)
  exact sw_ret ok okr dX8_lower_4 trivial rfl
theorem S_X8_lower (a0 : Nat) : Sim 0 yX8_lower cX8_lower 1 (some .long) iL [.ref a0] (P_X8_lower a0) := Sim.intro wd_1151 (by decide) (by decide +kernel) (Nat.le_of_ble_eq_true rfl) (fun Γ ok okr => W_X8_lower ok okr a0)
theorem dX8_lovers_0 : decode cX8_lovers 0 = .ok (.iconst 0, 1) := by decide +kernel
theorem dX8_lovers_1 : decode cX8_lovers 1 = .ok (.istore_n 1, 1) := by decide +kernel
theorem dX8_lovers_2 : decode cX8_lovers 2 = .ok (.iconst 0, 1) := by decide +kernel
theorem dX8_lovers_3 : decode cX8_lovers 3 = .ok (.istore_n 2, 1) := by decide +kernel
theorem dX8_lovers_4 : decode cX8_lovers 4 = .ok (.iload_n 2, 1) := by decide +kernel
theorem dX8_lovers_5 : decode cX8_lovers 5 = .ok (.aload_n 0, 1) := by decide +kernel
theorem dX8_lovers_6 : decode cX8_lovers 6 = .ok (.getfield 156, 3) := by decide +kernel
theorem dX8_lovers_9 : decode cX8_lovers 9 = .ok (.if_icmp .ge 30, 3) := by decide +kernel
theorem dX8_lovers_12 : decode cX8_lovers 12 = .ok (.iload_n 1, 1) := by decide +kernel
theorem dX8_lovers_13 : decode cX8_lovers 13 = .ok (.aload_n 0, 1) := by decide +kernel
theorem dX8_lovers_14 : decode cX8_lovers 14 = .ok (.getfield 28, 3) := by decide +kernel
theorem dX8_lovers_17 : decode cX8_lovers 17 = .ok (.iload_n 2, 1) := by decide +kernel
theorem dX8_lovers_18 : decode cX8_lovers 18 = .ok (.iaload, 1) := by decide +kernel
theorem dX8_lovers_19 : decode cX8_lovers 19 = .ok (.iconst 2, 1) := by decide +kernel
theorem dX8_lovers_20 : decode cX8_lovers 20 = .ok (.invokestatic 192, 3) := by decide +kernel
theorem dX8_lovers_23 : decode cX8_lovers 23 = .ok (.ifCond .eq 7, 3) := by decide +kernel
theorem dX8_lovers_26 : decode cX8_lovers 26 = .ok (.iconst 1, 1) := by decide +kernel
theorem dX8_lovers_27 : decode cX8_lovers 27 = .ok (.goto 4, 3) := by decide +kernel
theorem dX8_lovers_30 : decode cX8_lovers 30 = .ok (.iconst 0, 1) := by decide +kernel
theorem dX8_lovers_31 : decode cX8_lovers 31 = .ok (.iadd, 1) := by decide +kernel
theorem dX8_lovers_32 : decode cX8_lovers 32 = .ok (.istore_n 1, 1) := by decide +kernel
theorem dX8_lovers_33 : decode cX8_lovers 33 = .ok (.iinc 2 1, 3) := by decide +kernel
theorem dX8_lovers_36 : decode cX8_lovers 36 = .ok (.goto (-32), 3) := by decide +kernel
theorem dX8_lovers_39 : decode cX8_lovers 39 = .ok (.iload_n 1, 1) := by decide +kernel
theorem dX8_lovers_40 : decode cX8_lovers 40 = .ok (.ireturn, 1) := by decide +kernel
def P_X8_lovers_4 (p0 : Nat) : Nat → Int32 → Int32 → PM Int32
  | 0, _, _ => failM
  | n + 1, q1, q2 =>
    getI 8 10 p0 fun v1 =>
    ifB (decide (v1 ≤ q2)) (
    pureM q1) (
    getR 8 6 p0 fun v2 =>
    ald v2 q2 fun v3 =>
    cll0 (P_X8_isOf v3 2) fun v4 =>
    jn (fun (j5 : Int32) (j6 : Int32) =>
    P_X8_lovers_4 p0 n (j5 + j6) (q2 + 1)) fun k7 =>
    ifB (decide (v4 = 0)) (
    k7 q1 0) (
    k7 q1 1))
def P_X8_lovers (a0 : Nat) : PM Int32 :=
P_X8_lovers_4 a0 4000 0 0
set_option maxHeartbeats 4000000 in
set_option maxRecDepth 100000 in
theorem W_X8_lovers_4 {Γ : Cx} (ok : OKc Γ cX8_lovers RX8 1 "lovers") (okr : OKr Γ cX8_lovers (some .int)) (p0 : Nat) : ∀ (n : Nat) (q1 : Int32) (q2 : Int32), SW Γ iI 4 [some (.ref p0), some (.int q1), some (.int q2)] [] (P_X8_lovers_4 p0 n q1 q2) := by
  intro n
  induction n with
  | zero =>
    intros
    exact sw_fail
  | succ n ih =>
    intro q1 q2
    unfold P_X8_lovers_4
    refine sw_iload_n (z := q2) (pc' := 5) ok dX8_lovers_4 rfl rfl ?_
    refine sw_aload_n (z := p0) (pc' := 6) ok dX8_lovers_5 rfl rfl ?_
    refine sw_getI (pc' := 9) ok (fr_X8_156.g) dX8_lovers_6 rfl (fun v1 => ?_)
    refine sw_icmp_ge (tgt := 39) (pc' := 12) ok dX8_lovers_9 (by decide) rfl ?_ ?_
    · refine sw_iload_n (z := q1) (pc' := 40) ok dX8_lovers_39 rfl rfl ?_
      exact sw_ret ok okr dX8_lovers_40 trivial rfl
    refine sw_iload_n (z := q1) (pc' := 13) ok dX8_lovers_12 rfl rfl ?_
    refine sw_aload_n (z := p0) (pc' := 14) ok dX8_lovers_13 rfl rfl ?_
    refine sw_getR (pc' := 17) ok (fr_X8_28.g) dX8_lovers_14 rfl (fun v2 => ?_)
    refine sw_iload_n (z := q2) (pc' := 18) ok dX8_lovers_17 rfl rfl ?_
    refine sw_ald (pc' := 19) ok dX8_lovers_18 rfl (fun v3 => ?_)
    refine sw_iconst (v := 2) (pc' := 20) ok dX8_lovers_19 rfl cc_iconst_2 ?_
    refine sw_cll0_I (st := [.int q1]) (as := [.int v3, .int 2]) (pc' := 23) ok (S_X8_isOf v3 2) (by decide) lk_X8_192 rfl dX8_lovers_20 rfl (Nat.le_of_ble_eq_true rfl) rfl (fun v4 => ?_)
    refine sw_jn (fun k7 : Int32 → Int32 → PM Int32 => ∀ (j5 : Int32) (j6 : Int32), SW Γ iI 31 [some (.ref p0), none, some (.int q2)] [.int j6, .int j5] (k7 j5 j6)) ?_ (fun k7 hk7 => ?_)
    · intro j5 j6
      refine sw_iadd (pc' := 32) ok dX8_lovers_31 rfl ?_
      refine sw_istore_n (pc' := 33) (l' := [some (.ref p0), some (.int (j5 + j6)), some (.int q2)]) ok dX8_lovers_32 rfl (Nat.le_of_ble_eq_true rfl) rfl ?_
      refine sw_iinc (z := q2) (v := q2 + 1) (pc' := 36) (l' := [some (.ref p0), some (.int (j5 + j6)), some (.int (q2 + 1))]) ok dX8_lovers_33 rfl rfl (by rw [cc_iconst_1]) rfl ?_
      refine sw_goto (tgt := 4) ok dX8_lovers_36 (by decide) ?_
      exact ih (j5 + j6) (q2 + 1)
    refine sw_if_eq (tgt := 30) (pc' := 26) ok dX8_lovers_23 (by decide) rfl ?_ ?_
    · refine sw_iconst (v := 0) (pc' := 31) ok dX8_lovers_30 rfl cc_iconst_0 ?_
      refine sw_fg (l' := [some (.ref p0), none, some (.int q2)]) [true, false, true] rfl ?_
      exact hk7 q1 0
    refine sw_iconst (v := 1) (pc' := 27) ok dX8_lovers_26 rfl cc_iconst_1 ?_
    refine sw_goto (tgt := 31) ok dX8_lovers_27 (by decide) ?_
    refine sw_fg (l' := [some (.ref p0), none, some (.int q2)]) [true, false, true] rfl ?_
    exact hk7 q1 1
set_option maxHeartbeats 4000000 in
set_option maxRecDepth 100000 in
theorem W_X8_lovers {Γ : Cx} (ok : OKc Γ cX8_lovers RX8 1 "lovers") (okr : OKr Γ cX8_lovers (some .int)) (a0 : Nat) : SW Γ iI 0 [some (.ref a0), none, none] [] (P_X8_lovers a0) := by
  unfold P_X8_lovers
  refine sw_iconst (v := 0) (pc' := 1) ok dX8_lovers_0 rfl cc_iconst_0 ?_
  refine sw_istore_n (pc' := 2) (l' := [some (.ref a0), some (.int 0), none]) ok dX8_lovers_1 rfl (Nat.le_of_ble_eq_true rfl) rfl ?_
  refine sw_iconst (v := 0) (pc' := 3) ok dX8_lovers_2 rfl cc_iconst_0 ?_
  refine sw_istore_n (pc' := 4) (l' := [some (.ref a0), some (.int 0), some (.int 0)]) ok dX8_lovers_3 rfl (Nat.le_of_ble_eq_true rfl) rfl ?_
  exact W_X8_lovers_4 ok okr a0 4000 0 0
theorem S_X8_lovers (a0 : Nat) : Sim 1 yX8_lovers cX8_lovers 3 (some .int) iI [.ref a0] (P_X8_lovers a0) := Sim.intro wd_1152 (by decide) (by decide +kernel) (Nat.le_of_ble_eq_true rfl) (fun Γ ok okr => W_X8_lovers ok okr a0)
theorem dX8_there_0 : decode cX8_there 0 = .ok (.iconst 0, 1) := by decide +kernel
theorem dX8_there_1 : decode cX8_there 1 = .ok (.istore_n 2, 1) := by decide +kernel
theorem dX8_there_2 : decode cX8_there 2 = .ok (.iconst 0, 1) := by decide +kernel
theorem dX8_there_3 : decode cX8_there 3 = .ok (.istore_n 3, 1) := by decide +kernel
theorem dX8_there_4 : decode cX8_there 4 = .ok (.iload_n 3, 1) := by decide +kernel
theorem dX8_there_5 : decode cX8_there 5 = .ok (.iload_n 1, 1) := by decide +kernel
theorem dX8_there_6 : decode cX8_there 6 = .ok (.if_icmp .ge 23, 3) := by decide +kernel
theorem dX8_there_9 : decode cX8_there 9 = .ok (.iload_n 2, 1) := by decide +kernel
theorem dX8_there_10 : decode cX8_there 10 = .ok (.aload_n 0, 1) := by decide +kernel
theorem dX8_there_11 : decode cX8_there 11 = .ok (.iload_n 3, 1) := by decide +kernel
theorem dX8_there_12 : decode cX8_there 12 = .ok (.iaload, 1) := by decide +kernel
theorem dX8_there_13 : decode cX8_there 13 = .ok (.ifCond .lt 7, 3) := by decide +kernel
theorem dX8_there_16 : decode cX8_there 16 = .ok (.iconst 1, 1) := by decide +kernel
theorem dX8_there_17 : decode cX8_there 17 = .ok (.goto 4, 3) := by decide +kernel
theorem dX8_there_20 : decode cX8_there 20 = .ok (.iconst 0, 1) := by decide +kernel
theorem dX8_there_21 : decode cX8_there 21 = .ok (.iadd, 1) := by decide +kernel
theorem dX8_there_22 : decode cX8_there 22 = .ok (.istore_n 2, 1) := by decide +kernel
theorem dX8_there_23 : decode cX8_there 23 = .ok (.iinc 3 1, 3) := by decide +kernel
theorem dX8_there_26 : decode cX8_there 26 = .ok (.goto (-22), 3) := by decide +kernel
theorem dX8_there_29 : decode cX8_there 29 = .ok (.iload_n 2, 1) := by decide +kernel
theorem dX8_there_30 : decode cX8_there 30 = .ok (.ireturn, 1) := by decide +kernel
def P_X8_there_4 (p0 : Nat) (p1 : Int32) : Nat → Int32 → Int32 → PM Int32
  | 0, _, _ => failM
  | n + 1, q2, q3 =>
    ifB (decide (p1 ≤ q3)) (
    pureM q2) (
    ald p0 q3 fun v1 =>
    jn (fun (j2 : Int32) (j3 : Int32) =>
    P_X8_there_4 p0 p1 n (j2 + j3) (q3 + 1)) fun k4 =>
    ifB (decide (v1 < 0)) (
    k4 q2 0) (
    k4 q2 1))
def P_X8_there (a0 : Nat) (x1 : Int32) : PM Int32 :=
P_X8_there_4 a0 x1 4000 0 0
set_option maxHeartbeats 4000000 in
set_option maxRecDepth 100000 in
theorem W_X8_there_4 {Γ : Cx} (ok : OKc Γ cX8_there RX8 0 "there") (okr : OKr Γ cX8_there (some .int)) (p0 : Nat) (p1 : Int32) : ∀ (n : Nat) (q2 : Int32) (q3 : Int32), SW Γ iI 4 [some (.ref p0), some (.int p1), some (.int q2), some (.int q3)] [] (P_X8_there_4 p0 p1 n q2 q3) := by
  intro n
  induction n with
  | zero =>
    intros
    exact sw_fail
  | succ n ih =>
    intro q2 q3
    unfold P_X8_there_4
    refine sw_iload_n (z := q3) (pc' := 5) ok dX8_there_4 rfl rfl ?_
    refine sw_iload_n (z := p1) (pc' := 6) ok dX8_there_5 rfl rfl ?_
    refine sw_icmp_ge (tgt := 29) (pc' := 9) ok dX8_there_6 (by decide) rfl ?_ ?_
    · refine sw_iload_n (z := q2) (pc' := 30) ok dX8_there_29 rfl rfl ?_
      exact sw_ret ok okr dX8_there_30 trivial rfl
    refine sw_iload_n (z := q2) (pc' := 10) ok dX8_there_9 rfl rfl ?_
    refine sw_aload_n (z := p0) (pc' := 11) ok dX8_there_10 rfl rfl ?_
    refine sw_iload_n (z := q3) (pc' := 12) ok dX8_there_11 rfl rfl ?_
    refine sw_ald (pc' := 13) ok dX8_there_12 rfl (fun v1 => ?_)
    refine sw_jn (fun k4 : Int32 → Int32 → PM Int32 => ∀ (j2 : Int32) (j3 : Int32), SW Γ iI 21 [some (.ref p0), some (.int p1), none, some (.int q3)] [.int j3, .int j2] (k4 j2 j3)) ?_ (fun k4 hk4 => ?_)
    · intro j2 j3
      refine sw_iadd (pc' := 22) ok dX8_there_21 rfl ?_
      refine sw_istore_n (pc' := 23) (l' := [some (.ref p0), some (.int p1), some (.int (j2 + j3)), some (.int q3)]) ok dX8_there_22 rfl (Nat.le_of_ble_eq_true rfl) rfl ?_
      refine sw_iinc (z := q3) (v := q3 + 1) (pc' := 26) (l' := [some (.ref p0), some (.int p1), some (.int (j2 + j3)), some (.int (q3 + 1))]) ok dX8_there_23 rfl rfl (by rw [cc_iconst_1]) rfl ?_
      refine sw_goto (tgt := 4) ok dX8_there_26 (by decide) ?_
      exact ih (j2 + j3) (q3 + 1)
    refine sw_if_lt (tgt := 20) (pc' := 16) ok dX8_there_13 (by decide) rfl ?_ ?_
    · refine sw_iconst (v := 0) (pc' := 21) ok dX8_there_20 rfl cc_iconst_0 ?_
      refine sw_fg (l' := [some (.ref p0), some (.int p1), none, some (.int q3)]) [true, true, false, true] rfl ?_
      exact hk4 q2 0
    refine sw_iconst (v := 1) (pc' := 17) ok dX8_there_16 rfl cc_iconst_1 ?_
    refine sw_goto (tgt := 21) ok dX8_there_17 (by decide) ?_
    refine sw_fg (l' := [some (.ref p0), some (.int p1), none, some (.int q3)]) [true, true, false, true] rfl ?_
    exact hk4 q2 1
set_option maxHeartbeats 4000000 in
set_option maxRecDepth 100000 in
theorem W_X8_there {Γ : Cx} (ok : OKc Γ cX8_there RX8 0 "there") (okr : OKr Γ cX8_there (some .int)) (a0 : Nat) (x1 : Int32) : SW Γ iI 0 [some (.ref a0), some (.int x1), none, none] [] (P_X8_there a0 x1) := by
  unfold P_X8_there
  refine sw_iconst (v := 0) (pc' := 1) ok dX8_there_0 rfl cc_iconst_0 ?_
  refine sw_istore_n (pc' := 2) (l' := [some (.ref a0), some (.int x1), some (.int 0), none]) ok dX8_there_1 rfl (Nat.le_of_ble_eq_true rfl) rfl ?_
  refine sw_iconst (v := 0) (pc' := 3) ok dX8_there_2 rfl cc_iconst_0 ?_
  refine sw_istore_n (pc' := 4) (l' := [some (.ref a0), some (.int x1), some (.int 0), some (.int 0)]) ok dX8_there_3 rfl (Nat.le_of_ble_eq_true rfl) rfl ?_
  exact W_X8_there_4 ok okr a0 x1 4000 0 0
theorem S_X8_there (a0 : Nat) (x1 : Int32) : Sim 0 yX8_there cX8_there 4 (some .int) iI [.ref a0, .int x1] (P_X8_there a0 x1) := Sim.intro wd_1153 (by decide) (by decide +kernel) (Nat.le_of_ble_eq_true rfl) (fun Γ ok okr => W_X8_there ok okr a0 x1)
theorem dX8_count_0 : decode cX8_count 0 = .ok (.iload_n 1, 1) := by decide +kernel
theorem dX8_count_1 : decode cX8_count 1 = .ok (.tableswitch 137 0 10 #[59, 64, 71, 76, 83, 90, 97, 104, 109, 119, 128], 59) := by decide +kernel
theorem dX8_count_60 : decode cX8_count 60 = .ok (.aload_n 0, 1) := by decide +kernel
theorem dX8_count_61 : decode cX8_count 61 = .ok (.getfield 156, 3) := by decide +kernel
theorem dX8_count_64 : decode cX8_count 64 = .ok (.ireturn, 1) := by decide +kernel
theorem dX8_count_65 : decode cX8_count 65 = .ok (.aload_n 0, 1) := by decide +kernel
theorem dX8_count_66 : decode cX8_count 66 = .ok (.getfield 22, 3) := by decide +kernel
theorem dX8_count_69 : decode cX8_count 69 = .ok (.iconst 2, 1) := by decide +kernel
theorem dX8_count_70 : decode cX8_count 70 = .ok (.iaload, 1) := by decide +kernel
theorem dX8_count_71 : decode cX8_count 71 = .ok (.ireturn, 1) := by decide +kernel
theorem dX8_count_72 : decode cX8_count 72 = .ok (.aload_n 0, 1) := by decide +kernel
theorem dX8_count_73 : decode cX8_count 73 = .ok (.getfield 159, 3) := by decide +kernel
theorem dX8_count_76 : decode cX8_count 76 = .ok (.ireturn, 1) := by decide +kernel
theorem dX8_count_77 : decode cX8_count 77 = .ok (.aload_n 0, 1) := by decide +kernel
theorem dX8_count_78 : decode cX8_count 78 = .ok (.getfield 22, 3) := by decide +kernel
theorem dX8_count_81 : decode cX8_count 81 = .ok (.iconst 0, 1) := by decide +kernel
theorem dX8_count_82 : decode cX8_count 82 = .ok (.iaload, 1) := by decide +kernel
theorem dX8_count_83 : decode cX8_count 83 = .ok (.ireturn, 1) := by decide +kernel
theorem dX8_count_84 : decode cX8_count 84 = .ok (.aload_n 0, 1) := by decide +kernel
theorem dX8_count_85 : decode cX8_count 85 = .ok (.getfield 22, 3) := by decide +kernel
theorem dX8_count_88 : decode cX8_count 88 = .ok (.iconst 1, 1) := by decide +kernel
theorem dX8_count_89 : decode cX8_count 89 = .ok (.iaload, 1) := by decide +kernel
theorem dX8_count_90 : decode cX8_count 90 = .ok (.ireturn, 1) := by decide +kernel
theorem dX8_count_91 : decode cX8_count 91 = .ok (.aload_n 0, 1) := by decide +kernel
theorem dX8_count_92 : decode cX8_count 92 = .ok (.getfield 22, 3) := by decide +kernel
theorem dX8_count_95 : decode cX8_count 95 = .ok (.iconst 3, 1) := by decide +kernel
theorem dX8_count_96 : decode cX8_count 96 = .ok (.iaload, 1) := by decide +kernel
theorem dX8_count_97 : decode cX8_count 97 = .ok (.ireturn, 1) := by decide +kernel
theorem dX8_count_98 : decode cX8_count 98 = .ok (.aload_n 0, 1) := by decide +kernel
theorem dX8_count_99 : decode cX8_count 99 = .ok (.getfield 22, 3) := by decide +kernel
theorem dX8_count_102 : decode cX8_count 102 = .ok (.iconst 4, 1) := by decide +kernel
theorem dX8_count_103 : decode cX8_count 103 = .ok (.iaload, 1) := by decide +kernel
theorem dX8_count_104 : decode cX8_count 104 = .ok (.ireturn, 1) := by decide +kernel
theorem dX8_count_105 : decode cX8_count 105 = .ok (.aload_n 0, 1) := by decide +kernel
theorem dX8_count_106 : decode cX8_count 106 = .ok (.invokevirtual 341, 3) := by decide +kernel
theorem dX8_count_109 : decode cX8_count 109 = .ok (.ireturn, 1) := by decide +kernel
theorem dX8_count_110 : decode cX8_count 110 = .ok (.aload_n 0, 1) := by decide +kernel
theorem dX8_count_111 : decode cX8_count 111 = .ok (.getfield 13, 3) := by decide +kernel
theorem dX8_count_114 : decode cX8_count 114 = .ok (.bipush 6, 2) := by decide +kernel
theorem dX8_count_116 : decode cX8_count 116 = .ok (.invokestatic 344, 3) := by decide +kernel
theorem dX8_count_119 : decode cX8_count 119 = .ok (.ireturn, 1) := by decide +kernel
theorem dX8_count_120 : decode cX8_count 120 = .ok (.aload_n 0, 1) := by decide +kernel
theorem dX8_count_121 : decode cX8_count 121 = .ok (.getfield 19, 3) := by decide +kernel
theorem dX8_count_124 : decode cX8_count 124 = .ok (.iconst 4, 1) := by decide +kernel
theorem dX8_count_125 : decode cX8_count 125 = .ok (.invokestatic 344, 3) := by decide +kernel
theorem dX8_count_128 : decode cX8_count 128 = .ok (.ireturn, 1) := by decide +kernel
theorem dX8_count_129 : decode cX8_count 129 = .ok (.aload_n 0, 1) := by decide +kernel
theorem dX8_count_130 : decode cX8_count 130 = .ok (.getfield 25, 3) := by decide +kernel
theorem dX8_count_133 : decode cX8_count 133 = .ok (.iconst 3, 1) := by decide +kernel
theorem dX8_count_134 : decode cX8_count 134 = .ok (.invokestatic 344, 3) := by decide +kernel
theorem dX8_count_137 : decode cX8_count 137 = .ok (.ireturn, 1) := by decide +kernel
theorem dX8_count_138 : decode cX8_count 138 = .ok (.iconst (-1), 1) := by decide +kernel
theorem dX8_count_139 : decode cX8_count 139 = .ok (.ireturn, 1) := by decide +kernel
def P_X8_count (a0 : Nat) (x1 : Int32) : PM Int32 :=
swT x1 0 [
getI 8 10 a0 fun v1 =>
pureM v1,
getR 8 4 a0 fun v2 =>
ald v2 2 fun v3 =>
pureM v3,
getI 8 11 a0 fun v4 =>
pureM v4,
getR 8 4 a0 fun v5 =>
ald v5 0 fun v6 =>
pureM v6,
getR 8 4 a0 fun v7 =>
ald v7 1 fun v8 =>
pureM v8,
getR 8 4 a0 fun v9 =>
ald v9 3 fun v10 =>
pureM v10,
getR 8 4 a0 fun v11 =>
ald v11 4 fun v12 =>
pureM v12,
cllV 8 a0 (P_X8_lovers a0) fun v13 =>
pureM v13,
getR 8 1 a0 fun v14 =>
cll0 (P_X8_there v14 6) fun v15 =>
pureM v15,
getR 8 3 a0 fun v16 =>
cll0 (P_X8_there v16 4) fun v17 =>
pureM v17,
getR 8 5 a0 fun v18 =>
cll0 (P_X8_there v18 3) fun v19 =>
pureM v19] (
pureM ((-1)))
set_option maxHeartbeats 4000000 in
set_option maxRecDepth 100000 in
theorem W_X8_count {Γ : Cx} (ok : OKc Γ cX8_count RX8 2 "count") (okr : OKr Γ cX8_count (some .int)) (a0 : Nat) (x1 : Int32) : SW Γ iI 0 [some (.ref a0), some (.int x1)] [] (P_X8_count a0 x1) := by
  unfold P_X8_count
  refine sw_iload_n (z := x1) (pc' := 1) ok dX8_count_0 rfl rfl ?_
  refine sw_tsw (tgt := 138) ok dX8_count_1 (by decide) (by rfl) ⟨⟨60, by decide, ?_⟩, ⟨65, by decide, ?_⟩, ⟨72, by decide, ?_⟩, ⟨77, by decide, ?_⟩, ⟨84, by decide, ?_⟩, ⟨91, by decide, ?_⟩, ⟨98, by decide, ?_⟩, ⟨105, by decide, ?_⟩, ⟨110, by decide, ?_⟩, ⟨120, by decide, ?_⟩, ⟨129, by decide, ?_⟩, trivial⟩ ?_
  · refine sw_aload_n (z := a0) (pc' := 61) ok dX8_count_60 rfl rfl ?_
    refine sw_getI (pc' := 64) ok (fr_X8_156.g) dX8_count_61 rfl (fun v1 => ?_)
    exact sw_ret ok okr dX8_count_64 trivial rfl
  · refine sw_aload_n (z := a0) (pc' := 66) ok dX8_count_65 rfl rfl ?_
    refine sw_getR (pc' := 69) ok (fr_X8_22.g) dX8_count_66 rfl (fun v2 => ?_)
    refine sw_iconst (v := 2) (pc' := 70) ok dX8_count_69 rfl cc_iconst_2 ?_
    refine sw_ald (pc' := 71) ok dX8_count_70 rfl (fun v3 => ?_)
    exact sw_ret ok okr dX8_count_71 trivial rfl
  · refine sw_aload_n (z := a0) (pc' := 73) ok dX8_count_72 rfl rfl ?_
    refine sw_getI (pc' := 76) ok (fr_X8_159.g) dX8_count_73 rfl (fun v4 => ?_)
    exact sw_ret ok okr dX8_count_76 trivial rfl
  · refine sw_aload_n (z := a0) (pc' := 78) ok dX8_count_77 rfl rfl ?_
    refine sw_getR (pc' := 81) ok (fr_X8_22.g) dX8_count_78 rfl (fun v5 => ?_)
    refine sw_iconst (v := 0) (pc' := 82) ok dX8_count_81 rfl cc_iconst_0 ?_
    refine sw_ald (pc' := 83) ok dX8_count_82 rfl (fun v6 => ?_)
    exact sw_ret ok okr dX8_count_83 trivial rfl
  · refine sw_aload_n (z := a0) (pc' := 85) ok dX8_count_84 rfl rfl ?_
    refine sw_getR (pc' := 88) ok (fr_X8_22.g) dX8_count_85 rfl (fun v7 => ?_)
    refine sw_iconst (v := 1) (pc' := 89) ok dX8_count_88 rfl cc_iconst_1 ?_
    refine sw_ald (pc' := 90) ok dX8_count_89 rfl (fun v8 => ?_)
    exact sw_ret ok okr dX8_count_90 trivial rfl
  · refine sw_aload_n (z := a0) (pc' := 92) ok dX8_count_91 rfl rfl ?_
    refine sw_getR (pc' := 95) ok (fr_X8_22.g) dX8_count_92 rfl (fun v9 => ?_)
    refine sw_iconst (v := 3) (pc' := 96) ok dX8_count_95 rfl cc_iconst_3 ?_
    refine sw_ald (pc' := 97) ok dX8_count_96 rfl (fun v10 => ?_)
    exact sw_ret ok okr dX8_count_97 trivial rfl
  · refine sw_aload_n (z := a0) (pc' := 99) ok dX8_count_98 rfl rfl ?_
    refine sw_getR (pc' := 102) ok (fr_X8_22.g) dX8_count_99 rfl (fun v11 => ?_)
    refine sw_iconst (v := 4) (pc' := 103) ok dX8_count_102 rfl cc_iconst_4 ?_
    refine sw_ald (pc' := 104) ok dX8_count_103 rfl (fun v12 => ?_)
    exact sw_ret ok okr dX8_count_104 trivial rfl
  · refine sw_aload_n (z := a0) (pc' := 106) ok dX8_count_105 rfl rfl ?_
    refine sw_cllV_I (st := []) (as := []) (pc' := 109) ok (S_X8_lovers a0) (by decide) lk_X8_341 rfl dX8_count_106 rfl (Nat.le_of_ble_eq_true rfl) rfl (fun v13 => ?_)
    exact sw_ret ok okr dX8_count_109 trivial rfl
  · refine sw_aload_n (z := a0) (pc' := 111) ok dX8_count_110 rfl rfl ?_
    refine sw_getR (pc' := 114) ok (fr_X8_13.g) dX8_count_111 rfl (fun v14 => ?_)
    refine sw_bipush (v := 6) (pc' := 116) ok dX8_count_114 rfl cc_bipush_6 ?_
    refine sw_cll0_I (st := []) (as := [.ref v14, .int 6]) (pc' := 119) ok (S_X8_there v14 6) (by decide) lk_X8_344 rfl dX8_count_116 rfl (Nat.le_of_ble_eq_true rfl) rfl (fun v15 => ?_)
    exact sw_ret ok okr dX8_count_119 trivial rfl
  · refine sw_aload_n (z := a0) (pc' := 121) ok dX8_count_120 rfl rfl ?_
    refine sw_getR (pc' := 124) ok (fr_X8_19.g) dX8_count_121 rfl (fun v16 => ?_)
    refine sw_iconst (v := 4) (pc' := 125) ok dX8_count_124 rfl cc_iconst_4 ?_
    refine sw_cll0_I (st := []) (as := [.ref v16, .int 4]) (pc' := 128) ok (S_X8_there v16 4) (by decide) lk_X8_344 rfl dX8_count_125 rfl (Nat.le_of_ble_eq_true rfl) rfl (fun v17 => ?_)
    exact sw_ret ok okr dX8_count_128 trivial rfl
  · refine sw_aload_n (z := a0) (pc' := 130) ok dX8_count_129 rfl rfl ?_
    refine sw_getR (pc' := 133) ok (fr_X8_25.g) dX8_count_130 rfl (fun v18 => ?_)
    refine sw_iconst (v := 3) (pc' := 134) ok dX8_count_133 rfl cc_iconst_3 ?_
    refine sw_cll0_I (st := []) (as := [.ref v18, .int 3]) (pc' := 137) ok (S_X8_there v18 3) (by decide) lk_X8_344 rfl dX8_count_134 rfl (Nat.le_of_ble_eq_true rfl) rfl (fun v19 => ?_)
    exact sw_ret ok okr dX8_count_137 trivial rfl
  refine sw_iconst (v := (-1)) (pc' := 139) ok dX8_count_138 rfl cc_iconst_m1 ?_
  exact sw_ret ok okr dX8_count_139 trivial rfl
theorem S_X8_count (a0 : Nat) (x1 : Int32) : Sim 2 yX8_count cX8_count 2 (some .int) iI [.ref a0, .int x1] (P_X8_count a0 x1) := Sim.intro wd_1154 (by decide) (by decide +kernel) (Nat.le_of_ble_eq_true rfl) (fun Γ ok okr => W_X8_count ok okr a0 x1)
theorem dX8_finding_0 : decode cX8_finding 0 = .ok (.aload_n 0, 1) := by decide +kernel
theorem dX8_finding_1 : decode cX8_finding 1 = .ok (.getfield 74, 3) := by decide +kernel
theorem dX8_finding_4 : decode cX8_finding 4 = .ok (.ireturn, 1) := by decide +kernel
def P_X8_finding (a0 : Nat) : PM Int32 :=
getI 8 12 a0 fun v1 =>
pureM v1
set_option maxHeartbeats 4000000 in
set_option maxRecDepth 100000 in
theorem W_X8_finding {Γ : Cx} (ok : OKc Γ cX8_finding RX8 0 "finding") (okr : OKr Γ cX8_finding (some .int)) (a0 : Nat) : SW Γ iI 0 [some (.ref a0)] [] (P_X8_finding a0) := by
  unfold P_X8_finding
  refine sw_aload_n (z := a0) (pc' := 1) ok dX8_finding_0 rfl rfl ?_
  refine sw_getI (pc' := 4) ok (fr_X8_74.g) dX8_finding_1 rfl (fun v1 => ?_)
  exact sw_ret ok okr dX8_finding_4 trivial rfl
theorem S_X8_finding (a0 : Nat) : Sim 0 yX8_finding cX8_finding 1 (some .int) iI [.ref a0] (P_X8_finding a0) := Sim.intro wd_1155 (by decide) (by decide +kernel) (Nat.le_of_ble_eq_true rfl) (fun Γ ok okr => W_X8_finding ok okr a0)
theorem dX8_findings_0 : decode cX8_findings 0 = .ok (.iload_n 1, 1) := by decide +kernel
theorem dX8_findings_1 : decode cX8_findings 1 = .ok (.i2l, 1) := by decide +kernel
theorem dX8_findings_2 : decode cX8_findings 2 = .ok (.lconst 1, 1) := by decide +kernel
theorem dX8_findings_3 : decode cX8_findings 3 = .ok (.ldc2_w 78, 3) := by decide +kernel
theorem dX8_findings_6 : decode cX8_findings 6 = .ok (.invokestatic 80, 3) := by decide +kernel
theorem dX8_findings_9 : decode cX8_findings 9 = .ok (.ifCond .eq 12, 3) := by decide +kernel
theorem dX8_findings_12 : decode cX8_findings 12 = .ok (.aload_n 0, 1) := by decide +kernel
theorem dX8_findings_13 : decode cX8_findings 13 = .ok (.getfield 40, 3) := by decide +kernel
theorem dX8_findings_16 : decode cX8_findings 16 = .ok (.iload_n 1, 1) := by decide +kernel
theorem dX8_findings_17 : decode cX8_findings 17 = .ok (.iaload, 1) := by decide +kernel
theorem dX8_findings_18 : decode cX8_findings 18 = .ok (.goto 4, 3) := by decide +kernel
theorem dX8_findings_21 : decode cX8_findings 21 = .ok (.iconst (-1), 1) := by decide +kernel
theorem dX8_findings_22 : decode cX8_findings 22 = .ok (.ireturn, 1) := by decide +kernel
def P_X8_findings (a0 : Nat) (x1 : Int32) : PM Int32 :=
cll0 (P_X8_in (Int32.toInt64 x1) 1 5) fun v1 =>
ifB (decide (v1 = 0)) (
pureM ((-1))) (
getR 8 13 a0 fun v2 =>
ald v2 x1 fun v3 =>
pureM v3)
set_option maxHeartbeats 4000000 in
set_option maxRecDepth 100000 in
theorem W_X8_findings {Γ : Cx} (ok : OKc Γ cX8_findings RX8 1 "findings") (okr : OKr Γ cX8_findings (some .int)) (a0 : Nat) (x1 : Int32) : SW Γ iI 0 [some (.ref a0), some (.int x1)] [] (P_X8_findings a0 x1) := by
  unfold P_X8_findings
  refine sw_iload_n (z := x1) (pc' := 1) ok dX8_findings_0 rfl rfl ?_
  refine sw_i2l (pc' := 2) ok dX8_findings_1 rfl ?_
  refine sw_lconst (v := 1) (pc' := 3) ok dX8_findings_2 rfl cc_lconst_1 ?_
  refine sw_ldc2 (v := 5) (pc' := 6) ok dX8_findings_3 rfl wd_475 ?_
  refine sw_cll0_I (st := []) (as := [.long (Int32.toInt64 x1), .long 1, .long 5]) (pc' := 9) ok (S_X8_in (Int32.toInt64 x1) 1 5) (by decide) lk_X8_80 rfl dX8_findings_6 rfl (Nat.le_of_ble_eq_true rfl) rfl (fun v1 => ?_)
  refine sw_if_eq (tgt := 21) (pc' := 12) ok dX8_findings_9 (by decide) rfl ?_ ?_
  · refine sw_iconst (v := (-1)) (pc' := 22) ok dX8_findings_21 rfl cc_iconst_m1 ?_
    exact sw_ret ok okr dX8_findings_22 trivial rfl
  refine sw_aload_n (z := a0) (pc' := 13) ok dX8_findings_12 rfl rfl ?_
  refine sw_getR (pc' := 16) ok (fr_X8_40.g) dX8_findings_13 rfl (fun v2 => ?_)
  refine sw_iload_n (z := x1) (pc' := 17) ok dX8_findings_16 rfl rfl ?_
  refine sw_ald (pc' := 18) ok dX8_findings_17 rfl (fun v3 => ?_)
  refine sw_goto (tgt := 22) ok dX8_findings_18 (by decide) ?_
  exact sw_ret ok okr dX8_findings_22 trivial rfl
theorem S_X8_findings (a0 : Nat) (x1 : Int32) : Sim 1 yX8_findings cX8_findings 2 (some .int) iI [.ref a0, .int x1] (P_X8_findings a0 x1) := Sim.intro wd_1156 (by decide) (by decide +kernel) (Nat.le_of_ble_eq_true rfl) (fun Γ ok okr => W_X8_findings ok okr a0 x1)
theorem dX8_mixAll_0 : decode cX8_mixAll 0 = .ok (.lload_n 0, 1) := by decide +kernel
theorem dX8_mixAll_1 : decode cX8_mixAll 1 = .ok (.lstore 6, 2) := by decide +kernel
theorem dX8_mixAll_3 : decode cX8_mixAll 3 = .ok (.iconst 0, 1) := by decide +kernel
theorem dX8_mixAll_4 : decode cX8_mixAll 4 = .ok (.istore 8, 2) := by decide +kernel
theorem dX8_mixAll_6 : decode cX8_mixAll 6 = .ok (.iload 8, 2) := by decide +kernel
theorem dX8_mixAll_8 : decode cX8_mixAll 8 = .ok (.iload 4, 2) := by decide +kernel
theorem dX8_mixAll_10 : decode cX8_mixAll 10 = .ok (.if_icmp .ge 61, 3) := by decide +kernel
theorem dX8_mixAll_13 : decode cX8_mixAll 13 = .ok (.ldc2_w 348, 3) := by decide +kernel
theorem dX8_mixAll_16 : decode cX8_mixAll 16 = .ok (.lload 6, 2) := by decide +kernel
theorem dX8_mixAll_18 : decode cX8_mixAll 18 = .ok (.lmul, 1) := by decide +kernel
theorem dX8_mixAll_19 : decode cX8_mixAll 19 = .ok (.aload_n 2, 1) := by decide +kernel
theorem dX8_mixAll_20 : decode cX8_mixAll 20 = .ok (.iload 8, 2) := by decide +kernel
theorem dX8_mixAll_22 : decode cX8_mixAll 22 = .ok (.iaload, 1) := by decide +kernel
theorem dX8_mixAll_23 : decode cX8_mixAll 23 = .ok (.i2l, 1) := by decide +kernel
theorem dX8_mixAll_24 : decode cX8_mixAll 24 = .ok (.ladd, 1) := by decide +kernel
theorem dX8_mixAll_25 : decode cX8_mixAll 25 = .ok (.lstore 6, 2) := by decide +kernel
theorem dX8_mixAll_27 : decode cX8_mixAll 27 = .ok (.iconst 0, 1) := by decide +kernel
theorem dX8_mixAll_28 : decode cX8_mixAll 28 = .ok (.istore 9, 2) := by decide +kernel
theorem dX8_mixAll_30 : decode cX8_mixAll 30 = .ok (.iload 9, 2) := by decide +kernel
theorem dX8_mixAll_32 : decode cX8_mixAll 32 = .ok (.aload_n 2, 1) := by decide +kernel
theorem dX8_mixAll_33 : decode cX8_mixAll 33 = .ok (.iload 8, 2) := by decide +kernel
theorem dX8_mixAll_35 : decode cX8_mixAll 35 = .ok (.iaload, 1) := by decide +kernel
theorem dX8_mixAll_36 : decode cX8_mixAll 36 = .ok (.if_icmp .ge 29, 3) := by decide +kernel
theorem dX8_mixAll_39 : decode cX8_mixAll 39 = .ok (.ldc2_w 348, 3) := by decide +kernel
theorem dX8_mixAll_42 : decode cX8_mixAll 42 = .ok (.lload 6, 2) := by decide +kernel
theorem dX8_mixAll_44 : decode cX8_mixAll 44 = .ok (.lmul, 1) := by decide +kernel
theorem dX8_mixAll_45 : decode cX8_mixAll 45 = .ok (.aload_n 3, 1) := by decide +kernel
theorem dX8_mixAll_46 : decode cX8_mixAll 46 = .ok (.iload 5, 2) := by decide +kernel
theorem dX8_mixAll_48 : decode cX8_mixAll 48 = .ok (.iload 8, 2) := by decide +kernel
theorem dX8_mixAll_50 : decode cX8_mixAll 50 = .ok (.imul, 1) := by decide +kernel
theorem dX8_mixAll_51 : decode cX8_mixAll 51 = .ok (.iload 9, 2) := by decide +kernel
theorem dX8_mixAll_53 : decode cX8_mixAll 53 = .ok (.iadd, 1) := by decide +kernel
theorem dX8_mixAll_54 : decode cX8_mixAll 54 = .ok (.iaload, 1) := by decide +kernel
theorem dX8_mixAll_55 : decode cX8_mixAll 55 = .ok (.i2l, 1) := by decide +kernel
theorem dX8_mixAll_56 : decode cX8_mixAll 56 = .ok (.ladd, 1) := by decide +kernel
theorem dX8_mixAll_57 : decode cX8_mixAll 57 = .ok (.lstore 6, 2) := by decide +kernel
theorem dX8_mixAll_59 : decode cX8_mixAll 59 = .ok (.iinc 9 1, 3) := by decide +kernel
theorem dX8_mixAll_62 : decode cX8_mixAll 62 = .ok (.goto (-32), 3) := by decide +kernel
theorem dX8_mixAll_65 : decode cX8_mixAll 65 = .ok (.iinc 8 1, 3) := by decide +kernel
theorem dX8_mixAll_68 : decode cX8_mixAll 68 = .ok (.goto (-62), 3) := by decide +kernel
theorem dX8_mixAll_71 : decode cX8_mixAll 71 = .ok (.lload 6, 2) := by decide +kernel
theorem dX8_mixAll_73 : decode cX8_mixAll 73 = .ok (.lreturn, 1) := by decide +kernel
def P_X8_mixAll_30 (k_65 : Int64 → PM Int64) (p2 : Nat) (p3 : Nat) (p4 : Int32) (p5 : Int32) (p8 : Int32) : Nat → Int64 → Int32 → PM Int64
  | 0, _, _ => failM
  | n + 1, q6, q9 =>
    ald p2 p8 fun v4 =>
    ifB (decide (v4 ≤ q9)) (
    k_65 q6) (
    ald p3 ((p5 * p8) + q9) fun v5 =>
    P_X8_mixAll_30 k_65 p2 p3 p4 p5 p8 n ((31 * q6) + (Int32.toInt64 v5)) (q9 + 1))
def P_X8_mixAll_6 (p2 : Nat) (p3 : Nat) (p4 : Int32) (p5 : Int32) : Nat → Int64 → Int32 → PM Int64
  | 0, _, _ => failM
  | n + 1, q6, q8 =>
    ifB (decide (p4 ≤ q8)) (
    pureM q6) (
    ald p2 q8 fun v1 =>
    jn (fun (e2 : Int64) =>
    P_X8_mixAll_6 p2 p3 p4 p5 n e2 (q8 + 1)) fun k3 =>
    P_X8_mixAll_30 k3 p2 p3 p4 p5 q8 4000 ((31 * q6) + (Int32.toInt64 v1)) 0)
def P_X8_mixAll (x0 : Int64) (a1 : Nat) (a2 : Nat) (x3 : Int32) (x4 : Int32) : PM Int64 :=
P_X8_mixAll_6 a1 a2 x3 x4 4000 x0 0
set_option maxHeartbeats 4000000 in
set_option maxRecDepth 100000 in
theorem W_X8_mixAll_30 {Γ : Cx} (ok : OKc Γ cX8_mixAll RX8 0 "mixAll") (okr : OKr Γ cX8_mixAll (some .long)) (k_65 : Int64 → PM Int64) (p2 : Nat) (p3 : Nat) (p4 : Int32) (p5 : Int32) (p8 : Int32) (hk_65 : ∀ (y6 : Int64), SW Γ iL 65 [none, none, some (.ref p2), some (.ref p3), some (.int p4), some (.int p5), some (.long y6), none, some (.int p8), none] [] (k_65 y6)) : ∀ (n : Nat) (q6 : Int64) (q9 : Int32), SW Γ iL 30 [none, none, some (.ref p2), some (.ref p3), some (.int p4), some (.int p5), some (.long q6), none, some (.int p8), some (.int q9)] [] (P_X8_mixAll_30 k_65 p2 p3 p4 p5 p8 n q6 q9) := by
  intro n
  induction n with
  | zero =>
    intros
    exact sw_fail
  | succ n ih =>
    intro q6 q9
    unfold P_X8_mixAll_30
    refine sw_iload (z := q9) (pc' := 32) ok dX8_mixAll_30 rfl rfl ?_
    refine sw_aload_n (z := p2) (pc' := 33) ok dX8_mixAll_32 rfl rfl ?_
    refine sw_iload (z := p8) (pc' := 35) ok dX8_mixAll_33 rfl rfl ?_
    refine sw_ald (pc' := 36) ok dX8_mixAll_35 rfl (fun v4 => ?_)
    refine sw_icmp_ge (tgt := 65) (pc' := 39) ok dX8_mixAll_36 (by decide) rfl ?_ ?_
    · refine sw_fg (l' := [none, none, some (.ref p2), some (.ref p3), some (.int p4), some (.int p5), some (.long q6), none, some (.int p8), none]) [false, false, true, true, true, true, true, false, true, false] rfl ?_
      exact hk_65 q6
    refine sw_ldc2 (v := 31) (pc' := 42) ok dX8_mixAll_39 rfl wd_666 ?_
    refine sw_lload (z := q6) (pc' := 44) ok dX8_mixAll_42 rfl rfl ?_
    refine sw_lmul (pc' := 45) ok dX8_mixAll_44 rfl ?_
    refine sw_aload_n (z := p3) (pc' := 46) ok dX8_mixAll_45 rfl rfl ?_
    refine sw_iload (z := p5) (pc' := 48) ok dX8_mixAll_46 rfl rfl ?_
    refine sw_iload (z := p8) (pc' := 50) ok dX8_mixAll_48 rfl rfl ?_
    refine sw_imul (pc' := 51) ok dX8_mixAll_50 rfl ?_
    refine sw_iload (z := q9) (pc' := 53) ok dX8_mixAll_51 rfl rfl ?_
    refine sw_iadd (pc' := 54) ok dX8_mixAll_53 rfl ?_
    refine sw_ald (pc' := 55) ok dX8_mixAll_54 rfl (fun v5 => ?_)
    refine sw_i2l (pc' := 56) ok dX8_mixAll_55 rfl ?_
    refine sw_ladd (pc' := 57) ok dX8_mixAll_56 rfl ?_
    refine sw_lstore (pc' := 59) (l' := [none, none, some (.ref p2), some (.ref p3), some (.int p4), some (.int p5), some (.long ((31 * q6) + (Int32.toInt64 v5))), none, some (.int p8), some (.int q9)]) ok dX8_mixAll_57 rfl (Nat.le_of_ble_eq_true rfl) rfl ?_
    refine sw_iinc (z := q9) (v := q9 + 1) (pc' := 62) (l' := [none, none, some (.ref p2), some (.ref p3), some (.int p4), some (.int p5), some (.long ((31 * q6) + (Int32.toInt64 v5))), none, some (.int p8), some (.int (q9 + 1))]) ok dX8_mixAll_59 rfl rfl (by rw [cc_iconst_1]) rfl ?_
    refine sw_goto (tgt := 30) ok dX8_mixAll_62 (by decide) ?_
    exact ih ((31 * q6) + (Int32.toInt64 v5)) (q9 + 1)
set_option maxHeartbeats 4000000 in
set_option maxRecDepth 100000 in
theorem W_X8_mixAll_6 {Γ : Cx} (ok : OKc Γ cX8_mixAll RX8 0 "mixAll") (okr : OKr Γ cX8_mixAll (some .long)) (p2 : Nat) (p3 : Nat) (p4 : Int32) (p5 : Int32) : ∀ (n : Nat) (q6 : Int64) (q8 : Int32), SW Γ iL 6 [none, none, some (.ref p2), some (.ref p3), some (.int p4), some (.int p5), some (.long q6), none, some (.int q8), none] [] (P_X8_mixAll_6 p2 p3 p4 p5 n q6 q8) := by
  intro n
  induction n with
  | zero =>
    intros
    exact sw_fail
  | succ n ih =>
    intro q6 q8
    unfold P_X8_mixAll_6
    refine sw_iload (z := q8) (pc' := 8) ok dX8_mixAll_6 rfl rfl ?_
    refine sw_iload (z := p4) (pc' := 10) ok dX8_mixAll_8 rfl rfl ?_
    refine sw_icmp_ge (tgt := 71) (pc' := 13) ok dX8_mixAll_10 (by decide) rfl ?_ ?_
    · refine sw_lload (z := q6) (pc' := 73) ok dX8_mixAll_71 rfl rfl ?_
      exact sw_ret ok okr dX8_mixAll_73 trivial rfl
    refine sw_ldc2 (v := 31) (pc' := 16) ok dX8_mixAll_13 rfl wd_666 ?_
    refine sw_lload (z := q6) (pc' := 18) ok dX8_mixAll_16 rfl rfl ?_
    refine sw_lmul (pc' := 19) ok dX8_mixAll_18 rfl ?_
    refine sw_aload_n (z := p2) (pc' := 20) ok dX8_mixAll_19 rfl rfl ?_
    refine sw_iload (z := q8) (pc' := 22) ok dX8_mixAll_20 rfl rfl ?_
    refine sw_ald (pc' := 23) ok dX8_mixAll_22 rfl (fun v1 => ?_)
    refine sw_i2l (pc' := 24) ok dX8_mixAll_23 rfl ?_
    refine sw_ladd (pc' := 25) ok dX8_mixAll_24 rfl ?_
    refine sw_lstore (pc' := 27) (l' := [none, none, some (.ref p2), some (.ref p3), some (.int p4), some (.int p5), some (.long ((31 * q6) + (Int32.toInt64 v1))), none, some (.int q8), none]) ok dX8_mixAll_25 rfl (Nat.le_of_ble_eq_true rfl) rfl ?_
    refine sw_iconst (v := 0) (pc' := 28) ok dX8_mixAll_27 rfl cc_iconst_0 ?_
    refine sw_istore (pc' := 30) (l' := [none, none, some (.ref p2), some (.ref p3), some (.int p4), some (.int p5), some (.long ((31 * q6) + (Int32.toInt64 v1))), none, some (.int q8), some (.int 0)]) ok dX8_mixAll_28 rfl (Nat.le_of_ble_eq_true rfl) rfl ?_
    refine sw_jn (fun k3 : Int64 → PM Int64 => ∀ (e2 : Int64), SW Γ iL 65 [none, none, some (.ref p2), some (.ref p3), some (.int p4), some (.int p5), some (.long e2), none, some (.int q8), none] [] (k3 e2)) ?_ (fun k3 hk3 => ?_)
    · intro e2
      refine sw_iinc (z := q8) (v := q8 + 1) (pc' := 68) (l' := [none, none, some (.ref p2), some (.ref p3), some (.int p4), some (.int p5), some (.long e2), none, some (.int (q8 + 1)), none]) ok dX8_mixAll_65 rfl rfl (by rw [cc_iconst_1]) rfl ?_
      refine sw_goto (tgt := 6) ok dX8_mixAll_68 (by decide) ?_
      exact ih e2 (q8 + 1)
    exact W_X8_mixAll_30 ok okr k3 p2 p3 p4 p5 q8 hk3 4000 ((31 * q6) + (Int32.toInt64 v1)) 0
set_option maxHeartbeats 4000000 in
set_option maxRecDepth 100000 in
theorem W_X8_mixAll {Γ : Cx} (ok : OKc Γ cX8_mixAll RX8 0 "mixAll") (okr : OKr Γ cX8_mixAll (some .long)) (x0 : Int64) (a1 : Nat) (a2 : Nat) (x3 : Int32) (x4 : Int32) : SW Γ iL 0 [some (.long x0), none, some (.ref a1), some (.ref a2), some (.int x3), some (.int x4), none, none, none, none] [] (P_X8_mixAll x0 a1 a2 x3 x4) := by
  unfold P_X8_mixAll
  refine sw_lload_n (z := x0) (pc' := 1) ok dX8_mixAll_0 rfl rfl ?_
  refine sw_lstore (pc' := 3) (l' := [some (.long x0), none, some (.ref a1), some (.ref a2), some (.int x3), some (.int x4), some (.long x0), none, none, none]) ok dX8_mixAll_1 rfl (Nat.le_of_ble_eq_true rfl) rfl ?_
  refine sw_iconst (v := 0) (pc' := 4) ok dX8_mixAll_3 rfl cc_iconst_0 ?_
  refine sw_istore (pc' := 6) (l' := [some (.long x0), none, some (.ref a1), some (.ref a2), some (.int x3), some (.int x4), some (.long x0), none, some (.int 0), none]) ok dX8_mixAll_4 rfl (Nat.le_of_ble_eq_true rfl) rfl ?_
  refine sw_fg (l' := [none, none, some (.ref a1), some (.ref a2), some (.int x3), some (.int x4), some (.long x0), none, some (.int 0), none]) [false, false, true, true, true, true, true, false, true, false] rfl ?_
  exact W_X8_mixAll_6 ok okr a1 a2 x3 x4 4000 x0 0
theorem S_X8_mixAll (x0 : Int64) (a1 : Nat) (a2 : Nat) (x3 : Int32) (x4 : Int32) : Sim 0 yX8_mixAll cX8_mixAll 10 (some .long) iL [.long x0, .ref a1, .ref a2, .int x3, .int x4] (P_X8_mixAll x0 a1 a2 x3 x4) := Sim.intro wd_1157 (by decide) (by decide +kernel) (Nat.le_of_ble_eq_true rfl) (fun Γ ok okr => W_X8_mixAll ok okr x0 a1 a2 x3 x4)
theorem dX8_digest_0 : decode cX8_digest 0 = .ok (.ldc2_w 350, 3) := by decide +kernel
theorem dX8_digest_3 : decode cX8_digest 3 = .ok (.lstore_n 1, 1) := by decide +kernel
theorem dX8_digest_4 : decode cX8_digest 4 = .ok (.iconst 0, 1) := by decide +kernel
theorem dX8_digest_5 : decode cX8_digest 5 = .ok (.istore_n 3, 1) := by decide +kernel
theorem dX8_digest_6 : decode cX8_digest 6 = .ok (.iload_n 3, 1) := by decide +kernel
theorem dX8_digest_7 : decode cX8_digest 7 = .ok (.bipush 11, 2) := by decide +kernel
theorem dX8_digest_9 : decode cX8_digest 9 = .ok (.if_icmp .ge 22, 3) := by decide +kernel
theorem dX8_digest_12 : decode cX8_digest 12 = .ok (.ldc2_w 348, 3) := by decide +kernel
theorem dX8_digest_15 : decode cX8_digest 15 = .ok (.lload_n 1, 1) := by decide +kernel
theorem dX8_digest_16 : decode cX8_digest 16 = .ok (.lmul, 1) := by decide +kernel
theorem dX8_digest_17 : decode cX8_digest 17 = .ok (.aload_n 0, 1) := by decide +kernel
theorem dX8_digest_18 : decode cX8_digest 18 = .ok (.iload_n 3, 1) := by decide +kernel
theorem dX8_digest_19 : decode cX8_digest 19 = .ok (.invokevirtual 352, 3) := by decide +kernel
theorem dX8_digest_22 : decode cX8_digest 22 = .ok (.i2l, 1) := by decide +kernel
theorem dX8_digest_23 : decode cX8_digest 23 = .ok (.ladd, 1) := by decide +kernel
theorem dX8_digest_24 : decode cX8_digest 24 = .ok (.lstore_n 1, 1) := by decide +kernel
theorem dX8_digest_25 : decode cX8_digest 25 = .ok (.iinc 3 1, 3) := by decide +kernel
theorem dX8_digest_28 : decode cX8_digest 28 = .ok (.goto (-22), 3) := by decide +kernel
theorem dX8_digest_31 : decode cX8_digest 31 = .ok (.iconst 0, 1) := by decide +kernel
theorem dX8_digest_32 : decode cX8_digest 32 = .ok (.istore_n 3, 1) := by decide +kernel
theorem dX8_digest_33 : decode cX8_digest 33 = .ok (.iload_n 3, 1) := by decide +kernel
theorem dX8_digest_34 : decode cX8_digest 34 = .ok (.aload_n 0, 1) := by decide +kernel
theorem dX8_digest_35 : decode cX8_digest 35 = .ok (.getfield 156, 3) := by decide +kernel
theorem dX8_digest_38 : decode cX8_digest 38 = .ok (.if_icmp .ge 40, 3) := by decide +kernel
theorem dX8_digest_41 : decode cX8_digest 41 = .ok (.iconst 0, 1) := by decide +kernel
theorem dX8_digest_42 : decode cX8_digest 42 = .ok (.istore 4, 2) := by decide +kernel
theorem dX8_digest_44 : decode cX8_digest 44 = .ok (.iload 4, 2) := by decide +kernel
theorem dX8_digest_46 : decode cX8_digest 46 = .ok (.bipush 6, 2) := by decide +kernel
theorem dX8_digest_48 : decode cX8_digest 48 = .ok (.if_icmp .ge 24, 3) := by decide +kernel
theorem dX8_digest_51 : decode cX8_digest 51 = .ok (.ldc2_w 348, 3) := by decide +kernel
theorem dX8_digest_54 : decode cX8_digest 54 = .ok (.lload_n 1, 1) := by decide +kernel
theorem dX8_digest_55 : decode cX8_digest 55 = .ok (.lmul, 1) := by decide +kernel
theorem dX8_digest_56 : decode cX8_digest 56 = .ok (.aload_n 0, 1) := by decide +kernel
theorem dX8_digest_57 : decode cX8_digest 57 = .ok (.iload_n 3, 1) := by decide +kernel
theorem dX8_digest_58 : decode cX8_digest 58 = .ok (.iload 4, 2) := by decide +kernel
theorem dX8_digest_60 : decode cX8_digest 60 = .ok (.invokevirtual 189, 3) := by decide +kernel
theorem dX8_digest_63 : decode cX8_digest 63 = .ok (.i2l, 1) := by decide +kernel
theorem dX8_digest_64 : decode cX8_digest 64 = .ok (.ladd, 1) := by decide +kernel
theorem dX8_digest_65 : decode cX8_digest 65 = .ok (.lstore_n 1, 1) := by decide +kernel
theorem dX8_digest_66 : decode cX8_digest 66 = .ok (.iinc 4 1, 3) := by decide +kernel
theorem dX8_digest_69 : decode cX8_digest 69 = .ok (.goto (-25), 3) := by decide +kernel
theorem dX8_digest_72 : decode cX8_digest 72 = .ok (.iinc 3 1, 3) := by decide +kernel
theorem dX8_digest_75 : decode cX8_digest 75 = .ok (.goto (-42), 3) := by decide +kernel
theorem dX8_digest_78 : decode cX8_digest 78 = .ok (.iconst 0, 1) := by decide +kernel
theorem dX8_digest_79 : decode cX8_digest 79 = .ok (.istore_n 3, 1) := by decide +kernel
theorem dX8_digest_80 : decode cX8_digest 80 = .ok (.iload_n 3, 1) := by decide +kernel
theorem dX8_digest_81 : decode cX8_digest 81 = .ok (.iconst 3, 1) := by decide +kernel
theorem dX8_digest_82 : decode cX8_digest 82 = .ok (.if_icmp .ge 23, 3) := by decide +kernel
theorem dX8_digest_85 : decode cX8_digest 85 = .ok (.ldc2_w 348, 3) := by decide +kernel
theorem dX8_digest_88 : decode cX8_digest 88 = .ok (.lload_n 1, 1) := by decide +kernel
theorem dX8_digest_89 : decode cX8_digest 89 = .ok (.lmul, 1) := by decide +kernel
theorem dX8_digest_90 : decode cX8_digest 90 = .ok (.aload_n 0, 1) := by decide +kernel
theorem dX8_digest_91 : decode cX8_digest 91 = .ok (.getfield 25, 3) := by decide +kernel
theorem dX8_digest_94 : decode cX8_digest 94 = .ok (.iload_n 3, 1) := by decide +kernel
theorem dX8_digest_95 : decode cX8_digest 95 = .ok (.iaload, 1) := by decide +kernel
theorem dX8_digest_96 : decode cX8_digest 96 = .ok (.i2l, 1) := by decide +kernel
theorem dX8_digest_97 : decode cX8_digest 97 = .ok (.ladd, 1) := by decide +kernel
theorem dX8_digest_98 : decode cX8_digest 98 = .ok (.lstore_n 1, 1) := by decide +kernel
theorem dX8_digest_99 : decode cX8_digest 99 = .ok (.iinc 3 1, 3) := by decide +kernel
theorem dX8_digest_102 : decode cX8_digest 102 = .ok (.goto (-22), 3) := by decide +kernel
theorem dX8_digest_105 : decode cX8_digest 105 = .ok (.lload_n 1, 1) := by decide +kernel
theorem dX8_digest_106 : decode cX8_digest 106 = .ok (.aload_n 0, 1) := by decide +kernel
theorem dX8_digest_107 : decode cX8_digest 107 = .ok (.getfield 13, 3) := by decide +kernel
theorem dX8_digest_110 : decode cX8_digest 110 = .ok (.aload_n 0, 1) := by decide +kernel
theorem dX8_digest_111 : decode cX8_digest 111 = .ok (.getfield 7, 3) := by decide +kernel
theorem dX8_digest_114 : decode cX8_digest 114 = .ok (.bipush 6, 2) := by decide +kernel
theorem dX8_digest_116 : decode cX8_digest 116 = .ok (.bipush 40, 2) := by decide +kernel
theorem dX8_digest_118 : decode cX8_digest 118 = .ok (.invokestatic 355, 3) := by decide +kernel
theorem dX8_digest_121 : decode cX8_digest 121 = .ok (.lstore_n 1, 1) := by decide +kernel
theorem dX8_digest_122 : decode cX8_digest 122 = .ok (.lload_n 1, 1) := by decide +kernel
theorem dX8_digest_123 : decode cX8_digest 123 = .ok (.aload_n 0, 1) := by decide +kernel
theorem dX8_digest_124 : decode cX8_digest 124 = .ok (.getfield 19, 3) := by decide +kernel
theorem dX8_digest_127 : decode cX8_digest 127 = .ok (.aload_n 0, 1) := by decide +kernel
theorem dX8_digest_128 : decode cX8_digest 128 = .ok (.getfield 16, 3) := by decide +kernel
theorem dX8_digest_131 : decode cX8_digest 131 = .ok (.iconst 4, 1) := by decide +kernel
theorem dX8_digest_132 : decode cX8_digest 132 = .ok (.bipush 60, 2) := by decide +kernel
theorem dX8_digest_134 : decode cX8_digest 134 = .ok (.invokestatic 355, 3) := by decide +kernel
theorem dX8_digest_137 : decode cX8_digest 137 = .ok (.lreturn, 1) := by decide +kernel
def P_X8_digest_80 (k_105 : Int64 → PM Int64) (p0 : Nat) : Nat → Int64 → Int32 → PM Int64
  | 0, _, _ => failM
  | n + 1, q1, q3 =>
    ifB (decide (3 ≤ q3)) (
    k_105 q1) (
    getR 8 5 p0 fun v11 =>
    ald v11 q3 fun v12 =>
    P_X8_digest_80 k_105 p0 n ((31 * q1) + (Int32.toInt64 v12)) (q3 + 1))
def P_X8_digest_44 (k_72 : Int64 → PM Int64) (p0 : Nat) (p3 : Int32) : Nat → Int64 → Int32 → PM Int64
  | 0, _, _ => failM
  | n + 1, q1, q4 =>
    ifB (decide (6 ≤ q4)) (
    k_72 q1) (
    cllV 8 p0 (P_X8_told p0 p3 q4) fun v17 =>
    P_X8_digest_44 k_72 p0 p3 n ((31 * q1) + (Int32.toInt64 v17)) (q4 + 1))
def P_X8_digest_33 (k_78 : Int64 → PM Int64) (p0 : Nat) : Nat → Int64 → Int32 → PM Int64
  | 0, _, _ => failM
  | n + 1, q1, q3 =>
    getI 8 10 p0 fun v14 =>
    ifB (decide (v14 ≤ q3)) (
    k_78 q1) (
    jn (fun (e15 : Int64) =>
    P_X8_digest_33 k_78 p0 n e15 (q3 + 1)) fun k16 =>
    P_X8_digest_44 k16 p0 q3 4000 q1 0)
def P_X8_digest_6 (k_31 : Int64 → PM Int64) (p0 : Nat) : Nat → Int64 → Int32 → PM Int64
  | 0, _, _ => failM
  | n + 1, q1, q3 =>
    ifB (decide (11 ≤ q3)) (
    k_31 q1) (
    cllV 8 p0 (P_X8_count p0 q3) fun v19 =>
    P_X8_digest_6 k_31 p0 n ((31 * q1) + (Int32.toInt64 v19)) (q3 + 1))
def P_X8_digest (a0 : Nat) : PM Int64 :=
jn (fun (e1 : Int64) =>
jn (fun (e2 : Int64) =>
jn (fun (e3 : Int64) =>
getR 8 1 a0 fun v4 =>
getR 8 0 a0 fun v5 =>
cll0 (P_X8_mixAll e3 v4 v5 6 40) fun v6 =>
getR 8 3 a0 fun v7 =>
getR 8 2 a0 fun v8 =>
cll0 (P_X8_mixAll v6 v7 v8 4 60) fun v9 =>
pureM v9) fun k10 =>
P_X8_digest_80 k10 a0 4000 e2 0) fun k13 =>
P_X8_digest_33 k13 a0 4000 e1 0) fun k18 =>
P_X8_digest_6 k18 a0 4000 17 0
set_option maxHeartbeats 4000000 in
set_option maxRecDepth 100000 in
theorem W_X8_digest_80 {Γ : Cx} (ok : OKc Γ cX8_digest RX8 5 "digest") (okr : OKr Γ cX8_digest (some .long)) (k_105 : Int64 → PM Int64) (p0 : Nat) (hk_105 : ∀ (y1 : Int64), SW Γ iL 105 [some (.ref p0), some (.long y1), none, none, none] [] (k_105 y1)) : ∀ (n : Nat) (q1 : Int64) (q3 : Int32), SW Γ iL 80 [some (.ref p0), some (.long q1), none, some (.int q3), none] [] (P_X8_digest_80 k_105 p0 n q1 q3) := by
  intro n
  induction n with
  | zero =>
    intros
    exact sw_fail
  | succ n ih =>
    intro q1 q3
    unfold P_X8_digest_80
    refine sw_iload_n (z := q3) (pc' := 81) ok dX8_digest_80 rfl rfl ?_
    refine sw_iconst (v := 3) (pc' := 82) ok dX8_digest_81 rfl cc_iconst_3 ?_
    refine sw_icmp_ge (tgt := 105) (pc' := 85) ok dX8_digest_82 (by decide) rfl ?_ ?_
    · refine sw_fg (l' := [some (.ref p0), some (.long q1), none, none, none]) [true, true, false, false, false] rfl ?_
      exact hk_105 q1
    refine sw_ldc2 (v := 31) (pc' := 88) ok dX8_digest_85 rfl wd_666 ?_
    refine sw_lload_n (z := q1) (pc' := 89) ok dX8_digest_88 rfl rfl ?_
    refine sw_lmul (pc' := 90) ok dX8_digest_89 rfl ?_
    refine sw_aload_n (z := p0) (pc' := 91) ok dX8_digest_90 rfl rfl ?_
    refine sw_getR (pc' := 94) ok (fr_X8_25.g) dX8_digest_91 rfl (fun v11 => ?_)
    refine sw_iload_n (z := q3) (pc' := 95) ok dX8_digest_94 rfl rfl ?_
    refine sw_ald (pc' := 96) ok dX8_digest_95 rfl (fun v12 => ?_)
    refine sw_i2l (pc' := 97) ok dX8_digest_96 rfl ?_
    refine sw_ladd (pc' := 98) ok dX8_digest_97 rfl ?_
    refine sw_lstore_n (pc' := 99) (l' := [some (.ref p0), some (.long ((31 * q1) + (Int32.toInt64 v12))), none, some (.int q3), none]) ok dX8_digest_98 rfl (Nat.le_of_ble_eq_true rfl) rfl ?_
    refine sw_iinc (z := q3) (v := q3 + 1) (pc' := 102) (l' := [some (.ref p0), some (.long ((31 * q1) + (Int32.toInt64 v12))), none, some (.int (q3 + 1)), none]) ok dX8_digest_99 rfl rfl (by rw [cc_iconst_1]) rfl ?_
    refine sw_goto (tgt := 80) ok dX8_digest_102 (by decide) ?_
    exact ih ((31 * q1) + (Int32.toInt64 v12)) (q3 + 1)
set_option maxHeartbeats 4000000 in
set_option maxRecDepth 100000 in
theorem W_X8_digest_44 {Γ : Cx} (ok : OKc Γ cX8_digest RX8 5 "digest") (okr : OKr Γ cX8_digest (some .long)) (k_72 : Int64 → PM Int64) (p0 : Nat) (p3 : Int32) (hk_72 : ∀ (y1 : Int64), SW Γ iL 72 [some (.ref p0), some (.long y1), none, some (.int p3), none] [] (k_72 y1)) : ∀ (n : Nat) (q1 : Int64) (q4 : Int32), SW Γ iL 44 [some (.ref p0), some (.long q1), none, some (.int p3), some (.int q4)] [] (P_X8_digest_44 k_72 p0 p3 n q1 q4) := by
  intro n
  induction n with
  | zero =>
    intros
    exact sw_fail
  | succ n ih =>
    intro q1 q4
    unfold P_X8_digest_44
    refine sw_iload (z := q4) (pc' := 46) ok dX8_digest_44 rfl rfl ?_
    refine sw_bipush (v := 6) (pc' := 48) ok dX8_digest_46 rfl cc_bipush_6 ?_
    refine sw_icmp_ge (tgt := 72) (pc' := 51) ok dX8_digest_48 (by decide) rfl ?_ ?_
    · refine sw_fg (l' := [some (.ref p0), some (.long q1), none, some (.int p3), none]) [true, true, false, true, false] rfl ?_
      exact hk_72 q1
    refine sw_ldc2 (v := 31) (pc' := 54) ok dX8_digest_51 rfl wd_666 ?_
    refine sw_lload_n (z := q1) (pc' := 55) ok dX8_digest_54 rfl rfl ?_
    refine sw_lmul (pc' := 56) ok dX8_digest_55 rfl ?_
    refine sw_aload_n (z := p0) (pc' := 57) ok dX8_digest_56 rfl rfl ?_
    refine sw_iload_n (z := p3) (pc' := 58) ok dX8_digest_57 rfl rfl ?_
    refine sw_iload (z := q4) (pc' := 60) ok dX8_digest_58 rfl rfl ?_
    refine sw_cllV_I (st := [.long (31 * q1)]) (as := [.int p3, .int q4]) (pc' := 63) ok (S_X8_told p0 p3 q4) (by decide) lk_X8_189 rfl dX8_digest_60 rfl (Nat.le_of_ble_eq_true rfl) rfl (fun v17 => ?_)
    refine sw_i2l (pc' := 64) ok dX8_digest_63 rfl ?_
    refine sw_ladd (pc' := 65) ok dX8_digest_64 rfl ?_
    refine sw_lstore_n (pc' := 66) (l' := [some (.ref p0), some (.long ((31 * q1) + (Int32.toInt64 v17))), none, some (.int p3), some (.int q4)]) ok dX8_digest_65 rfl (Nat.le_of_ble_eq_true rfl) rfl ?_
    refine sw_iinc (z := q4) (v := q4 + 1) (pc' := 69) (l' := [some (.ref p0), some (.long ((31 * q1) + (Int32.toInt64 v17))), none, some (.int p3), some (.int (q4 + 1))]) ok dX8_digest_66 rfl rfl (by rw [cc_iconst_1]) rfl ?_
    refine sw_goto (tgt := 44) ok dX8_digest_69 (by decide) ?_
    exact ih ((31 * q1) + (Int32.toInt64 v17)) (q4 + 1)
set_option maxHeartbeats 4000000 in
set_option maxRecDepth 100000 in
theorem W_X8_digest_33 {Γ : Cx} (ok : OKc Γ cX8_digest RX8 5 "digest") (okr : OKr Γ cX8_digest (some .long)) (k_78 : Int64 → PM Int64) (p0 : Nat) (hk_78 : ∀ (y1 : Int64), SW Γ iL 78 [some (.ref p0), some (.long y1), none, none, none] [] (k_78 y1)) : ∀ (n : Nat) (q1 : Int64) (q3 : Int32), SW Γ iL 33 [some (.ref p0), some (.long q1), none, some (.int q3), none] [] (P_X8_digest_33 k_78 p0 n q1 q3) := by
  intro n
  induction n with
  | zero =>
    intros
    exact sw_fail
  | succ n ih =>
    intro q1 q3
    unfold P_X8_digest_33
    refine sw_iload_n (z := q3) (pc' := 34) ok dX8_digest_33 rfl rfl ?_
    refine sw_aload_n (z := p0) (pc' := 35) ok dX8_digest_34 rfl rfl ?_
    refine sw_getI (pc' := 38) ok (fr_X8_156.g) dX8_digest_35 rfl (fun v14 => ?_)
    refine sw_icmp_ge (tgt := 78) (pc' := 41) ok dX8_digest_38 (by decide) rfl ?_ ?_
    · refine sw_fg (l' := [some (.ref p0), some (.long q1), none, none, none]) [true, true, false, false, false] rfl ?_
      exact hk_78 q1
    refine sw_iconst (v := 0) (pc' := 42) ok dX8_digest_41 rfl cc_iconst_0 ?_
    refine sw_istore (pc' := 44) (l' := [some (.ref p0), some (.long q1), none, some (.int q3), some (.int 0)]) ok dX8_digest_42 rfl (Nat.le_of_ble_eq_true rfl) rfl ?_
    refine sw_jn (fun k16 : Int64 → PM Int64 => ∀ (e15 : Int64), SW Γ iL 72 [some (.ref p0), some (.long e15), none, some (.int q3), none] [] (k16 e15)) ?_ (fun k16 hk16 => ?_)
    · intro e15
      refine sw_iinc (z := q3) (v := q3 + 1) (pc' := 75) (l' := [some (.ref p0), some (.long e15), none, some (.int (q3 + 1)), none]) ok dX8_digest_72 rfl rfl (by rw [cc_iconst_1]) rfl ?_
      refine sw_goto (tgt := 33) ok dX8_digest_75 (by decide) ?_
      exact ih e15 (q3 + 1)
    exact W_X8_digest_44 ok okr k16 p0 q3 hk16 4000 q1 0
set_option maxHeartbeats 4000000 in
set_option maxRecDepth 100000 in
theorem W_X8_digest_6 {Γ : Cx} (ok : OKc Γ cX8_digest RX8 5 "digest") (okr : OKr Γ cX8_digest (some .long)) (k_31 : Int64 → PM Int64) (p0 : Nat) (hk_31 : ∀ (y1 : Int64), SW Γ iL 31 [some (.ref p0), some (.long y1), none, none, none] [] (k_31 y1)) : ∀ (n : Nat) (q1 : Int64) (q3 : Int32), SW Γ iL 6 [some (.ref p0), some (.long q1), none, some (.int q3), none] [] (P_X8_digest_6 k_31 p0 n q1 q3) := by
  intro n
  induction n with
  | zero =>
    intros
    exact sw_fail
  | succ n ih =>
    intro q1 q3
    unfold P_X8_digest_6
    refine sw_iload_n (z := q3) (pc' := 7) ok dX8_digest_6 rfl rfl ?_
    refine sw_bipush (v := 11) (pc' := 9) ok dX8_digest_7 rfl cc_bipush_11 ?_
    refine sw_icmp_ge (tgt := 31) (pc' := 12) ok dX8_digest_9 (by decide) rfl ?_ ?_
    · refine sw_fg (l' := [some (.ref p0), some (.long q1), none, none, none]) [true, true, false, false, false] rfl ?_
      exact hk_31 q1
    refine sw_ldc2 (v := 31) (pc' := 15) ok dX8_digest_12 rfl wd_666 ?_
    refine sw_lload_n (z := q1) (pc' := 16) ok dX8_digest_15 rfl rfl ?_
    refine sw_lmul (pc' := 17) ok dX8_digest_16 rfl ?_
    refine sw_aload_n (z := p0) (pc' := 18) ok dX8_digest_17 rfl rfl ?_
    refine sw_iload_n (z := q3) (pc' := 19) ok dX8_digest_18 rfl rfl ?_
    refine sw_cllV_I (st := [.long (31 * q1)]) (as := [.int q3]) (pc' := 22) ok (S_X8_count p0 q3) (by decide) lk_X8_352 rfl dX8_digest_19 rfl (Nat.le_of_ble_eq_true rfl) rfl (fun v19 => ?_)
    refine sw_i2l (pc' := 23) ok dX8_digest_22 rfl ?_
    refine sw_ladd (pc' := 24) ok dX8_digest_23 rfl ?_
    refine sw_lstore_n (pc' := 25) (l' := [some (.ref p0), some (.long ((31 * q1) + (Int32.toInt64 v19))), none, some (.int q3), none]) ok dX8_digest_24 rfl (Nat.le_of_ble_eq_true rfl) rfl ?_
    refine sw_iinc (z := q3) (v := q3 + 1) (pc' := 28) (l' := [some (.ref p0), some (.long ((31 * q1) + (Int32.toInt64 v19))), none, some (.int (q3 + 1)), none]) ok dX8_digest_25 rfl rfl (by rw [cc_iconst_1]) rfl ?_
    refine sw_goto (tgt := 6) ok dX8_digest_28 (by decide) ?_
    exact ih ((31 * q1) + (Int32.toInt64 v19)) (q3 + 1)
set_option maxHeartbeats 4000000 in
set_option maxRecDepth 100000 in
theorem W_X8_digest {Γ : Cx} (ok : OKc Γ cX8_digest RX8 5 "digest") (okr : OKr Γ cX8_digest (some .long)) (a0 : Nat) : SW Γ iL 0 [some (.ref a0), none, none, none, none] [] (P_X8_digest a0) := by
  unfold P_X8_digest
  refine sw_ldc2 (v := 17) (pc' := 3) ok dX8_digest_0 rfl wd_667 ?_
  refine sw_lstore_n (pc' := 4) (l' := [some (.ref a0), some (.long 17), none, none, none]) ok dX8_digest_3 rfl (Nat.le_of_ble_eq_true rfl) rfl ?_
  refine sw_iconst (v := 0) (pc' := 5) ok dX8_digest_4 rfl cc_iconst_0 ?_
  refine sw_istore_n (pc' := 6) (l' := [some (.ref a0), some (.long 17), none, some (.int 0), none]) ok dX8_digest_5 rfl (Nat.le_of_ble_eq_true rfl) rfl ?_
  refine sw_jn (fun k18 : Int64 → PM Int64 => ∀ (e1 : Int64), SW Γ iL 31 [some (.ref a0), some (.long e1), none, none, none] [] (k18 e1)) ?_ (fun k18 hk18 => ?_)
  · intro e1
    refine sw_iconst (v := 0) (pc' := 32) ok dX8_digest_31 rfl cc_iconst_0 ?_
    refine sw_istore_n (pc' := 33) (l' := [some (.ref a0), some (.long e1), none, some (.int 0), none]) ok dX8_digest_32 rfl (Nat.le_of_ble_eq_true rfl) rfl ?_
    refine sw_jn (fun k13 : Int64 → PM Int64 => ∀ (e2 : Int64), SW Γ iL 78 [some (.ref a0), some (.long e2), none, none, none] [] (k13 e2)) ?_ (fun k13 hk13 => ?_)
    · intro e2
      refine sw_iconst (v := 0) (pc' := 79) ok dX8_digest_78 rfl cc_iconst_0 ?_
      refine sw_istore_n (pc' := 80) (l' := [some (.ref a0), some (.long e2), none, some (.int 0), none]) ok dX8_digest_79 rfl (Nat.le_of_ble_eq_true rfl) rfl ?_
      refine sw_jn (fun k10 : Int64 → PM Int64 => ∀ (e3 : Int64), SW Γ iL 105 [some (.ref a0), some (.long e3), none, none, none] [] (k10 e3)) ?_ (fun k10 hk10 => ?_)
      · intro e3
        refine sw_lload_n (z := e3) (pc' := 106) ok dX8_digest_105 rfl rfl ?_
        refine sw_aload_n (z := a0) (pc' := 107) ok dX8_digest_106 rfl rfl ?_
        refine sw_getR (pc' := 110) ok (fr_X8_13.g) dX8_digest_107 rfl (fun v4 => ?_)
        refine sw_aload_n (z := a0) (pc' := 111) ok dX8_digest_110 rfl rfl ?_
        refine sw_getR (pc' := 114) ok (fr_X8_7.g) dX8_digest_111 rfl (fun v5 => ?_)
        refine sw_bipush (v := 6) (pc' := 116) ok dX8_digest_114 rfl cc_bipush_6 ?_
        refine sw_bipush (v := 40) (pc' := 118) ok dX8_digest_116 rfl cc_bipush_40 ?_
        refine sw_cll0_L (st := []) (as := [.long e3, .ref v4, .ref v5, .int 6, .int 40]) (pc' := 121) ok (S_X8_mixAll e3 v4 v5 6 40) (by decide) lk_X8_355 rfl dX8_digest_118 rfl (Nat.le_of_ble_eq_true rfl) rfl (fun v6 => ?_)
        refine sw_lstore_n (pc' := 122) (l' := [some (.ref a0), some (.long v6), none, none, none]) ok dX8_digest_121 rfl (Nat.le_of_ble_eq_true rfl) rfl ?_
        refine sw_lload_n (z := v6) (pc' := 123) ok dX8_digest_122 rfl rfl ?_
        refine sw_aload_n (z := a0) (pc' := 124) ok dX8_digest_123 rfl rfl ?_
        refine sw_getR (pc' := 127) ok (fr_X8_19.g) dX8_digest_124 rfl (fun v7 => ?_)
        refine sw_aload_n (z := a0) (pc' := 128) ok dX8_digest_127 rfl rfl ?_
        refine sw_getR (pc' := 131) ok (fr_X8_16.g) dX8_digest_128 rfl (fun v8 => ?_)
        refine sw_iconst (v := 4) (pc' := 132) ok dX8_digest_131 rfl cc_iconst_4 ?_
        refine sw_bipush (v := 60) (pc' := 134) ok dX8_digest_132 rfl cc_bipush_60 ?_
        refine sw_cll0_L (st := []) (as := [.long v6, .ref v7, .ref v8, .int 4, .int 60]) (pc' := 137) ok (S_X8_mixAll v6 v7 v8 4 60) (by decide) lk_X8_355 rfl dX8_digest_134 rfl (Nat.le_of_ble_eq_true rfl) rfl (fun v9 => ?_)
        exact sw_ret ok okr dX8_digest_137 trivial rfl
      exact W_X8_digest_80 ok okr k10 a0 hk10 4000 e2 0
    exact W_X8_digest_33 ok okr k13 a0 hk13 4000 e1 0
  exact W_X8_digest_6 ok okr k18 a0 hk18 4000 17 0
theorem S_X8_digest (a0 : Nat) : Sim 5 yX8_digest cX8_digest 5 (some .long) iL [.ref a0] (P_X8_digest a0) := Sim.intro wd_1158 (by decide) (by decide +kernel) (Nat.le_of_ble_eq_true rfl) (fun Γ ok okr => W_X8_digest ok okr a0)
