/-! Programs and walks, printed by program (gen.py). -/
theorem dX8_when_0 : decode cX8_when 0 = .ok (.iload_n 1, 1) := by decide +kernel
theorem dX8_when_1 : decode cX8_when 1 = .ok (.invokestatic 86, 3) := by decide +kernel
theorem dX8_when_4 : decode cX8_when 4 = .ok (.ifCond .eq 15, 3) := by decide +kernel
theorem dX8_when_7 : decode cX8_when 7 = .ok (.iload_n 2, 1) := by decide +kernel
theorem dX8_when_8 : decode cX8_when 8 = .ok (.i2l, 1) := by decide +kernel
theorem dX8_when_9 : decode cX8_when 9 = .ok (.lconst 0, 1) := by decide +kernel
theorem dX8_when_10 : decode cX8_when 10 = .ok (.ldc2_w 217, 3) := by decide +kernel
theorem dX8_when_13 : decode cX8_when 13 = .ok (.invokestatic 80, 3) := by decide +kernel
theorem dX8_when_16 : decode cX8_when 16 = .ok (.ifCond .ne 5, 3) := by decide +kernel
theorem dX8_when_19 : decode cX8_when 19 = .ok (.iconst (-1), 1) := by decide +kernel
theorem dX8_when_20 : decode cX8_when 20 = .ok (.ireturn, 1) := by decide +kernel
theorem dX8_when_21 : decode cX8_when 21 = .ok (.aload_n 0, 1) := by decide +kernel
theorem dX8_when_22 : decode cX8_when 22 = .ok (.getfield 156, 3) := by decide +kernel
theorem dX8_when_25 : decode cX8_when 25 = .ok (.ifCond .ne 6, 3) := by decide +kernel
theorem dX8_when_28 : decode cX8_when 28 = .ok (.bipush (-4), 2) := by decide +kernel
theorem dX8_when_30 : decode cX8_when 30 = .ok (.ireturn, 1) := by decide +kernel
theorem dX8_when_31 : decode cX8_when 31 = .ok (.aload_n 0, 1) := by decide +kernel
theorem dX8_when_32 : decode cX8_when 32 = .ok (.iload_n 1, 1) := by decide +kernel
theorem dX8_when_33 : decode cX8_when 33 = .ok (.invokevirtual 249, 3) := by decide +kernel
theorem dX8_when_36 : decode cX8_when 36 = .ok (.istore_n 3, 1) := by decide +kernel
theorem dX8_when_37 : decode cX8_when 37 = .ok (.iload_n 3, 1) := by decide +kernel
theorem dX8_when_38 : decode cX8_when 38 = .ok (.ifCond .le 9, 3) := by decide +kernel
theorem dX8_when_41 : decode cX8_when 41 = .ok (.aload_n 0, 1) := by decide +kernel
theorem dX8_when_42 : decode cX8_when 42 = .ok (.iload_n 3, 1) := by decide +kernel
theorem dX8_when_43 : decode cX8_when 43 = .ok (.invokevirtual 90, 3) := by decide +kernel
theorem dX8_when_46 : decode cX8_when 46 = .ok (.ireturn, 1) := by decide +kernel
theorem dX8_when_47 : decode cX8_when 47 = .ok (.aload_n 0, 1) := by decide +kernel
theorem dX8_when_48 : decode cX8_when 48 = .ok (.iconst 0, 1) := by decide +kernel
theorem dX8_when_49 : decode cX8_when 49 = .ok (.bipush 11, 2) := by decide +kernel
theorem dX8_when_51 : decode cX8_when 51 = .ok (.bipush 11, 2) := by decide +kernel
theorem dX8_when_53 : decode cX8_when 53 = .ok (.invokevirtual 204, 3) := by decide +kernel
theorem dX8_when_56 : decode cX8_when 56 = .ok (.iconst 0, 1) := by decide +kernel
theorem dX8_when_57 : decode cX8_when 57 = .ok (.istore 4, 2) := by decide +kernel
theorem dX8_when_59 : decode cX8_when 59 = .ok (.iload 4, 2) := by decide +kernel
theorem dX8_when_61 : decode cX8_when 61 = .ok (.aload_n 0, 1) := by decide +kernel
theorem dX8_when_62 : decode cX8_when 62 = .ok (.getfield 13, 3) := by decide +kernel
theorem dX8_when_65 : decode cX8_when 65 = .ok (.iload_n 1, 1) := by decide +kernel
theorem dX8_when_66 : decode cX8_when 66 = .ok (.iaload, 1) := by decide +kernel
theorem dX8_when_67 : decode cX8_when 67 = .ok (.if_icmp .ge 39, 3) := by decide +kernel
theorem dX8_when_70 : decode cX8_when 70 = .ok (.aload_n 0, 1) := by decide +kernel
theorem dX8_when_71 : decode cX8_when 71 = .ok (.getfield 22, 3) := by decide +kernel
theorem dX8_when_74 : decode cX8_when 74 = .ok (.bipush 11, 2) := by decide +kernel
theorem dX8_when_76 : decode cX8_when 76 = .ok (.iaload, 1) := by decide +kernel
theorem dX8_when_77 : decode cX8_when 77 = .ok (.iload_n 2, 1) := by decide +kernel
theorem dX8_when_78 : decode cX8_when 78 = .ok (.if_icmp .lt 6, 3) := by decide +kernel
theorem dX8_when_81 : decode cX8_when 81 = .ok (.iload 4, 2) := by decide +kernel
theorem dX8_when_83 : decode cX8_when 83 = .ok (.ireturn, 1) := by decide +kernel
theorem dX8_when_84 : decode cX8_when 84 = .ok (.aload_n 0, 1) := by decide +kernel
theorem dX8_when_85 : decode cX8_when 85 = .ok (.aload_n 0, 1) := by decide +kernel
theorem dX8_when_86 : decode cX8_when 86 = .ok (.getfield 7, 3) := by decide +kernel
theorem dX8_when_89 : decode cX8_when 89 = .ok (.bipush 40, 2) := by decide +kernel
theorem dX8_when_91 : decode cX8_when 91 = .ok (.iload_n 1, 1) := by decide +kernel
theorem dX8_when_92 : decode cX8_when 92 = .ok (.imul, 1) := by decide +kernel
theorem dX8_when_93 : decode cX8_when 93 = .ok (.iload 4, 2) := by decide +kernel
theorem dX8_when_95 : decode cX8_when 95 = .ok (.iadd, 1) := by decide +kernel
theorem dX8_when_96 : decode cX8_when 96 = .ok (.iaload, 1) := by decide +kernel
theorem dX8_when_97 : decode cX8_when 97 = .ok (.invokevirtual 230, 3) := by decide +kernel
theorem dX8_when_100 : decode cX8_when 100 = .ok (.iinc 4 1, 3) := by decide +kernel
theorem dX8_when_103 : decode cX8_when 103 = .ok (.goto (-44), 3) := by decide +kernel
theorem dX8_when_106 : decode cX8_when 106 = .ok (.aload_n 0, 1) := by decide +kernel
theorem dX8_when_107 : decode cX8_when 107 = .ok (.getfield 22, 3) := by decide +kernel
theorem dX8_when_110 : decode cX8_when 110 = .ok (.bipush 11, 2) := by decide +kernel
theorem dX8_when_112 : decode cX8_when 112 = .ok (.iaload, 1) := by decide +kernel
theorem dX8_when_113 : decode cX8_when 113 = .ok (.iload_n 2, 1) := by decide +kernel
theorem dX8_when_114 : decode cX8_when 114 = .ok (.if_icmp .lt 12, 3) := by decide +kernel
theorem dX8_when_117 : decode cX8_when 117 = .ok (.aload_n 0, 1) := by decide +kernel
theorem dX8_when_118 : decode cX8_when 118 = .ok (.getfield 13, 3) := by decide +kernel
theorem dX8_when_121 : decode cX8_when 121 = .ok (.iload_n 1, 1) := by decide +kernel
theorem dX8_when_122 : decode cX8_when 122 = .ok (.iaload, 1) := by decide +kernel
theorem dX8_when_123 : decode cX8_when 123 = .ok (.goto 5, 3) := by decide +kernel
theorem dX8_when_126 : decode cX8_when 126 = .ok (.bipush (-9), 2) := by decide +kernel
theorem dX8_when_128 : decode cX8_when 128 = .ok (.ireturn, 1) := by decide +kernel
def P_X8_when_59 (k_106 : PM Int32) (p0 : Nat) (p1 : Int32) (p2 : Int32) : Nat → Int32 → PM Int32
  | 0, _ => failM
  | n + 1, q4 =>
    getR 8 1 p0 fun v10 =>
    ald v10 p1 fun v11 =>
    ifB (decide (v11 ≤ q4)) (
    k_106) (
    getR 8 4 p0 fun v12 =>
    ald v12 11 fun v13 =>
    ifB (decide (v13 < p2)) (
    getR 8 0 p0 fun v14 =>
    ald v14 ((40 * p1) + q4) fun v15 =>
    cllV 8 p0 (P_X8_watchBy p0 v15) fun _ =>
    P_X8_when_59 k_106 p0 p1 p2 n (q4 + 1)) (
    pureM q4))
def P_X8_when (a0 : Nat) (x1 : Int32) (x2 : Int32) : PM Int32 :=
cll0 (P_X8_isRow x1) fun v1 =>
ifB (decide (v1 = 0)) (
pureM ((-1))) (
cll0 (P_X8_in (Int32.toInt64 x2) 0 60) fun v2 =>
ifB (decide (¬ v2 = 0)) (
getI 8 10 a0 fun v3 =>
ifB (decide (¬ v3 = 0)) (
cllV 8 a0 (P_X8_refusedWatches a0 x1) fun v4 =>
ifB (decide (v4 ≤ 0)) (
cllV 8 a0 (P_X8_take a0 0 11 11) fun _ =>
jn (
getR 8 4 a0 fun v5 =>
ald v5 11 fun v6 =>
ifB (decide (v6 < x2)) (
pureM ((-9))) (
getR 8 1 a0 fun v7 =>
ald v7 x1 fun v8 =>
pureM v8)) fun k9 =>
P_X8_when_59 k9 a0 x1 x2 4000 0) (
cllV 8 a0 (P_X8_refuse a0 v4) fun v16 =>
pureM v16)) (
pureM ((-4)))) (
pureM ((-1))))
set_option maxHeartbeats 4000000 in
set_option maxRecDepth 100000 in
theorem W_X8_when_59 {Γ : Cx} (ok : OKc Γ cX8_when RX8 8 "when") (okr : OKr Γ cX8_when (some .int)) (k_106 : PM Int32) (p0 : Nat) (p1 : Int32) (p2 : Int32) (hk_106 : SW Γ iI 106 [some (.ref p0), some (.int p1), some (.int p2), none, none] [] (k_106)) : ∀ (n : Nat) (q4 : Int32), SW Γ iI 59 [some (.ref p0), some (.int p1), some (.int p2), none, some (.int q4)] [] (P_X8_when_59 k_106 p0 p1 p2 n q4) := by
  intro n
  induction n with
  | zero =>
    intros
    exact sw_fail
  | succ n ih =>
    intro q4
    unfold P_X8_when_59
    refine sw_iload (z := q4) (pc' := 61) ok dX8_when_59 rfl rfl ?_
    refine sw_aload_n (z := p0) (pc' := 62) ok dX8_when_61 rfl rfl ?_
    refine sw_getR (pc' := 65) ok (fr_X8_13.g) dX8_when_62 rfl (fun v10 => ?_)
    refine sw_iload_n (z := p1) (pc' := 66) ok dX8_when_65 rfl rfl ?_
    refine sw_ald (pc' := 67) ok dX8_when_66 rfl (fun v11 => ?_)
    refine sw_icmp_ge (tgt := 106) (pc' := 70) ok dX8_when_67 (by decide) rfl ?_ ?_
    · refine sw_fg (l' := [some (.ref p0), some (.int p1), some (.int p2), none, none]) [true, true, true, false, false] rfl ?_
      exact hk_106
    refine sw_aload_n (z := p0) (pc' := 71) ok dX8_when_70 rfl rfl ?_
    refine sw_getR (pc' := 74) ok (fr_X8_22.g) dX8_when_71 rfl (fun v12 => ?_)
    refine sw_bipush (v := 11) (pc' := 76) ok dX8_when_74 rfl cc_bipush_11 ?_
    refine sw_ald (pc' := 77) ok dX8_when_76 rfl (fun v13 => ?_)
    refine sw_iload_n (z := p2) (pc' := 78) ok dX8_when_77 rfl rfl ?_
    refine sw_icmp_lt (tgt := 84) (pc' := 81) ok dX8_when_78 (by decide) rfl ?_ ?_
    · refine sw_aload_n (z := p0) (pc' := 85) ok dX8_when_84 rfl rfl ?_
      refine sw_aload_n (z := p0) (pc' := 86) ok dX8_when_85 rfl rfl ?_
      refine sw_getR (pc' := 89) ok (fr_X8_7.g) dX8_when_86 rfl (fun v14 => ?_)
      refine sw_bipush (v := 40) (pc' := 91) ok dX8_when_89 rfl cc_bipush_40 ?_
      refine sw_iload_n (z := p1) (pc' := 92) ok dX8_when_91 rfl rfl ?_
      refine sw_imul (pc' := 93) ok dX8_when_92 rfl ?_
      refine sw_iload (z := q4) (pc' := 95) ok dX8_when_93 rfl rfl ?_
      refine sw_iadd (pc' := 96) ok dX8_when_95 rfl ?_
      refine sw_ald (pc' := 97) ok dX8_when_96 rfl (fun v15 => ?_)
      refine sw_cllV_U (st := []) (as := [.int v15]) (pc' := 100) ok (S_X8_watchBy p0 v15) (by decide) lk_X8_230 rfl dX8_when_97 rfl (Nat.le_of_ble_eq_true rfl) rfl (fun _ => ?_)
      refine sw_iinc (z := q4) (v := q4 + 1) (pc' := 103) (l' := [some (.ref p0), some (.int p1), some (.int p2), none, some (.int (q4 + 1))]) ok dX8_when_100 rfl rfl (by rw [cc_iconst_1]) rfl ?_
      refine sw_goto (tgt := 59) ok dX8_when_103 (by decide) ?_
      exact ih (q4 + 1)
    refine sw_iload (z := q4) (pc' := 83) ok dX8_when_81 rfl rfl ?_
    exact sw_ret ok okr dX8_when_83 trivial rfl
set_option maxHeartbeats 4000000 in
set_option maxRecDepth 100000 in
theorem W_X8_when {Γ : Cx} (ok : OKc Γ cX8_when RX8 8 "when") (okr : OKr Γ cX8_when (some .int)) (a0 : Nat) (x1 : Int32) (x2 : Int32) : SW Γ iI 0 [some (.ref a0), some (.int x1), some (.int x2), none, none] [] (P_X8_when a0 x1 x2) := by
  unfold P_X8_when
  refine sw_iload_n (z := x1) (pc' := 1) ok dX8_when_0 rfl rfl ?_
  refine sw_cll0_I (st := []) (as := [.int x1]) (pc' := 4) ok (S_X8_isRow x1) (by decide) lk_X8_86 rfl dX8_when_1 rfl (Nat.le_of_ble_eq_true rfl) rfl (fun v1 => ?_)
  refine sw_if_eq (tgt := 19) (pc' := 7) ok dX8_when_4 (by decide) rfl ?_ ?_
  · refine sw_iconst (v := (-1)) (pc' := 20) ok dX8_when_19 rfl cc_iconst_m1 ?_
    exact sw_ret ok okr dX8_when_20 trivial rfl
  refine sw_iload_n (z := x2) (pc' := 8) ok dX8_when_7 rfl rfl ?_
  refine sw_i2l (pc' := 9) ok dX8_when_8 rfl ?_
  refine sw_lconst (v := 0) (pc' := 10) ok dX8_when_9 rfl cc_lconst_0 ?_
  refine sw_ldc2 (v := 60) (pc' := 13) ok dX8_when_10 rfl wd_572 ?_
  refine sw_cll0_I (st := []) (as := [.long (Int32.toInt64 x2), .long 0, .long 60]) (pc' := 16) ok (S_X8_in (Int32.toInt64 x2) 0 60) (by decide) lk_X8_80 rfl dX8_when_13 rfl (Nat.le_of_ble_eq_true rfl) rfl (fun v2 => ?_)
  refine sw_if_ne (tgt := 21) (pc' := 19) ok dX8_when_16 (by decide) rfl ?_ ?_
  · refine sw_aload_n (z := a0) (pc' := 22) ok dX8_when_21 rfl rfl ?_
    refine sw_getI (pc' := 25) ok (fr_X8_156.g) dX8_when_22 rfl (fun v3 => ?_)
    refine sw_if_ne (tgt := 31) (pc' := 28) ok dX8_when_25 (by decide) rfl ?_ ?_
    · refine sw_aload_n (z := a0) (pc' := 32) ok dX8_when_31 rfl rfl ?_
      refine sw_iload_n (z := x1) (pc' := 33) ok dX8_when_32 rfl rfl ?_
      refine sw_cllV_I (st := []) (as := [.int x1]) (pc' := 36) ok (S_X8_refusedWatches a0 x1) (by decide) lk_X8_249 rfl dX8_when_33 rfl (Nat.le_of_ble_eq_true rfl) rfl (fun v4 => ?_)
      refine sw_istore_n (pc' := 37) (l' := [some (.ref a0), some (.int x1), some (.int x2), some (.int v4), none]) ok dX8_when_36 rfl (Nat.le_of_ble_eq_true rfl) rfl ?_
      refine sw_iload_n (z := v4) (pc' := 38) ok dX8_when_37 rfl rfl ?_
      refine sw_if_le (tgt := 47) (pc' := 41) ok dX8_when_38 (by decide) rfl ?_ ?_
      · refine sw_aload_n (z := a0) (pc' := 48) ok dX8_when_47 rfl rfl ?_
        refine sw_iconst (v := 0) (pc' := 49) ok dX8_when_48 rfl cc_iconst_0 ?_
        refine sw_bipush (v := 11) (pc' := 51) ok dX8_when_49 rfl cc_bipush_11 ?_
        refine sw_bipush (v := 11) (pc' := 53) ok dX8_when_51 rfl cc_bipush_11 ?_
        refine sw_cllV_U (st := []) (as := [.int 0, .int 11, .int 11]) (pc' := 56) ok (S_X8_take a0 0 11 11) (by decide) lk_X8_204 rfl dX8_when_53 rfl (Nat.le_of_ble_eq_true rfl) rfl (fun _ => ?_)
        refine sw_iconst (v := 0) (pc' := 57) ok dX8_when_56 rfl cc_iconst_0 ?_
        refine sw_istore (pc' := 59) (l' := [some (.ref a0), some (.int x1), some (.int x2), some (.int v4), some (.int 0)]) ok dX8_when_57 rfl (Nat.le_of_ble_eq_true rfl) rfl ?_
        refine sw_jn (fun k9 : PM Int32 => SW Γ iI 106 [some (.ref a0), some (.int x1), some (.int x2), none, none] [] (k9)) ?_ (fun k9 hk9 => ?_)
        · refine sw_aload_n (z := a0) (pc' := 107) ok dX8_when_106 rfl rfl ?_
          refine sw_getR (pc' := 110) ok (fr_X8_22.g) dX8_when_107 rfl (fun v5 => ?_)
          refine sw_bipush (v := 11) (pc' := 112) ok dX8_when_110 rfl cc_bipush_11 ?_
          refine sw_ald (pc' := 113) ok dX8_when_112 rfl (fun v6 => ?_)
          refine sw_iload_n (z := x2) (pc' := 114) ok dX8_when_113 rfl rfl ?_
          refine sw_icmp_lt (tgt := 126) (pc' := 117) ok dX8_when_114 (by decide) rfl ?_ ?_
          · refine sw_bipush (v := (-9)) (pc' := 128) ok dX8_when_126 rfl cc_bipush_m9 ?_
            exact sw_ret ok okr dX8_when_128 trivial rfl
          refine sw_aload_n (z := a0) (pc' := 118) ok dX8_when_117 rfl rfl ?_
          refine sw_getR (pc' := 121) ok (fr_X8_13.g) dX8_when_118 rfl (fun v7 => ?_)
          refine sw_iload_n (z := x1) (pc' := 122) ok dX8_when_121 rfl rfl ?_
          refine sw_ald (pc' := 123) ok dX8_when_122 rfl (fun v8 => ?_)
          refine sw_goto (tgt := 128) ok dX8_when_123 (by decide) ?_
          exact sw_ret ok okr dX8_when_128 trivial rfl
        refine sw_fg (l' := [some (.ref a0), some (.int x1), some (.int x2), none, some (.int 0)]) [true, true, true, false, true] rfl ?_
        exact W_X8_when_59 ok okr k9 a0 x1 x2 hk9 4000 0
      refine sw_aload_n (z := a0) (pc' := 42) ok dX8_when_41 rfl rfl ?_
      refine sw_iload_n (z := v4) (pc' := 43) ok dX8_when_42 rfl rfl ?_
      refine sw_cllV_I (st := []) (as := [.int v4]) (pc' := 46) ok (S_X8_refuse a0 v4) (by decide) lk_X8_90 rfl dX8_when_43 rfl (Nat.le_of_ble_eq_true rfl) rfl (fun v16 => ?_)
      exact sw_ret ok okr dX8_when_46 trivial rfl
    refine sw_bipush (v := (-4)) (pc' := 30) ok dX8_when_28 rfl cc_bipush_m4 ?_
    exact sw_ret ok okr dX8_when_30 trivial rfl
  refine sw_iconst (v := (-1)) (pc' := 20) ok dX8_when_19 rfl cc_iconst_m1 ?_
  exact sw_ret ok okr dX8_when_20 trivial rfl
theorem S_X8_when (a0 : Nat) (x1 : Int32) (x2 : Int32) : Sim 8 yX8_when cX8_when 5 (some .int) iI [.ref a0, .int x1, .int x2] (P_X8_when a0 x1 x2) := Sim.intro wd_1122 (by decide) (by decide +kernel) (Nat.le_of_ble_eq_true rfl) (fun Γ ok okr => W_X8_when ok okr a0 x1 x2)
theorem dX8_refusedStrengths_0 : decode cX8_refusedStrengths 0 = .ok (.aload_n 0, 1) := by decide +kernel
theorem dX8_refusedStrengths_1 : decode cX8_refusedStrengths 1 = .ok (.getfield 13, 3) := by decide +kernel
theorem dX8_refusedStrengths_4 : decode cX8_refusedStrengths 4 = .ok (.iload_n 1, 1) := by decide +kernel
theorem dX8_refusedStrengths_5 : decode cX8_refusedStrengths 5 = .ok (.iaload, 1) := by decide +kernel
theorem dX8_refusedStrengths_6 : decode cX8_refusedStrengths 6 = .ok (.ifCond .ge 5, 3) := by decide +kernel
theorem dX8_refusedStrengths_9 : decode cX8_refusedStrengths 9 = .ok (.iconst 1, 1) := by decide +kernel
theorem dX8_refusedStrengths_10 : decode cX8_refusedStrengths 10 = .ok (.ireturn, 1) := by decide +kernel
theorem dX8_refusedStrengths_11 : decode cX8_refusedStrengths 11 = .ok (.aload_n 0, 1) := by decide +kernel
theorem dX8_refusedStrengths_12 : decode cX8_refusedStrengths 12 = .ok (.getfield 13, 3) := by decide +kernel
theorem dX8_refusedStrengths_15 : decode cX8_refusedStrengths 15 = .ok (.iload_n 1, 1) := by decide +kernel
theorem dX8_refusedStrengths_16 : decode cX8_refusedStrengths 16 = .ok (.iaload, 1) := by decide +kernel
theorem dX8_refusedStrengths_17 : decode cX8_refusedStrengths 17 = .ok (.i2l, 1) := by decide +kernel
theorem dX8_refusedStrengths_18 : decode cX8_refusedStrengths 18 = .ok (.lconst 1, 1) := by decide +kernel
theorem dX8_refusedStrengths_19 : decode cX8_refusedStrengths 19 = .ok (.ldc2_w 84, 3) := by decide +kernel
theorem dX8_refusedStrengths_22 : decode cX8_refusedStrengths 22 = .ok (.invokestatic 80, 3) := by decide +kernel
theorem dX8_refusedStrengths_25 : decode cX8_refusedStrengths 25 = .ok (.ifCond .ne 5, 3) := by decide +kernel
theorem dX8_refusedStrengths_28 : decode cX8_refusedStrengths 28 = .ok (.iconst 5, 1) := by decide +kernel
theorem dX8_refusedStrengths_29 : decode cX8_refusedStrengths 29 = .ok (.ireturn, 1) := by decide +kernel
theorem dX8_refusedStrengths_30 : decode cX8_refusedStrengths 30 = .ok (.iconst 0, 1) := by decide +kernel
theorem dX8_refusedStrengths_31 : decode cX8_refusedStrengths 31 = .ok (.istore_n 2, 1) := by decide +kernel
theorem dX8_refusedStrengths_32 : decode cX8_refusedStrengths 32 = .ok (.iload_n 2, 1) := by decide +kernel
theorem dX8_refusedStrengths_33 : decode cX8_refusedStrengths 33 = .ok (.aload_n 0, 1) := by decide +kernel
theorem dX8_refusedStrengths_34 : decode cX8_refusedStrengths 34 = .ok (.getfield 13, 3) := by decide +kernel
theorem dX8_refusedStrengths_37 : decode cX8_refusedStrengths 37 = .ok (.iload_n 1, 1) := by decide +kernel
theorem dX8_refusedStrengths_38 : decode cX8_refusedStrengths 38 = .ok (.iaload, 1) := by decide +kernel
theorem dX8_refusedStrengths_39 : decode cX8_refusedStrengths 39 = .ok (.if_icmp .ge 33, 3) := by decide +kernel
theorem dX8_refusedStrengths_42 : decode cX8_refusedStrengths 42 = .ok (.aload_n 0, 1) := by decide +kernel
theorem dX8_refusedStrengths_43 : decode cX8_refusedStrengths 43 = .ok (.getfield 7, 3) := by decide +kernel
theorem dX8_refusedStrengths_46 : decode cX8_refusedStrengths 46 = .ok (.bipush 40, 2) := by decide +kernel
theorem dX8_refusedStrengths_48 : decode cX8_refusedStrengths 48 = .ok (.iload_n 1, 1) := by decide +kernel
theorem dX8_refusedStrengths_49 : decode cX8_refusedStrengths 49 = .ok (.imul, 1) := by decide +kernel
theorem dX8_refusedStrengths_50 : decode cX8_refusedStrengths 50 = .ok (.iload_n 2, 1) := by decide +kernel
theorem dX8_refusedStrengths_51 : decode cX8_refusedStrengths 51 = .ok (.iadd, 1) := by decide +kernel
theorem dX8_refusedStrengths_52 : decode cX8_refusedStrengths 52 = .ok (.iaload, 1) := by decide +kernel
theorem dX8_refusedStrengths_53 : decode cX8_refusedStrengths 53 = .ok (.i2l, 1) := by decide +kernel
theorem dX8_refusedStrengths_54 : decode cX8_refusedStrengths 54 = .ok (.lconst 0, 1) := by decide +kernel
theorem dX8_refusedStrengths_55 : decode cX8_refusedStrengths 55 = .ok (.ldc2_w 217, 3) := by decide +kernel
theorem dX8_refusedStrengths_58 : decode cX8_refusedStrengths 58 = .ok (.invokestatic 80, 3) := by decide +kernel
theorem dX8_refusedStrengths_61 : decode cX8_refusedStrengths 61 = .ok (.ifCond .ne 5, 3) := by decide +kernel
theorem dX8_refusedStrengths_64 : decode cX8_refusedStrengths 64 = .ok (.iconst 3, 1) := by decide +kernel
theorem dX8_refusedStrengths_65 : decode cX8_refusedStrengths 65 = .ok (.ireturn, 1) := by decide +kernel
theorem dX8_refusedStrengths_66 : decode cX8_refusedStrengths 66 = .ok (.iinc 2 1, 3) := by decide +kernel
theorem dX8_refusedStrengths_69 : decode cX8_refusedStrengths 69 = .ok (.goto (-37), 3) := by decide +kernel
theorem dX8_refusedStrengths_72 : decode cX8_refusedStrengths 72 = .ok (.iconst 0, 1) := by decide +kernel
theorem dX8_refusedStrengths_73 : decode cX8_refusedStrengths 73 = .ok (.ireturn, 1) := by decide +kernel
def P_X8_refusedStrengths_32 (p0 : Nat) (p1 : Int32) : Nat → Int32 → PM Int32
  | 0, _ => failM
  | n + 1, q2 =>
    getR 8 1 p0 fun v6 =>
    ald v6 p1 fun v7 =>
    ifB (decide (v7 ≤ q2)) (
    pureM 0) (
    getR 8 0 p0 fun v8 =>
    ald v8 ((40 * p1) + q2) fun v9 =>
    cll0 (P_X8_in (Int32.toInt64 v9) 0 60) fun v10 =>
    ifB (decide (¬ v10 = 0)) (
    P_X8_refusedStrengths_32 p0 p1 n (q2 + 1)) (
    pureM 3))
def P_X8_refusedStrengths (a0 : Nat) (x1 : Int32) : PM Int32 :=
getR 8 1 a0 fun v1 =>
ald v1 x1 fun v2 =>
ifB (decide (0 ≤ v2)) (
getR 8 1 a0 fun v3 =>
ald v3 x1 fun v4 =>
cll0 (P_X8_in (Int32.toInt64 v4) 1 3) fun v5 =>
ifB (decide (¬ v5 = 0)) (
P_X8_refusedStrengths_32 a0 x1 4000 0) (
pureM 5)) (
pureM 1)
set_option maxHeartbeats 4000000 in
set_option maxRecDepth 100000 in
theorem W_X8_refusedStrengths_32 {Γ : Cx} (ok : OKc Γ cX8_refusedStrengths RX8 1 "refusedStrengths") (okr : OKr Γ cX8_refusedStrengths (some .int)) (p0 : Nat) (p1 : Int32) : ∀ (n : Nat) (q2 : Int32), SW Γ iI 32 [some (.ref p0), some (.int p1), some (.int q2)] [] (P_X8_refusedStrengths_32 p0 p1 n q2) := by
  intro n
  induction n with
  | zero =>
    intros
    exact sw_fail
  | succ n ih =>
    intro q2
    unfold P_X8_refusedStrengths_32
    refine sw_iload_n (z := q2) (pc' := 33) ok dX8_refusedStrengths_32 rfl rfl ?_
    refine sw_aload_n (z := p0) (pc' := 34) ok dX8_refusedStrengths_33 rfl rfl ?_
    refine sw_getR (pc' := 37) ok (fr_X8_13.g) dX8_refusedStrengths_34 rfl (fun v6 => ?_)
    refine sw_iload_n (z := p1) (pc' := 38) ok dX8_refusedStrengths_37 rfl rfl ?_
    refine sw_ald (pc' := 39) ok dX8_refusedStrengths_38 rfl (fun v7 => ?_)
    refine sw_icmp_ge (tgt := 72) (pc' := 42) ok dX8_refusedStrengths_39 (by decide) rfl ?_ ?_
    · refine sw_iconst (v := 0) (pc' := 73) ok dX8_refusedStrengths_72 rfl cc_iconst_0 ?_
      exact sw_ret ok okr dX8_refusedStrengths_73 trivial rfl
    refine sw_aload_n (z := p0) (pc' := 43) ok dX8_refusedStrengths_42 rfl rfl ?_
    refine sw_getR (pc' := 46) ok (fr_X8_7.g) dX8_refusedStrengths_43 rfl (fun v8 => ?_)
    refine sw_bipush (v := 40) (pc' := 48) ok dX8_refusedStrengths_46 rfl cc_bipush_40 ?_
    refine sw_iload_n (z := p1) (pc' := 49) ok dX8_refusedStrengths_48 rfl rfl ?_
    refine sw_imul (pc' := 50) ok dX8_refusedStrengths_49 rfl ?_
    refine sw_iload_n (z := q2) (pc' := 51) ok dX8_refusedStrengths_50 rfl rfl ?_
    refine sw_iadd (pc' := 52) ok dX8_refusedStrengths_51 rfl ?_
    refine sw_ald (pc' := 53) ok dX8_refusedStrengths_52 rfl (fun v9 => ?_)
    refine sw_i2l (pc' := 54) ok dX8_refusedStrengths_53 rfl ?_
    refine sw_lconst (v := 0) (pc' := 55) ok dX8_refusedStrengths_54 rfl cc_lconst_0 ?_
    refine sw_ldc2 (v := 60) (pc' := 58) ok dX8_refusedStrengths_55 rfl wd_572 ?_
    refine sw_cll0_I (st := []) (as := [.long (Int32.toInt64 v9), .long 0, .long 60]) (pc' := 61) ok (S_X8_in (Int32.toInt64 v9) 0 60) (by decide) lk_X8_80 rfl dX8_refusedStrengths_58 rfl (Nat.le_of_ble_eq_true rfl) rfl (fun v10 => ?_)
    refine sw_if_ne (tgt := 66) (pc' := 64) ok dX8_refusedStrengths_61 (by decide) rfl ?_ ?_
    · refine sw_iinc (z := q2) (v := q2 + 1) (pc' := 69) (l' := [some (.ref p0), some (.int p1), some (.int (q2 + 1))]) ok dX8_refusedStrengths_66 rfl rfl (by rw [cc_iconst_1]) rfl ?_
      refine sw_goto (tgt := 32) ok dX8_refusedStrengths_69 (by decide) ?_
      exact ih (q2 + 1)
    refine sw_iconst (v := 3) (pc' := 65) ok dX8_refusedStrengths_64 rfl cc_iconst_3 ?_
    exact sw_ret ok okr dX8_refusedStrengths_65 trivial rfl
set_option maxHeartbeats 4000000 in
set_option maxRecDepth 100000 in
theorem W_X8_refusedStrengths {Γ : Cx} (ok : OKc Γ cX8_refusedStrengths RX8 1 "refusedStrengths") (okr : OKr Γ cX8_refusedStrengths (some .int)) (a0 : Nat) (x1 : Int32) : SW Γ iI 0 [some (.ref a0), some (.int x1), none] [] (P_X8_refusedStrengths a0 x1) := by
  unfold P_X8_refusedStrengths
  refine sw_aload_n (z := a0) (pc' := 1) ok dX8_refusedStrengths_0 rfl rfl ?_
  refine sw_getR (pc' := 4) ok (fr_X8_13.g) dX8_refusedStrengths_1 rfl (fun v1 => ?_)
  refine sw_iload_n (z := x1) (pc' := 5) ok dX8_refusedStrengths_4 rfl rfl ?_
  refine sw_ald (pc' := 6) ok dX8_refusedStrengths_5 rfl (fun v2 => ?_)
  refine sw_if_ge (tgt := 11) (pc' := 9) ok dX8_refusedStrengths_6 (by decide) rfl ?_ ?_
  · refine sw_aload_n (z := a0) (pc' := 12) ok dX8_refusedStrengths_11 rfl rfl ?_
    refine sw_getR (pc' := 15) ok (fr_X8_13.g) dX8_refusedStrengths_12 rfl (fun v3 => ?_)
    refine sw_iload_n (z := x1) (pc' := 16) ok dX8_refusedStrengths_15 rfl rfl ?_
    refine sw_ald (pc' := 17) ok dX8_refusedStrengths_16 rfl (fun v4 => ?_)
    refine sw_i2l (pc' := 18) ok dX8_refusedStrengths_17 rfl ?_
    refine sw_lconst (v := 1) (pc' := 19) ok dX8_refusedStrengths_18 rfl cc_lconst_1 ?_
    refine sw_ldc2 (v := 3) (pc' := 22) ok dX8_refusedStrengths_19 rfl wd_479 ?_
    refine sw_cll0_I (st := []) (as := [.long (Int32.toInt64 v4), .long 1, .long 3]) (pc' := 25) ok (S_X8_in (Int32.toInt64 v4) 1 3) (by decide) lk_X8_80 rfl dX8_refusedStrengths_22 rfl (Nat.le_of_ble_eq_true rfl) rfl (fun v5 => ?_)
    refine sw_if_ne (tgt := 30) (pc' := 28) ok dX8_refusedStrengths_25 (by decide) rfl ?_ ?_
    · refine sw_iconst (v := 0) (pc' := 31) ok dX8_refusedStrengths_30 rfl cc_iconst_0 ?_
      refine sw_istore_n (pc' := 32) (l' := [some (.ref a0), some (.int x1), some (.int 0)]) ok dX8_refusedStrengths_31 rfl (Nat.le_of_ble_eq_true rfl) rfl ?_
      exact W_X8_refusedStrengths_32 ok okr a0 x1 4000 0
    refine sw_iconst (v := 5) (pc' := 29) ok dX8_refusedStrengths_28 rfl cc_iconst_5 ?_
    exact sw_ret ok okr dX8_refusedStrengths_29 trivial rfl
  refine sw_iconst (v := 1) (pc' := 10) ok dX8_refusedStrengths_9 rfl cc_iconst_1 ?_
  exact sw_ret ok okr dX8_refusedStrengths_10 trivial rfl
theorem S_X8_refusedStrengths (a0 : Nat) (x1 : Int32) : Sim 1 yX8_refusedStrengths cX8_refusedStrengths 3 (some .int) iI [.ref a0, .int x1] (P_X8_refusedStrengths a0 x1) := Sim.intro wd_1123 (by decide) (by decide +kernel) (Nat.le_of_ble_eq_true rfl) (fun Γ ok okr => W_X8_refusedStrengths ok okr a0 x1)
theorem dX8_howMany_0 : decode cX8_howMany 0 = .ok (.iconst 0, 1) := by decide +kernel
theorem dX8_howMany_1 : decode cX8_howMany 1 = .ok (.istore_n 1, 1) := by decide +kernel
theorem dX8_howMany_2 : decode cX8_howMany 2 = .ok (.iconst 0, 1) := by decide +kernel
theorem dX8_howMany_3 : decode cX8_howMany 3 = .ok (.istore_n 2, 1) := by decide +kernel
theorem dX8_howMany_4 : decode cX8_howMany 4 = .ok (.iload_n 2, 1) := by decide +kernel
theorem dX8_howMany_5 : decode cX8_howMany 5 = .ok (.bipush 6, 2) := by decide +kernel
theorem dX8_howMany_7 : decode cX8_howMany 7 = .ok (.if_icmp .ge 17, 3) := by decide +kernel
theorem dX8_howMany_10 : decode cX8_howMany 10 = .ok (.iload_n 1, 1) := by decide +kernel
theorem dX8_howMany_11 : decode cX8_howMany 11 = .ok (.iload_n 0, 1) := by decide +kernel
theorem dX8_howMany_12 : decode cX8_howMany 12 = .ok (.iload_n 2, 1) := by decide +kernel
theorem dX8_howMany_13 : decode cX8_howMany 13 = .ok (.ishr, 1) := by decide +kernel
theorem dX8_howMany_14 : decode cX8_howMany 14 = .ok (.iconst 1, 1) := by decide +kernel
theorem dX8_howMany_15 : decode cX8_howMany 15 = .ok (.iand, 1) := by decide +kernel
theorem dX8_howMany_16 : decode cX8_howMany 16 = .ok (.iadd, 1) := by decide +kernel
theorem dX8_howMany_17 : decode cX8_howMany 17 = .ok (.istore_n 1, 1) := by decide +kernel
theorem dX8_howMany_18 : decode cX8_howMany 18 = .ok (.iinc 2 1, 3) := by decide +kernel
theorem dX8_howMany_21 : decode cX8_howMany 21 = .ok (.goto (-17), 3) := by decide +kernel
theorem dX8_howMany_24 : decode cX8_howMany 24 = .ok (.iload_n 1, 1) := by decide +kernel
theorem dX8_howMany_25 : decode cX8_howMany 25 = .ok (.ireturn, 1) := by decide +kernel
def P_X8_howMany_4 (p0 : Int32) : Nat → Int32 → Int32 → PM Int32
  | 0, _, _ => failM
  | n + 1, q1, q2 =>
    ifB (decide (6 ≤ q2)) (
    pureM q1) (
    P_X8_howMany_4 p0 n (q1 + ((p0 >>> (q2 &&& 31)) &&& 1)) (q2 + 1))
def P_X8_howMany (x0 : Int32) : PM Int32 :=
P_X8_howMany_4 x0 4000 0 0
set_option maxHeartbeats 4000000 in
set_option maxRecDepth 100000 in
theorem W_X8_howMany_4 {Γ : Cx} (ok : OKc Γ cX8_howMany RX8 0 "howMany") (okr : OKr Γ cX8_howMany (some .int)) (p0 : Int32) : ∀ (n : Nat) (q1 : Int32) (q2 : Int32), SW Γ iI 4 [some (.int p0), some (.int q1), some (.int q2)] [] (P_X8_howMany_4 p0 n q1 q2) := by
  intro n
  induction n with
  | zero =>
    intros
    exact sw_fail
  | succ n ih =>
    intro q1 q2
    unfold P_X8_howMany_4
    refine sw_iload_n (z := q2) (pc' := 5) ok dX8_howMany_4 rfl rfl ?_
    refine sw_bipush (v := 6) (pc' := 7) ok dX8_howMany_5 rfl cc_bipush_6 ?_
    refine sw_icmp_ge (tgt := 24) (pc' := 10) ok dX8_howMany_7 (by decide) rfl ?_ ?_
    · refine sw_iload_n (z := q1) (pc' := 25) ok dX8_howMany_24 rfl rfl ?_
      exact sw_ret ok okr dX8_howMany_25 trivial rfl
    refine sw_iload_n (z := q1) (pc' := 11) ok dX8_howMany_10 rfl rfl ?_
    refine sw_iload_n (z := p0) (pc' := 12) ok dX8_howMany_11 rfl rfl ?_
    refine sw_iload_n (z := q2) (pc' := 13) ok dX8_howMany_12 rfl rfl ?_
    refine sw_ishr (pc' := 14) ok dX8_howMany_13 rfl ?_
    refine sw_iconst (v := 1) (pc' := 15) ok dX8_howMany_14 rfl cc_iconst_1 ?_
    refine sw_iand (pc' := 16) ok dX8_howMany_15 rfl ?_
    refine sw_iadd (pc' := 17) ok dX8_howMany_16 rfl ?_
    refine sw_istore_n (pc' := 18) (l' := [some (.int p0), some (.int (q1 + ((p0 >>> (q2 &&& 31)) &&& 1))), some (.int q2)]) ok dX8_howMany_17 rfl (Nat.le_of_ble_eq_true rfl) rfl ?_
    refine sw_iinc (z := q2) (v := q2 + 1) (pc' := 21) (l' := [some (.int p0), some (.int (q1 + ((p0 >>> (q2 &&& 31)) &&& 1))), some (.int (q2 + 1))]) ok dX8_howMany_18 rfl rfl (by rw [cc_iconst_1]) rfl ?_
    refine sw_goto (tgt := 4) ok dX8_howMany_21 (by decide) ?_
    exact ih (q1 + ((p0 >>> (q2 &&& 31)) &&& 1)) (q2 + 1)
set_option maxHeartbeats 4000000 in
set_option maxRecDepth 100000 in
theorem W_X8_howMany {Γ : Cx} (ok : OKc Γ cX8_howMany RX8 0 "howMany") (okr : OKr Γ cX8_howMany (some .int)) (x0 : Int32) : SW Γ iI 0 [some (.int x0), none, none] [] (P_X8_howMany x0) := by
  unfold P_X8_howMany
  refine sw_iconst (v := 0) (pc' := 1) ok dX8_howMany_0 rfl cc_iconst_0 ?_
  refine sw_istore_n (pc' := 2) (l' := [some (.int x0), some (.int 0), none]) ok dX8_howMany_1 rfl (Nat.le_of_ble_eq_true rfl) rfl ?_
  refine sw_iconst (v := 0) (pc' := 3) ok dX8_howMany_2 rfl cc_iconst_0 ?_
  refine sw_istore_n (pc' := 4) (l' := [some (.int x0), some (.int 0), some (.int 0)]) ok dX8_howMany_3 rfl (Nat.le_of_ble_eq_true rfl) rfl ?_
  exact W_X8_howMany_4 ok okr x0 4000 0 0
theorem S_X8_howMany (x0 : Int32) : Sim 0 yX8_howMany cX8_howMany 3 (some .int) iI [.int x0] (P_X8_howMany x0) := Sim.intro wd_1124 (by decide) (by decide +kernel) (Nat.le_of_ble_eq_true rfl) (fun Γ ok okr => W_X8_howMany ok okr x0)
theorem dX8_peopleOf_0 : decode cX8_peopleOf 0 = .ok (.iconst 0, 1) := by decide +kernel
theorem dX8_peopleOf_1 : decode cX8_peopleOf 1 = .ok (.istore_n 3, 1) := by decide +kernel
theorem dX8_peopleOf_2 : decode cX8_peopleOf 2 = .ok (.iconst 0, 1) := by decide +kernel
theorem dX8_peopleOf_3 : decode cX8_peopleOf 3 = .ok (.istore 4, 2) := by decide +kernel
theorem dX8_peopleOf_5 : decode cX8_peopleOf 5 = .ok (.iload 4, 2) := by decide +kernel
theorem dX8_peopleOf_7 : decode cX8_peopleOf 7 = .ok (.iload_n 2, 1) := by decide +kernel
theorem dX8_peopleOf_8 : decode cX8_peopleOf 8 = .ok (.if_icmp .ge 37, 3) := by decide +kernel
theorem dX8_peopleOf_11 : decode cX8_peopleOf 11 = .ok (.aload_n 0, 1) := by decide +kernel
theorem dX8_peopleOf_12 : decode cX8_peopleOf 12 = .ok (.iload_n 1, 1) := by decide +kernel
theorem dX8_peopleOf_13 : decode cX8_peopleOf 13 = .ok (.iload 4, 2) := by decide +kernel
theorem dX8_peopleOf_15 : decode cX8_peopleOf 15 = .ok (.iload_n 2, 1) := by decide +kernel
theorem dX8_peopleOf_16 : decode cX8_peopleOf 16 = .ok (.invokevirtual 227, 3) := by decide +kernel
theorem dX8_peopleOf_19 : decode cX8_peopleOf 19 = .ok (.istore 5, 2) := by decide +kernel
theorem dX8_peopleOf_21 : decode cX8_peopleOf 21 = .ok (.iload_n 3, 1) := by decide +kernel
theorem dX8_peopleOf_22 : decode cX8_peopleOf 22 = .ok (.iconst 1, 1) := by decide +kernel
theorem dX8_peopleOf_23 : decode cX8_peopleOf 23 = .ok (.iload 5, 2) := by decide +kernel
theorem dX8_peopleOf_25 : decode cX8_peopleOf 25 = .ok (.bipush 10, 2) := by decide +kernel
theorem dX8_peopleOf_27 : decode cX8_peopleOf 27 = .ok (.idiv, 1) := by decide +kernel
theorem dX8_peopleOf_28 : decode cX8_peopleOf 28 = .ok (.ishl, 1) := by decide +kernel
theorem dX8_peopleOf_29 : decode cX8_peopleOf 29 = .ok (.iconst 1, 1) := by decide +kernel
theorem dX8_peopleOf_30 : decode cX8_peopleOf 30 = .ok (.iload 5, 2) := by decide +kernel
theorem dX8_peopleOf_32 : decode cX8_peopleOf 32 = .ok (.bipush 10, 2) := by decide +kernel
theorem dX8_peopleOf_34 : decode cX8_peopleOf 34 = .ok (.irem, 1) := by decide +kernel
theorem dX8_peopleOf_35 : decode cX8_peopleOf 35 = .ok (.ishl, 1) := by decide +kernel
theorem dX8_peopleOf_36 : decode cX8_peopleOf 36 = .ok (.ior, 1) := by decide +kernel
theorem dX8_peopleOf_37 : decode cX8_peopleOf 37 = .ok (.ior, 1) := by decide +kernel
theorem dX8_peopleOf_38 : decode cX8_peopleOf 38 = .ok (.istore_n 3, 1) := by decide +kernel
theorem dX8_peopleOf_39 : decode cX8_peopleOf 39 = .ok (.iinc 4 1, 3) := by decide +kernel
theorem dX8_peopleOf_42 : decode cX8_peopleOf 42 = .ok (.goto (-37), 3) := by decide +kernel
theorem dX8_peopleOf_45 : decode cX8_peopleOf 45 = .ok (.iload_n 3, 1) := by decide +kernel
theorem dX8_peopleOf_46 : decode cX8_peopleOf 46 = .ok (.ireturn, 1) := by decide +kernel
def P_X8_peopleOf_5 (p0 : Nat) (p1 : Int32) (p2 : Int32) : Nat → Int32 → Int32 → PM Int32
  | 0, _, _ => failM
  | n + 1, q3, q4 =>
    ifB (decide (p2 ≤ q4)) (
    pureM q3) (
    cllV 8 p0 (P_X8_pairOf p0 p1 q4 p2) fun v1 =>
    divI v1 10 fun v2 =>
    remI v1 10 fun v3 =>
    P_X8_peopleOf_5 p0 p1 p2 n (q3 ||| ((1 <<< (v2 &&& 31)) ||| (1 <<< (v3 &&& 31)))) (q4 + 1))
def P_X8_peopleOf (a0 : Nat) (x1 : Int32) (x2 : Int32) : PM Int32 :=
P_X8_peopleOf_5 a0 x1 x2 4000 0 0
set_option maxHeartbeats 4000000 in
set_option maxRecDepth 100000 in
theorem W_X8_peopleOf_5 {Γ : Cx} (ok : OKc Γ cX8_peopleOf RX8 1 "peopleOf") (okr : OKr Γ cX8_peopleOf (some .int)) (p0 : Nat) (p1 : Int32) (p2 : Int32) : ∀ (n : Nat) (q3 : Int32) (q4 : Int32), SW Γ iI 5 [some (.ref p0), some (.int p1), some (.int p2), some (.int q3), some (.int q4), none] [] (P_X8_peopleOf_5 p0 p1 p2 n q3 q4) := by
  intro n
  induction n with
  | zero =>
    intros
    exact sw_fail
  | succ n ih =>
    intro q3 q4
    unfold P_X8_peopleOf_5
    refine sw_iload (z := q4) (pc' := 7) ok dX8_peopleOf_5 rfl rfl ?_
    refine sw_iload_n (z := p2) (pc' := 8) ok dX8_peopleOf_7 rfl rfl ?_
    refine sw_icmp_ge (tgt := 45) (pc' := 11) ok dX8_peopleOf_8 (by decide) rfl ?_ ?_
    · refine sw_iload_n (z := q3) (pc' := 46) ok dX8_peopleOf_45 rfl rfl ?_
      exact sw_ret ok okr dX8_peopleOf_46 trivial rfl
    refine sw_aload_n (z := p0) (pc' := 12) ok dX8_peopleOf_11 rfl rfl ?_
    refine sw_iload_n (z := p1) (pc' := 13) ok dX8_peopleOf_12 rfl rfl ?_
    refine sw_iload (z := q4) (pc' := 15) ok dX8_peopleOf_13 rfl rfl ?_
    refine sw_iload_n (z := p2) (pc' := 16) ok dX8_peopleOf_15 rfl rfl ?_
    refine sw_cllV_I (st := []) (as := [.int p1, .int q4, .int p2]) (pc' := 19) ok (S_X8_pairOf p0 p1 q4 p2) (by decide) lk_X8_227 rfl dX8_peopleOf_16 rfl (Nat.le_of_ble_eq_true rfl) rfl (fun v1 => ?_)
    refine sw_istore (pc' := 21) (l' := [some (.ref p0), some (.int p1), some (.int p2), some (.int q3), some (.int q4), some (.int v1)]) ok dX8_peopleOf_19 rfl (Nat.le_of_ble_eq_true rfl) rfl ?_
    refine sw_iload_n (z := q3) (pc' := 22) ok dX8_peopleOf_21 rfl rfl ?_
    refine sw_iconst (v := 1) (pc' := 23) ok dX8_peopleOf_22 rfl cc_iconst_1 ?_
    refine sw_iload (z := v1) (pc' := 25) ok dX8_peopleOf_23 rfl rfl ?_
    refine sw_bipush (v := 10) (pc' := 27) ok dX8_peopleOf_25 rfl cc_bipush_10 ?_
    refine sw_divI (pc' := 28) ok dX8_peopleOf_27 rfl (fun v2 => ?_)
    refine sw_ishl (pc' := 29) ok dX8_peopleOf_28 rfl ?_
    refine sw_iconst (v := 1) (pc' := 30) ok dX8_peopleOf_29 rfl cc_iconst_1 ?_
    refine sw_iload (z := v1) (pc' := 32) ok dX8_peopleOf_30 rfl rfl ?_
    refine sw_bipush (v := 10) (pc' := 34) ok dX8_peopleOf_32 rfl cc_bipush_10 ?_
    refine sw_remI (pc' := 35) ok dX8_peopleOf_34 rfl (fun v3 => ?_)
    refine sw_ishl (pc' := 36) ok dX8_peopleOf_35 rfl ?_
    refine sw_ior (pc' := 37) ok dX8_peopleOf_36 rfl ?_
    refine sw_ior (pc' := 38) ok dX8_peopleOf_37 rfl ?_
    refine sw_istore_n (pc' := 39) (l' := [some (.ref p0), some (.int p1), some (.int p2), some (.int (q3 ||| ((1 <<< (v2 &&& 31)) ||| (1 <<< (v3 &&& 31))))), some (.int q4), some (.int v1)]) ok dX8_peopleOf_38 rfl (Nat.le_of_ble_eq_true rfl) rfl ?_
    refine sw_iinc (z := q4) (v := q4 + 1) (pc' := 42) (l' := [some (.ref p0), some (.int p1), some (.int p2), some (.int (q3 ||| ((1 <<< (v2 &&& 31)) ||| (1 <<< (v3 &&& 31))))), some (.int (q4 + 1)), some (.int v1)]) ok dX8_peopleOf_39 rfl rfl (by rw [cc_iconst_1]) rfl ?_
    refine sw_goto (tgt := 5) ok dX8_peopleOf_42 (by decide) ?_
    refine sw_fg (l' := [some (.ref p0), some (.int p1), some (.int p2), some (.int (q3 ||| ((1 <<< (v2 &&& 31)) ||| (1 <<< (v3 &&& 31))))), some (.int (q4 + 1)), none]) [true, true, true, true, true, false] rfl ?_
    exact ih (q3 ||| ((1 <<< (v2 &&& 31)) ||| (1 <<< (v3 &&& 31)))) (q4 + 1)
set_option maxHeartbeats 4000000 in
set_option maxRecDepth 100000 in
theorem W_X8_peopleOf {Γ : Cx} (ok : OKc Γ cX8_peopleOf RX8 1 "peopleOf") (okr : OKr Γ cX8_peopleOf (some .int)) (a0 : Nat) (x1 : Int32) (x2 : Int32) : SW Γ iI 0 [some (.ref a0), some (.int x1), some (.int x2), none, none, none] [] (P_X8_peopleOf a0 x1 x2) := by
  unfold P_X8_peopleOf
  refine sw_iconst (v := 0) (pc' := 1) ok dX8_peopleOf_0 rfl cc_iconst_0 ?_
  refine sw_istore_n (pc' := 2) (l' := [some (.ref a0), some (.int x1), some (.int x2), some (.int 0), none, none]) ok dX8_peopleOf_1 rfl (Nat.le_of_ble_eq_true rfl) rfl ?_
  refine sw_iconst (v := 0) (pc' := 3) ok dX8_peopleOf_2 rfl cc_iconst_0 ?_
  refine sw_istore (pc' := 5) (l' := [some (.ref a0), some (.int x1), some (.int x2), some (.int 0), some (.int 0), none]) ok dX8_peopleOf_3 rfl (Nat.le_of_ble_eq_true rfl) rfl ?_
  exact W_X8_peopleOf_5 ok okr a0 x1 x2 4000 0 0
theorem S_X8_peopleOf (a0 : Nat) (x1 : Int32) (x2 : Int32) : Sim 1 yX8_peopleOf cX8_peopleOf 6 (some .int) iI [.ref a0, .int x1, .int x2] (P_X8_peopleOf a0 x1 x2) := Sim.intro wd_1125 (by decide) (by decide +kernel) (Nat.le_of_ble_eq_true rfl) (fun Γ ok okr => W_X8_peopleOf ok okr a0 x1 x2)
theorem dX8_isSo_0 : decode cX8_isSo 0 = .ok (.aload_n 0, 1) := by decide +kernel
theorem dX8_isSo_1 : decode cX8_isSo 1 = .ok (.getfield 13, 3) := by decide +kernel
theorem dX8_isSo_4 : decode cX8_isSo 4 = .ok (.iload_n 2, 1) := by decide +kernel
theorem dX8_isSo_5 : decode cX8_isSo 5 = .ok (.iaload, 1) := by decide +kernel
theorem dX8_isSo_6 : decode cX8_isSo 6 = .ok (.istore 4, 2) := by decide +kernel
theorem dX8_isSo_8 : decode cX8_isSo 8 = .ok (.iconst 1, 1) := by decide +kernel
theorem dX8_isSo_9 : decode cX8_isSo 9 = .ok (.istore 5, 2) := by decide +kernel
theorem dX8_isSo_11 : decode cX8_isSo 11 = .ok (.aload_n 0, 1) := by decide +kernel
theorem dX8_isSo_12 : decode cX8_isSo 12 = .ok (.iconst 0, 1) := by decide +kernel
theorem dX8_isSo_13 : decode cX8_isSo 13 = .ok (.bipush 11, 2) := by decide +kernel
theorem dX8_isSo_15 : decode cX8_isSo 15 = .ok (.bipush 11, 2) := by decide +kernel
theorem dX8_isSo_17 : decode cX8_isSo 17 = .ok (.invokevirtual 204, 3) := by decide +kernel
theorem dX8_isSo_20 : decode cX8_isSo 20 = .ok (.iconst 0, 1) := by decide +kernel
theorem dX8_isSo_21 : decode cX8_isSo 21 = .ok (.istore 6, 2) := by decide +kernel
theorem dX8_isSo_23 : decode cX8_isSo 23 = .ok (.iload 6, 2) := by decide +kernel
theorem dX8_isSo_25 : decode cX8_isSo 25 = .ok (.iload 4, 2) := by decide +kernel
theorem dX8_isSo_27 : decode cX8_isSo 27 = .ok (.if_icmp .ge 84, 3) := by decide +kernel
theorem dX8_isSo_30 : decode cX8_isSo 30 = .ok (.iload 5, 2) := by decide +kernel
theorem dX8_isSo_32 : decode cX8_isSo 32 = .ok (.ifCond .eq 79, 3) := by decide +kernel
theorem dX8_isSo_35 : decode cX8_isSo 35 = .ok (.aload_n 0, 1) := by decide +kernel
theorem dX8_isSo_36 : decode cX8_isSo 36 = .ok (.aload_n 0, 1) := by decide +kernel
theorem dX8_isSo_37 : decode cX8_isSo 37 = .ok (.iload_n 1, 1) := by decide +kernel
theorem dX8_isSo_38 : decode cX8_isSo 38 = .ok (.iload 6, 2) := by decide +kernel
theorem dX8_isSo_40 : decode cX8_isSo 40 = .ok (.iload 4, 2) := by decide +kernel
theorem dX8_isSo_42 : decode cX8_isSo 42 = .ok (.invokevirtual 227, 3) := by decide +kernel
theorem dX8_isSo_45 : decode cX8_isSo 45 = .ok (.invokevirtual 230, 3) := by decide +kernel
theorem dX8_isSo_48 : decode cX8_isSo 48 = .ok (.aload_n 0, 1) := by decide +kernel
theorem dX8_isSo_49 : decode cX8_isSo 49 = .ok (.getfield 7, 3) := by decide +kernel
theorem dX8_isSo_52 : decode cX8_isSo 52 = .ok (.bipush 40, 2) := by decide +kernel
theorem dX8_isSo_54 : decode cX8_isSo 54 = .ok (.iload_n 2, 1) := by decide +kernel
theorem dX8_isSo_55 : decode cX8_isSo 55 = .ok (.imul, 1) := by decide +kernel
theorem dX8_isSo_56 : decode cX8_isSo 56 = .ok (.iload 6, 2) := by decide +kernel
theorem dX8_isSo_58 : decode cX8_isSo 58 = .ok (.iadd, 1) := by decide +kernel
theorem dX8_isSo_59 : decode cX8_isSo 59 = .ok (.iaload, 1) := by decide +kernel
theorem dX8_isSo_60 : decode cX8_isSo 60 = .ok (.istore 7, 2) := by decide +kernel
theorem dX8_isSo_62 : decode cX8_isSo 62 = .ok (.iload_n 3, 1) := by decide +kernel
theorem dX8_isSo_63 : decode cX8_isSo 63 = .ok (.ifCond .eq 23, 3) := by decide +kernel
theorem dX8_isSo_66 : decode cX8_isSo 66 = .ok (.aload_n 0, 1) := by decide +kernel
theorem dX8_isSo_67 : decode cX8_isSo 67 = .ok (.getfield 22, 3) := by decide +kernel
theorem dX8_isSo_70 : decode cX8_isSo 70 = .ok (.bipush 11, 2) := by decide +kernel
theorem dX8_isSo_72 : decode cX8_isSo 72 = .ok (.iaload, 1) := by decide +kernel
theorem dX8_isSo_73 : decode cX8_isSo 73 = .ok (.iload 7, 2) := by decide +kernel
theorem dX8_isSo_75 : decode cX8_isSo 75 = .ok (.if_icmp .ne 7, 3) := by decide +kernel
theorem dX8_isSo_78 : decode cX8_isSo 78 = .ok (.iconst 1, 1) := by decide +kernel
theorem dX8_isSo_79 : decode cX8_isSo 79 = .ok (.goto 24, 3) := by decide +kernel
theorem dX8_isSo_82 : decode cX8_isSo 82 = .ok (.iconst 0, 1) := by decide +kernel
theorem dX8_isSo_83 : decode cX8_isSo 83 = .ok (.goto 20, 3) := by decide +kernel
theorem dX8_isSo_86 : decode cX8_isSo 86 = .ok (.aload_n 0, 1) := by decide +kernel
theorem dX8_isSo_87 : decode cX8_isSo 87 = .ok (.getfield 22, 3) := by decide +kernel
theorem dX8_isSo_90 : decode cX8_isSo 90 = .ok (.bipush 11, 2) := by decide +kernel
theorem dX8_isSo_92 : decode cX8_isSo 92 = .ok (.iaload, 1) := by decide +kernel
theorem dX8_isSo_93 : decode cX8_isSo 93 = .ok (.iload 7, 2) := by decide +kernel
theorem dX8_isSo_95 : decode cX8_isSo 95 = .ok (.if_icmp .lt 7, 3) := by decide +kernel
theorem dX8_isSo_98 : decode cX8_isSo 98 = .ok (.iconst 1, 1) := by decide +kernel
theorem dX8_isSo_99 : decode cX8_isSo 99 = .ok (.goto 4, 3) := by decide +kernel
theorem dX8_isSo_102 : decode cX8_isSo 102 = .ok (.iconst 0, 1) := by decide +kernel
theorem dX8_isSo_103 : decode cX8_isSo 103 = .ok (.istore 5, 2) := by decide +kernel
theorem dX8_isSo_105 : decode cX8_isSo 105 = .ok (.iinc 6 1, 3) := by decide +kernel
theorem dX8_isSo_108 : decode cX8_isSo 108 = .ok (.goto (-85), 3) := by decide +kernel
theorem dX8_isSo_111 : decode cX8_isSo 111 = .ok (.iload 5, 2) := by decide +kernel
theorem dX8_isSo_113 : decode cX8_isSo 113 = .ok (.ireturn, 1) := by decide +kernel
def P_X8_isSo_23 (p0 : Nat) (p1 : Int32) (p2 : Int32) (p3 : Int32) (p4 : Int32) : Nat → Int32 → Int32 → PM Int32
  | 0, _, _ => failM
  | n + 1, q5, q6 =>
    ifB (decide (p4 ≤ q6)) (
    retZ q5) (
    ifB (decide (q5 = 0)) (
    retZ q5) (
    cllV 8 p0 (P_X8_pairOf p0 p1 q6 p4) fun v3 =>
    cllV 8 p0 (P_X8_watchBy p0 v3) fun _ =>
    getR 8 0 p0 fun v4 =>
    ald v4 ((40 * p2) + q6) fun v5 =>
    jn (fun (j6 : Int32) =>
    P_X8_isSo_23 p0 p1 p2 p3 p4 n j6 (q6 + 1)) fun k7 =>
    ifB (decide (p3 = 0)) (
    getR 8 4 p0 fun v8 =>
    ald v8 11 fun v9 =>
    ifB (decide (v9 < v5)) (
    k7 0) (
    k7 1)) (
    getR 8 4 p0 fun v10 =>
    ald v10 11 fun v11 =>
    ifB (decide (¬ v11 = v5)) (
    k7 0) (
    k7 1))))
def P_X8_isSo (a0 : Nat) (x1 : Int32) (x2 : Int32) (x3 : Int32) : PM Int32 :=
getR 8 1 a0 fun v1 =>
ald v1 x2 fun v2 =>
cllV 8 a0 (P_X8_take a0 0 11 11) fun _ =>
P_X8_isSo_23 a0 x1 x2 x3 v2 4000 1 0
set_option maxHeartbeats 4000000 in
set_option maxRecDepth 100000 in
theorem W_X8_isSo_23 {Γ : Cx} (ok : OKc Γ cX8_isSo RX8 8 "isSo") (okr : OKr Γ cX8_isSo (some .boolean)) (p0 : Nat) (p1 : Int32) (p2 : Int32) (p3 : Int32) (p4 : Int32) : ∀ (n : Nat) (q5 : Int32) (q6 : Int32), SW Γ iI 23 [some (.ref p0), some (.int p1), some (.int p2), some (.int p3), some (.int p4), some (.int q5), some (.int q6), none] [] (P_X8_isSo_23 p0 p1 p2 p3 p4 n q5 q6) := by
  intro n
  induction n with
  | zero =>
    intros
    exact sw_fail
  | succ n ih =>
    intro q5 q6
    unfold P_X8_isSo_23
    refine sw_iload (z := q6) (pc' := 25) ok dX8_isSo_23 rfl rfl ?_
    refine sw_iload (z := p4) (pc' := 27) ok dX8_isSo_25 rfl rfl ?_
    refine sw_icmp_ge (tgt := 111) (pc' := 30) ok dX8_isSo_27 (by decide) rfl ?_ ?_
    · refine sw_iload (z := q5) (pc' := 113) ok dX8_isSo_111 rfl rfl ?_
      exact sw_retZ ok okr dX8_isSo_113
    refine sw_iload (z := q5) (pc' := 32) ok dX8_isSo_30 rfl rfl ?_
    refine sw_if_eq (tgt := 111) (pc' := 35) ok dX8_isSo_32 (by decide) rfl ?_ ?_
    · refine sw_iload (z := q5) (pc' := 113) ok dX8_isSo_111 rfl rfl ?_
      exact sw_retZ ok okr dX8_isSo_113
    refine sw_aload_n (z := p0) (pc' := 36) ok dX8_isSo_35 rfl rfl ?_
    refine sw_aload_n (z := p0) (pc' := 37) ok dX8_isSo_36 rfl rfl ?_
    refine sw_iload_n (z := p1) (pc' := 38) ok dX8_isSo_37 rfl rfl ?_
    refine sw_iload (z := q6) (pc' := 40) ok dX8_isSo_38 rfl rfl ?_
    refine sw_iload (z := p4) (pc' := 42) ok dX8_isSo_40 rfl rfl ?_
    refine sw_cllV_I (st := [.ref p0]) (as := [.int p1, .int q6, .int p4]) (pc' := 45) ok (S_X8_pairOf p0 p1 q6 p4) (by decide) lk_X8_227 rfl dX8_isSo_42 rfl (Nat.le_of_ble_eq_true rfl) rfl (fun v3 => ?_)
    refine sw_cllV_U (st := []) (as := [.int v3]) (pc' := 48) ok (S_X8_watchBy p0 v3) (by decide) lk_X8_230 rfl dX8_isSo_45 rfl (Nat.le_of_ble_eq_true rfl) rfl (fun _ => ?_)
    refine sw_aload_n (z := p0) (pc' := 49) ok dX8_isSo_48 rfl rfl ?_
    refine sw_getR (pc' := 52) ok (fr_X8_7.g) dX8_isSo_49 rfl (fun v4 => ?_)
    refine sw_bipush (v := 40) (pc' := 54) ok dX8_isSo_52 rfl cc_bipush_40 ?_
    refine sw_iload_n (z := p2) (pc' := 55) ok dX8_isSo_54 rfl rfl ?_
    refine sw_imul (pc' := 56) ok dX8_isSo_55 rfl ?_
    refine sw_iload (z := q6) (pc' := 58) ok dX8_isSo_56 rfl rfl ?_
    refine sw_iadd (pc' := 59) ok dX8_isSo_58 rfl ?_
    refine sw_ald (pc' := 60) ok dX8_isSo_59 rfl (fun v5 => ?_)
    refine sw_istore (pc' := 62) (l' := [some (.ref p0), some (.int p1), some (.int p2), some (.int p3), some (.int p4), some (.int q5), some (.int q6), some (.int v5)]) ok dX8_isSo_60 rfl (Nat.le_of_ble_eq_true rfl) rfl ?_
    refine sw_iload_n (z := p3) (pc' := 63) ok dX8_isSo_62 rfl rfl ?_
    refine sw_jn (fun k7 : Int32 → PM Int32 => ∀ (j6 : Int32), SW Γ iI 103 [some (.ref p0), some (.int p1), some (.int p2), some (.int p3), some (.int p4), none, some (.int q6), none] [.int j6] (k7 j6)) ?_ (fun k7 hk7 => ?_)
    · intro j6
      refine sw_istore (pc' := 105) (l' := [some (.ref p0), some (.int p1), some (.int p2), some (.int p3), some (.int p4), some (.int j6), some (.int q6), none]) ok dX8_isSo_103 rfl (Nat.le_of_ble_eq_true rfl) rfl ?_
      refine sw_iinc (z := q6) (v := q6 + 1) (pc' := 108) (l' := [some (.ref p0), some (.int p1), some (.int p2), some (.int p3), some (.int p4), some (.int j6), some (.int (q6 + 1)), none]) ok dX8_isSo_105 rfl rfl (by rw [cc_iconst_1]) rfl ?_
      refine sw_goto (tgt := 23) ok dX8_isSo_108 (by decide) ?_
      exact ih j6 (q6 + 1)
    refine sw_if_eq (tgt := 86) (pc' := 66) ok dX8_isSo_63 (by decide) rfl ?_ ?_
    · refine sw_aload_n (z := p0) (pc' := 87) ok dX8_isSo_86 rfl rfl ?_
      refine sw_getR (pc' := 90) ok (fr_X8_22.g) dX8_isSo_87 rfl (fun v8 => ?_)
      refine sw_bipush (v := 11) (pc' := 92) ok dX8_isSo_90 rfl cc_bipush_11 ?_
      refine sw_ald (pc' := 93) ok dX8_isSo_92 rfl (fun v9 => ?_)
      refine sw_iload (z := v5) (pc' := 95) ok dX8_isSo_93 rfl rfl ?_
      refine sw_icmp_lt (tgt := 102) (pc' := 98) ok dX8_isSo_95 (by decide) rfl ?_ ?_
      · refine sw_iconst (v := 0) (pc' := 103) ok dX8_isSo_102 rfl cc_iconst_0 ?_
        refine sw_fg (l' := [some (.ref p0), some (.int p1), some (.int p2), some (.int p3), some (.int p4), none, some (.int q6), none]) [true, true, true, true, true, false, true, false] rfl ?_
        exact hk7 0
      refine sw_iconst (v := 1) (pc' := 99) ok dX8_isSo_98 rfl cc_iconst_1 ?_
      refine sw_goto (tgt := 103) ok dX8_isSo_99 (by decide) ?_
      refine sw_fg (l' := [some (.ref p0), some (.int p1), some (.int p2), some (.int p3), some (.int p4), none, some (.int q6), none]) [true, true, true, true, true, false, true, false] rfl ?_
      exact hk7 1
    refine sw_aload_n (z := p0) (pc' := 67) ok dX8_isSo_66 rfl rfl ?_
    refine sw_getR (pc' := 70) ok (fr_X8_22.g) dX8_isSo_67 rfl (fun v10 => ?_)
    refine sw_bipush (v := 11) (pc' := 72) ok dX8_isSo_70 rfl cc_bipush_11 ?_
    refine sw_ald (pc' := 73) ok dX8_isSo_72 rfl (fun v11 => ?_)
    refine sw_iload (z := v5) (pc' := 75) ok dX8_isSo_73 rfl rfl ?_
    refine sw_icmp_ne (tgt := 82) (pc' := 78) ok dX8_isSo_75 (by decide) rfl ?_ ?_
    · refine sw_iconst (v := 0) (pc' := 83) ok dX8_isSo_82 rfl cc_iconst_0 ?_
      refine sw_goto (tgt := 103) ok dX8_isSo_83 (by decide) ?_
      refine sw_fg (l' := [some (.ref p0), some (.int p1), some (.int p2), some (.int p3), some (.int p4), none, some (.int q6), none]) [true, true, true, true, true, false, true, false] rfl ?_
      exact hk7 0
    refine sw_iconst (v := 1) (pc' := 79) ok dX8_isSo_78 rfl cc_iconst_1 ?_
    refine sw_goto (tgt := 103) ok dX8_isSo_79 (by decide) ?_
    refine sw_fg (l' := [some (.ref p0), some (.int p1), some (.int p2), some (.int p3), some (.int p4), none, some (.int q6), none]) [true, true, true, true, true, false, true, false] rfl ?_
    exact hk7 1
set_option maxHeartbeats 4000000 in
set_option maxRecDepth 100000 in
theorem W_X8_isSo {Γ : Cx} (ok : OKc Γ cX8_isSo RX8 8 "isSo") (okr : OKr Γ cX8_isSo (some .boolean)) (a0 : Nat) (x1 : Int32) (x2 : Int32) (x3 : Int32) : SW Γ iI 0 [some (.ref a0), some (.int x1), some (.int x2), some (.int x3), none, none, none, none] [] (P_X8_isSo a0 x1 x2 x3) := by
  unfold P_X8_isSo
  refine sw_aload_n (z := a0) (pc' := 1) ok dX8_isSo_0 rfl rfl ?_
  refine sw_getR (pc' := 4) ok (fr_X8_13.g) dX8_isSo_1 rfl (fun v1 => ?_)
  refine sw_iload_n (z := x2) (pc' := 5) ok dX8_isSo_4 rfl rfl ?_
  refine sw_ald (pc' := 6) ok dX8_isSo_5 rfl (fun v2 => ?_)
  refine sw_istore (pc' := 8) (l' := [some (.ref a0), some (.int x1), some (.int x2), some (.int x3), some (.int v2), none, none, none]) ok dX8_isSo_6 rfl (Nat.le_of_ble_eq_true rfl) rfl ?_
  refine sw_iconst (v := 1) (pc' := 9) ok dX8_isSo_8 rfl cc_iconst_1 ?_
  refine sw_istore (pc' := 11) (l' := [some (.ref a0), some (.int x1), some (.int x2), some (.int x3), some (.int v2), some (.int 1), none, none]) ok dX8_isSo_9 rfl (Nat.le_of_ble_eq_true rfl) rfl ?_
  refine sw_aload_n (z := a0) (pc' := 12) ok dX8_isSo_11 rfl rfl ?_
  refine sw_iconst (v := 0) (pc' := 13) ok dX8_isSo_12 rfl cc_iconst_0 ?_
  refine sw_bipush (v := 11) (pc' := 15) ok dX8_isSo_13 rfl cc_bipush_11 ?_
  refine sw_bipush (v := 11) (pc' := 17) ok dX8_isSo_15 rfl cc_bipush_11 ?_
  refine sw_cllV_U (st := []) (as := [.int 0, .int 11, .int 11]) (pc' := 20) ok (S_X8_take a0 0 11 11) (by decide) lk_X8_204 rfl dX8_isSo_17 rfl (Nat.le_of_ble_eq_true rfl) rfl (fun _ => ?_)
  refine sw_iconst (v := 0) (pc' := 21) ok dX8_isSo_20 rfl cc_iconst_0 ?_
  refine sw_istore (pc' := 23) (l' := [some (.ref a0), some (.int x1), some (.int x2), some (.int x3), some (.int v2), some (.int 1), some (.int 0), none]) ok dX8_isSo_21 rfl (Nat.le_of_ble_eq_true rfl) rfl ?_
  exact W_X8_isSo_23 ok okr a0 x1 x2 x3 v2 4000 1 0
theorem S_X8_isSo (a0 : Nat) (x1 : Int32) (x2 : Int32) (x3 : Int32) : Sim 8 yX8_isSo cX8_isSo 8 (some .boolean) iI [.ref a0, .int x1, .int x2, .int x3] (P_X8_isSo a0 x1 x2 x3) := Sim.intro wd_1126 (by decide) (by decide +kernel) (Nat.le_of_ble_eq_true rfl) (fun Γ ok okr => W_X8_isSo ok okr a0 x1 x2 x3)
theorem dX8_bear_0 : decode cX8_bear 0 = .ok (.iload_n 1, 1) := by decide +kernel
theorem dX8_bear_1 : decode cX8_bear 1 = .ok (.invokestatic 86, 3) := by decide +kernel
theorem dX8_bear_4 : decode cX8_bear 4 = .ok (.ifCond .ne 5, 3) := by decide +kernel
theorem dX8_bear_7 : decode cX8_bear 7 = .ok (.iconst (-1), 1) := by decide +kernel
theorem dX8_bear_8 : decode cX8_bear 8 = .ok (.ireturn, 1) := by decide +kernel
theorem dX8_bear_9 : decode cX8_bear 9 = .ok (.aload_n 0, 1) := by decide +kernel
theorem dX8_bear_10 : decode cX8_bear 10 = .ok (.getfield 156, 3) := by decide +kernel
theorem dX8_bear_13 : decode cX8_bear 13 = .ok (.ifCond .ne 6, 3) := by decide +kernel
theorem dX8_bear_16 : decode cX8_bear 16 = .ok (.bipush (-4), 2) := by decide +kernel
theorem dX8_bear_18 : decode cX8_bear 18 = .ok (.ireturn, 1) := by decide +kernel
theorem dX8_bear_19 : decode cX8_bear 19 = .ok (.aload_n 0, 1) := by decide +kernel
theorem dX8_bear_20 : decode cX8_bear 20 = .ok (.iload_n 1, 1) := by decide +kernel
theorem dX8_bear_21 : decode cX8_bear 21 = .ok (.invokevirtual 252, 3) := by decide +kernel
theorem dX8_bear_24 : decode cX8_bear 24 = .ok (.istore_n 2, 1) := by decide +kernel
theorem dX8_bear_25 : decode cX8_bear 25 = .ok (.iload_n 2, 1) := by decide +kernel
theorem dX8_bear_26 : decode cX8_bear 26 = .ok (.ifCond .le 9, 3) := by decide +kernel
theorem dX8_bear_29 : decode cX8_bear 29 = .ok (.aload_n 0, 1) := by decide +kernel
theorem dX8_bear_30 : decode cX8_bear 30 = .ok (.iload_n 2, 1) := by decide +kernel
theorem dX8_bear_31 : decode cX8_bear 31 = .ok (.invokevirtual 90, 3) := by decide +kernel
theorem dX8_bear_34 : decode cX8_bear 34 = .ok (.ireturn, 1) := by decide +kernel
theorem dX8_bear_35 : decode cX8_bear 35 = .ok (.aload_n 0, 1) := by decide +kernel
theorem dX8_bear_36 : decode cX8_bear 36 = .ok (.invokevirtual 233, 3) := by decide +kernel
theorem dX8_bear_39 : decode cX8_bear 39 = .ok (.aload_n 0, 1) := by decide +kernel
theorem dX8_bear_40 : decode cX8_bear 40 = .ok (.getfield 13, 3) := by decide +kernel
theorem dX8_bear_43 : decode cX8_bear 43 = .ok (.iload_n 1, 1) := by decide +kernel
theorem dX8_bear_44 : decode cX8_bear 44 = .ok (.iaload, 1) := by decide +kernel
theorem dX8_bear_45 : decode cX8_bear 45 = .ok (.istore_n 3, 1) := by decide +kernel
theorem dX8_bear_46 : decode cX8_bear 46 = .ok (.bipush (-9), 2) := by decide +kernel
theorem dX8_bear_48 : decode cX8_bear 48 = .ok (.istore 4, 2) := by decide +kernel
theorem dX8_bear_50 : decode cX8_bear 50 = .ok (.bipush 7, 2) := by decide +kernel
theorem dX8_bear_52 : decode cX8_bear 52 = .ok (.istore 5, 2) := by decide +kernel
theorem dX8_bear_54 : decode cX8_bear 54 = .ok (.iconst 0, 1) := by decide +kernel
theorem dX8_bear_55 : decode cX8_bear 55 = .ok (.istore 6, 2) := by decide +kernel
theorem dX8_bear_57 : decode cX8_bear 57 = .ok (.iload 6, 2) := by decide +kernel
theorem dX8_bear_59 : decode cX8_bear 59 = .ok (.aload_n 0, 1) := by decide +kernel
theorem dX8_bear_60 : decode cX8_bear 60 = .ok (.iload_n 3, 1) := by decide +kernel
theorem dX8_bear_61 : decode cX8_bear 61 = .ok (.invokevirtual 236, 3) := by decide +kernel
theorem dX8_bear_64 : decode cX8_bear 64 = .ok (.if_icmp .ge 79, 3) := by decide +kernel
theorem dX8_bear_67 : decode cX8_bear 67 = .ok (.aload_n 0, 1) := by decide +kernel
theorem dX8_bear_68 : decode cX8_bear 68 = .ok (.iload 6, 2) := by decide +kernel
theorem dX8_bear_70 : decode cX8_bear 70 = .ok (.iload_n 3, 1) := by decide +kernel
theorem dX8_bear_71 : decode cX8_bear 71 = .ok (.invokevirtual 255, 3) := by decide +kernel
theorem dX8_bear_74 : decode cX8_bear 74 = .ok (.istore 7, 2) := by decide +kernel
theorem dX8_bear_76 : decode cX8_bear 76 = .ok (.iload 7, 2) := by decide +kernel
theorem dX8_bear_78 : decode cX8_bear 78 = .ok (.invokestatic 258, 3) := by decide +kernel
theorem dX8_bear_81 : decode cX8_bear 81 = .ok (.iload 5, 2) := by decide +kernel
theorem dX8_bear_83 : decode cX8_bear 83 = .ok (.if_icmp .lt 20, 3) := by decide +kernel
theorem dX8_bear_86 : decode cX8_bear 86 = .ok (.iload 7, 2) := by decide +kernel
theorem dX8_bear_88 : decode cX8_bear 88 = .ok (.invokestatic 258, 3) := by decide +kernel
theorem dX8_bear_91 : decode cX8_bear 91 = .ok (.iload 5, 2) := by decide +kernel
theorem dX8_bear_93 : decode cX8_bear 93 = .ok (.if_icmp .ne 14, 3) := by decide +kernel
theorem dX8_bear_96 : decode cX8_bear 96 = .ok (.iload 7, 2) := by decide +kernel
theorem dX8_bear_98 : decode cX8_bear 98 = .ok (.iload 4, 2) := by decide +kernel
theorem dX8_bear_100 : decode cX8_bear 100 = .ok (.if_icmp .ge 7, 3) := by decide +kernel
theorem dX8_bear_103 : decode cX8_bear 103 = .ok (.iconst 1, 1) := by decide +kernel
theorem dX8_bear_104 : decode cX8_bear 104 = .ok (.goto 4, 3) := by decide +kernel
theorem dX8_bear_107 : decode cX8_bear 107 = .ok (.iconst 0, 1) := by decide +kernel
theorem dX8_bear_108 : decode cX8_bear 108 = .ok (.istore 8, 2) := by decide +kernel
theorem dX8_bear_110 : decode cX8_bear 110 = .ok (.iload 8, 2) := by decide +kernel
theorem dX8_bear_112 : decode cX8_bear 112 = .ok (.ifCond .eq 25, 3) := by decide +kernel
theorem dX8_bear_115 : decode cX8_bear 115 = .ok (.aload_n 0, 1) := by decide +kernel
theorem dX8_bear_116 : decode cX8_bear 116 = .ok (.iload 6, 2) := by decide +kernel
theorem dX8_bear_118 : decode cX8_bear 118 = .ok (.iload_n 1, 1) := by decide +kernel
theorem dX8_bear_119 : decode cX8_bear 119 = .ok (.iconst 0, 1) := by decide +kernel
theorem dX8_bear_120 : decode cX8_bear 120 = .ok (.invokevirtual 261, 3) := by decide +kernel
theorem dX8_bear_123 : decode cX8_bear 123 = .ok (.ifCond .eq 14, 3) := by decide +kernel
theorem dX8_bear_126 : decode cX8_bear 126 = .ok (.iload 7, 2) := by decide +kernel
theorem dX8_bear_128 : decode cX8_bear 128 = .ok (.istore 4, 2) := by decide +kernel
theorem dX8_bear_130 : decode cX8_bear 130 = .ok (.iload 7, 2) := by decide +kernel
theorem dX8_bear_132 : decode cX8_bear 132 = .ok (.invokestatic 258, 3) := by decide +kernel
theorem dX8_bear_135 : decode cX8_bear 135 = .ok (.istore 5, 2) := by decide +kernel
theorem dX8_bear_137 : decode cX8_bear 137 = .ok (.iinc 6 1, 3) := by decide +kernel
theorem dX8_bear_140 : decode cX8_bear 140 = .ok (.goto (-83), 3) := by decide +kernel
theorem dX8_bear_143 : decode cX8_bear 143 = .ok (.iload 4, 2) := by decide +kernel
theorem dX8_bear_145 : decode cX8_bear 145 = .ok (.bipush (-9), 2) := by decide +kernel
theorem dX8_bear_147 : decode cX8_bear 147 = .ok (.if_icmp .ne 6, 3) := by decide +kernel
theorem dX8_bear_150 : decode cX8_bear 150 = .ok (.bipush (-9), 2) := by decide +kernel
theorem dX8_bear_152 : decode cX8_bear 152 = .ok (.ireturn, 1) := by decide +kernel
theorem dX8_bear_153 : decode cX8_bear 153 = .ok (.aload_n 0, 1) := by decide +kernel
theorem dX8_bear_154 : decode cX8_bear 154 = .ok (.iload 4, 2) := by decide +kernel
theorem dX8_bear_156 : decode cX8_bear 156 = .ok (.putfield 98, 3) := by decide +kernel
theorem dX8_bear_159 : decode cX8_bear 159 = .ok (.iload 5, 2) := by decide +kernel
theorem dX8_bear_161 : decode cX8_bear 161 = .ok (.ireturn, 1) := by decide +kernel
def P_X8_bear_57 (k_143 : Int32 → Int32 → PM Int32) (p0 : Nat) (p1 : Int32) (p3 : Int32) : Nat → Int32 → Int32 → Int32 → PM Int32
  | 0, _, _, _ => failM
  | n + 1, q4, q5, q6 =>
    cllV 8 p0 (P_X8_ways p0 p3) fun v9 =>
    ifB (decide (v9 ≤ q6)) (
    k_143 q4 q5) (
    cllV 8 p0 (P_X8_peopleOf p0 q6 p3) fun v10 =>
    cll0 (P_X8_howMany v10) fun v11 =>
    jn (fun (j12 : Int32) =>
    jn (fun (j13 : Int32) (j14 : Int32) =>
    P_X8_bear_57 k_143 p0 p1 p3 n j13 j14 (q6 + 1)) fun k15 =>
    ifB (decide (j12 = 0)) (
    k15 q4 q5) (
    cllV 8 p0 (P_X8_isSo p0 q6 p1 0) fun v16 =>
    ifB (decide (v16 = 0)) (
    k15 q4 q5) (
    cll0 (P_X8_howMany v10) fun v17 =>
    k15 v10 v17))) fun k18 =>
    jn (
    k18 1) fun k19 =>
    ifB (decide (v11 < q5)) (
    k19) (
    cll0 (P_X8_howMany v10) fun v20 =>
    jn (
    k18 0) fun k21 =>
    ifB (decide (¬ v20 = q5)) (
    k21) (
    ifB (decide (q4 ≤ v10)) (
    k21) (
    k19))))
def P_X8_bear (a0 : Nat) (x1 : Int32) : PM Int32 :=
cll0 (P_X8_isRow x1) fun v1 =>
ifB (decide (¬ v1 = 0)) (
getI 8 10 a0 fun v2 =>
ifB (decide (¬ v2 = 0)) (
cllV 8 a0 (P_X8_refusedStrengths a0 x1) fun v3 =>
ifB (decide (v3 ≤ 0)) (
cllV 8 a0 (P_X8_layPairs a0) fun _ =>
getR 8 1 a0 fun v4 =>
ald v4 x1 fun v5 =>
jn (fun (e6 : Int32) (e7 : Int32) =>
ifB (decide (¬ e6 = ((-9)))) (
setI 8 14 a0 e6 <|
pureM e7) (
pureM ((-9)))) fun k8 =>
P_X8_bear_57 k8 a0 x1 v5 4000 ((-9)) 7 0) (
cllV 8 a0 (P_X8_refuse a0 v3) fun v22 =>
pureM v22)) (
pureM ((-4)))) (
pureM ((-1)))
set_option maxHeartbeats 4000000 in
set_option maxRecDepth 100000 in
theorem W_X8_bear_57 {Γ : Cx} (ok : OKc Γ cX8_bear RX8 9 "bear") (okr : OKr Γ cX8_bear (some .int)) (k_143 : Int32 → Int32 → PM Int32) (p0 : Nat) (p1 : Int32) (p3 : Int32) (hk_143 : ∀ (y4 : Int32) (y5 : Int32), SW Γ iI 143 [some (.ref p0), none, none, none, some (.int y4), some (.int y5), none, none, none] [] (k_143 y4 y5)) : ∀ (n : Nat) (q4 : Int32) (q5 : Int32) (q6 : Int32), SW Γ iI 57 [some (.ref p0), some (.int p1), none, some (.int p3), some (.int q4), some (.int q5), some (.int q6), none, none] [] (P_X8_bear_57 k_143 p0 p1 p3 n q4 q5 q6) := by
  intro n
  induction n with
  | zero =>
    intros
    exact sw_fail
  | succ n ih =>
    intro q4 q5 q6
    unfold P_X8_bear_57
    refine sw_iload (z := q6) (pc' := 59) ok dX8_bear_57 rfl rfl ?_
    refine sw_aload_n (z := p0) (pc' := 60) ok dX8_bear_59 rfl rfl ?_
    refine sw_iload_n (z := p3) (pc' := 61) ok dX8_bear_60 rfl rfl ?_
    refine sw_cllV_I (st := [.int q6]) (as := [.int p3]) (pc' := 64) ok (S_X8_ways p0 p3) (by decide) lk_X8_236 rfl dX8_bear_61 rfl (Nat.le_of_ble_eq_true rfl) rfl (fun v9 => ?_)
    refine sw_icmp_ge (tgt := 143) (pc' := 67) ok dX8_bear_64 (by decide) rfl ?_ ?_
    · refine sw_fg (l' := [some (.ref p0), none, none, none, some (.int q4), some (.int q5), none, none, none]) [true, false, false, false, true, true, false, false, false] rfl ?_
      exact hk_143 q4 q5
    refine sw_aload_n (z := p0) (pc' := 68) ok dX8_bear_67 rfl rfl ?_
    refine sw_iload (z := q6) (pc' := 70) ok dX8_bear_68 rfl rfl ?_
    refine sw_iload_n (z := p3) (pc' := 71) ok dX8_bear_70 rfl rfl ?_
    refine sw_cllV_I (st := []) (as := [.int q6, .int p3]) (pc' := 74) ok (S_X8_peopleOf p0 q6 p3) (by decide) lk_X8_255 rfl dX8_bear_71 rfl (Nat.le_of_ble_eq_true rfl) rfl (fun v10 => ?_)
    refine sw_istore (pc' := 76) (l' := [some (.ref p0), some (.int p1), none, some (.int p3), some (.int q4), some (.int q5), some (.int q6), some (.int v10), none]) ok dX8_bear_74 rfl (Nat.le_of_ble_eq_true rfl) rfl ?_
    refine sw_iload (z := v10) (pc' := 78) ok dX8_bear_76 rfl rfl ?_
    refine sw_cll0_I (st := []) (as := [.int v10]) (pc' := 81) ok (S_X8_howMany v10) (by decide) lk_X8_258 rfl dX8_bear_78 rfl (Nat.le_of_ble_eq_true rfl) rfl (fun v11 => ?_)
    refine sw_iload (z := q5) (pc' := 83) ok dX8_bear_81 rfl rfl ?_
    refine sw_jn (fun k18 : Int32 → PM Int32 => ∀ (j12 : Int32), SW Γ iI 108 [some (.ref p0), some (.int p1), none, some (.int p3), some (.int q4), some (.int q5), some (.int q6), some (.int v10), none] [.int j12] (k18 j12)) ?_ (fun k18 hk18 => ?_)
    · intro j12
      refine sw_istore (pc' := 110) (l' := [some (.ref p0), some (.int p1), none, some (.int p3), some (.int q4), some (.int q5), some (.int q6), some (.int v10), some (.int j12)]) ok dX8_bear_108 rfl (Nat.le_of_ble_eq_true rfl) rfl ?_
      refine sw_iload (z := j12) (pc' := 112) ok dX8_bear_110 rfl rfl ?_
      refine sw_jn (fun k15 : Int32 → Int32 → PM Int32 => ∀ (j13 : Int32) (j14 : Int32), SW Γ iI 137 [some (.ref p0), some (.int p1), none, some (.int p3), some (.int j13), some (.int j14), some (.int q6), none, none] [] (k15 j13 j14)) ?_ (fun k15 hk15 => ?_)
      · intro j13 j14
        refine sw_iinc (z := q6) (v := q6 + 1) (pc' := 140) (l' := [some (.ref p0), some (.int p1), none, some (.int p3), some (.int j13), some (.int j14), some (.int (q6 + 1)), none, none]) ok dX8_bear_137 rfl rfl (by rw [cc_iconst_1]) rfl ?_
        refine sw_goto (tgt := 57) ok dX8_bear_140 (by decide) ?_
        exact ih j13 j14 (q6 + 1)
      refine sw_if_eq (tgt := 137) (pc' := 115) ok dX8_bear_112 (by decide) rfl ?_ ?_
      · refine sw_fg (l' := [some (.ref p0), some (.int p1), none, some (.int p3), some (.int q4), some (.int q5), some (.int q6), none, none]) [true, true, false, true, true, true, true, false, false] rfl ?_
        exact hk15 q4 q5
      refine sw_aload_n (z := p0) (pc' := 116) ok dX8_bear_115 rfl rfl ?_
      refine sw_iload (z := q6) (pc' := 118) ok dX8_bear_116 rfl rfl ?_
      refine sw_iload_n (z := p1) (pc' := 119) ok dX8_bear_118 rfl rfl ?_
      refine sw_iconst (v := 0) (pc' := 120) ok dX8_bear_119 rfl cc_iconst_0 ?_
      refine sw_cllV_I (st := []) (as := [.int q6, .int p1, .int 0]) (pc' := 123) ok (S_X8_isSo p0 q6 p1 0) (by decide) lk_X8_261 rfl dX8_bear_120 rfl (Nat.le_of_ble_eq_true rfl) rfl (fun v16 => ?_)
      refine sw_if_eq (tgt := 137) (pc' := 126) ok dX8_bear_123 (by decide) rfl ?_ ?_
      · refine sw_fg (l' := [some (.ref p0), some (.int p1), none, some (.int p3), some (.int q4), some (.int q5), some (.int q6), none, none]) [true, true, false, true, true, true, true, false, false] rfl ?_
        exact hk15 q4 q5
      refine sw_iload (z := v10) (pc' := 128) ok dX8_bear_126 rfl rfl ?_
      refine sw_istore (pc' := 130) (l' := [some (.ref p0), some (.int p1), none, some (.int p3), some (.int v10), some (.int q5), some (.int q6), some (.int v10), some (.int j12)]) ok dX8_bear_128 rfl (Nat.le_of_ble_eq_true rfl) rfl ?_
      refine sw_iload (z := v10) (pc' := 132) ok dX8_bear_130 rfl rfl ?_
      refine sw_cll0_I (st := []) (as := [.int v10]) (pc' := 135) ok (S_X8_howMany v10) (by decide) lk_X8_258 rfl dX8_bear_132 rfl (Nat.le_of_ble_eq_true rfl) rfl (fun v17 => ?_)
      refine sw_istore (pc' := 137) (l' := [some (.ref p0), some (.int p1), none, some (.int p3), some (.int v10), some (.int v17), some (.int q6), some (.int v10), some (.int j12)]) ok dX8_bear_135 rfl (Nat.le_of_ble_eq_true rfl) rfl ?_
      refine sw_fg (l' := [some (.ref p0), some (.int p1), none, some (.int p3), some (.int v10), some (.int v17), some (.int q6), none, none]) [true, true, false, true, true, true, true, false, false] rfl ?_
      exact hk15 v10 v17
    refine sw_jn (fun k19 : PM Int32 => SW Γ iI 103 [some (.ref p0), some (.int p1), none, some (.int p3), some (.int q4), some (.int q5), some (.int q6), some (.int v10), none] [] (k19)) ?_ (fun k19 hk19 => ?_)
    · refine sw_iconst (v := 1) (pc' := 104) ok dX8_bear_103 rfl cc_iconst_1 ?_
      refine sw_goto (tgt := 108) ok dX8_bear_104 (by decide) ?_
      exact hk18 1
    refine sw_icmp_lt (tgt := 103) (pc' := 86) ok dX8_bear_83 (by decide) rfl ?_ ?_
    · exact hk19
    refine sw_iload (z := v10) (pc' := 88) ok dX8_bear_86 rfl rfl ?_
    refine sw_cll0_I (st := []) (as := [.int v10]) (pc' := 91) ok (S_X8_howMany v10) (by decide) lk_X8_258 rfl dX8_bear_88 rfl (Nat.le_of_ble_eq_true rfl) rfl (fun v20 => ?_)
    refine sw_iload (z := q5) (pc' := 93) ok dX8_bear_91 rfl rfl ?_
    refine sw_jn (fun k21 : PM Int32 => SW Γ iI 107 [some (.ref p0), some (.int p1), none, some (.int p3), some (.int q4), some (.int q5), some (.int q6), some (.int v10), none] [] (k21)) ?_ (fun k21 hk21 => ?_)
    · refine sw_iconst (v := 0) (pc' := 108) ok dX8_bear_107 rfl cc_iconst_0 ?_
      exact hk18 0
    refine sw_icmp_ne (tgt := 107) (pc' := 96) ok dX8_bear_93 (by decide) rfl ?_ ?_
    · exact hk21
    refine sw_iload (z := v10) (pc' := 98) ok dX8_bear_96 rfl rfl ?_
    refine sw_iload (z := q4) (pc' := 100) ok dX8_bear_98 rfl rfl ?_
    refine sw_icmp_ge (tgt := 107) (pc' := 103) ok dX8_bear_100 (by decide) rfl ?_ ?_
    · exact hk21
    exact hk19
set_option maxHeartbeats 4000000 in
set_option maxRecDepth 100000 in
theorem W_X8_bear {Γ : Cx} (ok : OKc Γ cX8_bear RX8 9 "bear") (okr : OKr Γ cX8_bear (some .int)) (a0 : Nat) (x1 : Int32) : SW Γ iI 0 [some (.ref a0), some (.int x1), none, none, none, none, none, none, none] [] (P_X8_bear a0 x1) := by
  unfold P_X8_bear
  refine sw_iload_n (z := x1) (pc' := 1) ok dX8_bear_0 rfl rfl ?_
  refine sw_cll0_I (st := []) (as := [.int x1]) (pc' := 4) ok (S_X8_isRow x1) (by decide) lk_X8_86 rfl dX8_bear_1 rfl (Nat.le_of_ble_eq_true rfl) rfl (fun v1 => ?_)
  refine sw_if_ne (tgt := 9) (pc' := 7) ok dX8_bear_4 (by decide) rfl ?_ ?_
  · refine sw_aload_n (z := a0) (pc' := 10) ok dX8_bear_9 rfl rfl ?_
    refine sw_getI (pc' := 13) ok (fr_X8_156.g) dX8_bear_10 rfl (fun v2 => ?_)
    refine sw_if_ne (tgt := 19) (pc' := 16) ok dX8_bear_13 (by decide) rfl ?_ ?_
    · refine sw_aload_n (z := a0) (pc' := 20) ok dX8_bear_19 rfl rfl ?_
      refine sw_iload_n (z := x1) (pc' := 21) ok dX8_bear_20 rfl rfl ?_
      refine sw_cllV_I (st := []) (as := [.int x1]) (pc' := 24) ok (S_X8_refusedStrengths a0 x1) (by decide) lk_X8_252 rfl dX8_bear_21 rfl (Nat.le_of_ble_eq_true rfl) rfl (fun v3 => ?_)
      refine sw_istore_n (pc' := 25) (l' := [some (.ref a0), some (.int x1), some (.int v3), none, none, none, none, none, none]) ok dX8_bear_24 rfl (Nat.le_of_ble_eq_true rfl) rfl ?_
      refine sw_iload_n (z := v3) (pc' := 26) ok dX8_bear_25 rfl rfl ?_
      refine sw_if_le (tgt := 35) (pc' := 29) ok dX8_bear_26 (by decide) rfl ?_ ?_
      · refine sw_aload_n (z := a0) (pc' := 36) ok dX8_bear_35 rfl rfl ?_
        refine sw_cllV_U (st := []) (as := []) (pc' := 39) ok (S_X8_layPairs a0) (by decide) lk_X8_233 rfl dX8_bear_36 rfl (Nat.le_of_ble_eq_true rfl) rfl (fun _ => ?_)
        refine sw_aload_n (z := a0) (pc' := 40) ok dX8_bear_39 rfl rfl ?_
        refine sw_getR (pc' := 43) ok (fr_X8_13.g) dX8_bear_40 rfl (fun v4 => ?_)
        refine sw_iload_n (z := x1) (pc' := 44) ok dX8_bear_43 rfl rfl ?_
        refine sw_ald (pc' := 45) ok dX8_bear_44 rfl (fun v5 => ?_)
        refine sw_istore_n (pc' := 46) (l' := [some (.ref a0), some (.int x1), some (.int v3), some (.int v5), none, none, none, none, none]) ok dX8_bear_45 rfl (Nat.le_of_ble_eq_true rfl) rfl ?_
        refine sw_bipush (v := (-9)) (pc' := 48) ok dX8_bear_46 rfl cc_bipush_m9 ?_
        refine sw_istore (pc' := 50) (l' := [some (.ref a0), some (.int x1), some (.int v3), some (.int v5), some (.int ((-9))), none, none, none, none]) ok dX8_bear_48 rfl (Nat.le_of_ble_eq_true rfl) rfl ?_
        refine sw_bipush (v := 7) (pc' := 52) ok dX8_bear_50 rfl cc_bipush_7 ?_
        refine sw_istore (pc' := 54) (l' := [some (.ref a0), some (.int x1), some (.int v3), some (.int v5), some (.int ((-9))), some (.int 7), none, none, none]) ok dX8_bear_52 rfl (Nat.le_of_ble_eq_true rfl) rfl ?_
        refine sw_iconst (v := 0) (pc' := 55) ok dX8_bear_54 rfl cc_iconst_0 ?_
        refine sw_istore (pc' := 57) (l' := [some (.ref a0), some (.int x1), some (.int v3), some (.int v5), some (.int ((-9))), some (.int 7), some (.int 0), none, none]) ok dX8_bear_55 rfl (Nat.le_of_ble_eq_true rfl) rfl ?_
        refine sw_jn (fun k8 : Int32 → Int32 → PM Int32 => ∀ (e6 : Int32) (e7 : Int32), SW Γ iI 143 [some (.ref a0), none, none, none, some (.int e6), some (.int e7), none, none, none] [] (k8 e6 e7)) ?_ (fun k8 hk8 => ?_)
        · intro e6 e7
          refine sw_iload (z := e6) (pc' := 145) ok dX8_bear_143 rfl rfl ?_
          refine sw_bipush (v := (-9)) (pc' := 147) ok dX8_bear_145 rfl cc_bipush_m9 ?_
          refine sw_icmp_ne (tgt := 153) (pc' := 150) ok dX8_bear_147 (by decide) rfl ?_ ?_
          · refine sw_aload_n (z := a0) (pc' := 154) ok dX8_bear_153 rfl rfl ?_
            refine sw_iload (z := e6) (pc' := 156) ok dX8_bear_154 rfl rfl ?_
            refine sw_setI (pc' := 159) ok fr_X8_98 dX8_bear_156 (fun h => by cases h) rfl ?_
            refine sw_iload (z := e7) (pc' := 161) ok dX8_bear_159 rfl rfl ?_
            exact sw_ret ok okr dX8_bear_161 trivial rfl
          refine sw_bipush (v := (-9)) (pc' := 152) ok dX8_bear_150 rfl cc_bipush_m9 ?_
          exact sw_ret ok okr dX8_bear_152 trivial rfl
        refine sw_fg (l' := [some (.ref a0), some (.int x1), none, some (.int v5), some (.int ((-9))), some (.int 7), some (.int 0), none, none]) [true, true, false, true, true, true, true, false, false] rfl ?_
        exact W_X8_bear_57 ok okr k8 a0 x1 v5 hk8 4000 ((-9)) 7 0
      refine sw_aload_n (z := a0) (pc' := 30) ok dX8_bear_29 rfl rfl ?_
      refine sw_iload_n (z := v3) (pc' := 31) ok dX8_bear_30 rfl rfl ?_
      refine sw_cllV_I (st := []) (as := [.int v3]) (pc' := 34) ok (S_X8_refuse a0 v3) (by decide) lk_X8_90 rfl dX8_bear_31 rfl (Nat.le_of_ble_eq_true rfl) rfl (fun v22 => ?_)
      exact sw_ret ok okr dX8_bear_34 trivial rfl
    refine sw_bipush (v := (-4)) (pc' := 18) ok dX8_bear_16 rfl cc_bipush_m4 ?_
    exact sw_ret ok okr dX8_bear_18 trivial rfl
  refine sw_iconst (v := (-1)) (pc' := 8) ok dX8_bear_7 rfl cc_iconst_m1 ?_
  exact sw_ret ok okr dX8_bear_8 trivial rfl
theorem S_X8_bear (a0 : Nat) (x1 : Int32) : Sim 9 yX8_bear cX8_bear 9 (some .int) iI [.ref a0, .int x1] (P_X8_bear a0 x1) := Sim.intro wd_1127 (by decide) (by decide +kernel) (Nat.le_of_ble_eq_true rfl) (fun Γ ok okr => W_X8_bear ok okr a0 x1)
theorem dX8_laySo_0 : decode cX8_laySo 0 = .ok (.aload_n 0, 1) := by decide +kernel
theorem dX8_laySo_1 : decode cX8_laySo 1 = .ok (.invokevirtual 233, 3) := by decide +kernel
theorem dX8_laySo_4 : decode cX8_laySo 4 = .ok (.aload_n 0, 1) := by decide +kernel
theorem dX8_laySo_5 : decode cX8_laySo 5 = .ok (.getfield 13, 3) := by decide +kernel
theorem dX8_laySo_8 : decode cX8_laySo 8 = .ok (.iload_n 1, 1) := by decide +kernel
theorem dX8_laySo_9 : decode cX8_laySo 9 = .ok (.iaload, 1) := by decide +kernel
theorem dX8_laySo_10 : decode cX8_laySo 10 = .ok (.istore_n 2, 1) := by decide +kernel
theorem dX8_laySo_11 : decode cX8_laySo 11 = .ok (.aload_n 0, 1) := by decide +kernel
theorem dX8_laySo_12 : decode cX8_laySo 12 = .ok (.iconst 0, 1) := by decide +kernel
theorem dX8_laySo_13 : decode cX8_laySo 13 = .ok (.putfield 265, 3) := by decide +kernel
theorem dX8_laySo_16 : decode cX8_laySo 16 = .ok (.aload_n 0, 1) := by decide +kernel
theorem dX8_laySo_17 : decode cX8_laySo 17 = .ok (.bipush (-9), 2) := by decide +kernel
theorem dX8_laySo_19 : decode cX8_laySo 19 = .ok (.putfield 268, 3) := by decide +kernel
theorem dX8_laySo_22 : decode cX8_laySo 22 = .ok (.aload_n 0, 1) := by decide +kernel
theorem dX8_laySo_23 : decode cX8_laySo 23 = .ok (.iconst 1, 1) := by decide +kernel
theorem dX8_laySo_24 : decode cX8_laySo 24 = .ok (.aload_n 0, 1) := by decide +kernel
theorem dX8_laySo_25 : decode cX8_laySo 25 = .ok (.getfield 156, 3) := by decide +kernel
theorem dX8_laySo_28 : decode cX8_laySo 28 = .ok (.ishl, 1) := by decide +kernel
theorem dX8_laySo_29 : decode cX8_laySo 29 = .ok (.iconst 1, 1) := by decide +kernel
theorem dX8_laySo_30 : decode cX8_laySo 30 = .ok (.isub, 1) := by decide +kernel
theorem dX8_laySo_31 : decode cX8_laySo 31 = .ok (.putfield 271, 3) := by decide +kernel
theorem dX8_laySo_34 : decode cX8_laySo 34 = .ok (.aload_n 0, 1) := by decide +kernel
theorem dX8_laySo_35 : decode cX8_laySo 35 = .ok (.iconst 0, 1) := by decide +kernel
theorem dX8_laySo_36 : decode cX8_laySo 36 = .ok (.putfield 274, 3) := by decide +kernel
theorem dX8_laySo_39 : decode cX8_laySo 39 = .ok (.iconst 0, 1) := by decide +kernel
theorem dX8_laySo_40 : decode cX8_laySo 40 = .ok (.istore_n 3, 1) := by decide +kernel
theorem dX8_laySo_41 : decode cX8_laySo 41 = .ok (.iload_n 3, 1) := by decide +kernel
theorem dX8_laySo_42 : decode cX8_laySo 42 = .ok (.aload_n 0, 1) := by decide +kernel
theorem dX8_laySo_43 : decode cX8_laySo 43 = .ok (.iload_n 2, 1) := by decide +kernel
theorem dX8_laySo_44 : decode cX8_laySo 44 = .ok (.invokevirtual 236, 3) := by decide +kernel
theorem dX8_laySo_47 : decode cX8_laySo 47 = .ok (.if_icmp .ge 84, 3) := by decide +kernel
theorem dX8_laySo_50 : decode cX8_laySo 50 = .ok (.aload_n 0, 1) := by decide +kernel
theorem dX8_laySo_51 : decode cX8_laySo 51 = .ok (.iload_n 3, 1) := by decide +kernel
theorem dX8_laySo_52 : decode cX8_laySo 52 = .ok (.iload_n 1, 1) := by decide +kernel
theorem dX8_laySo_53 : decode cX8_laySo 53 = .ok (.iconst 1, 1) := by decide +kernel
theorem dX8_laySo_54 : decode cX8_laySo 54 = .ok (.invokevirtual 261, 3) := by decide +kernel
theorem dX8_laySo_57 : decode cX8_laySo 57 = .ok (.ifCond .eq 68, 3) := by decide +kernel
theorem dX8_laySo_60 : decode cX8_laySo 60 = .ok (.aload_n 0, 1) := by decide +kernel
theorem dX8_laySo_61 : decode cX8_laySo 61 = .ok (.aload_n 0, 1) := by decide +kernel
theorem dX8_laySo_62 : decode cX8_laySo 62 = .ok (.getfield 265, 3) := by decide +kernel
theorem dX8_laySo_65 : decode cX8_laySo 65 = .ok (.ifCond .ne 13, 3) := by decide +kernel
theorem dX8_laySo_68 : decode cX8_laySo 68 = .ok (.aload_n 0, 1) := by decide +kernel
theorem dX8_laySo_69 : decode cX8_laySo 69 = .ok (.iload_n 3, 1) := by decide +kernel
theorem dX8_laySo_70 : decode cX8_laySo 70 = .ok (.iconst 0, 1) := by decide +kernel
theorem dX8_laySo_71 : decode cX8_laySo 71 = .ok (.iload_n 2, 1) := by decide +kernel
theorem dX8_laySo_72 : decode cX8_laySo 72 = .ok (.invokevirtual 227, 3) := by decide +kernel
theorem dX8_laySo_75 : decode cX8_laySo 75 = .ok (.goto 7, 3) := by decide +kernel
theorem dX8_laySo_78 : decode cX8_laySo 78 = .ok (.aload_n 0, 1) := by decide +kernel
theorem dX8_laySo_79 : decode cX8_laySo 79 = .ok (.getfield 268, 3) := by decide +kernel
theorem dX8_laySo_82 : decode cX8_laySo 82 = .ok (.putfield 268, 3) := by decide +kernel
theorem dX8_laySo_85 : decode cX8_laySo 85 = .ok (.aload_n 0, 1) := by decide +kernel
theorem dX8_laySo_86 : decode cX8_laySo 86 = .ok (.dup, 1) := by decide +kernel
theorem dX8_laySo_87 : decode cX8_laySo 87 = .ok (.getfield 265, 3) := by decide +kernel
theorem dX8_laySo_90 : decode cX8_laySo 90 = .ok (.iconst 1, 1) := by decide +kernel
theorem dX8_laySo_91 : decode cX8_laySo 91 = .ok (.iadd, 1) := by decide +kernel
theorem dX8_laySo_92 : decode cX8_laySo 92 = .ok (.putfield 265, 3) := by decide +kernel
theorem dX8_laySo_95 : decode cX8_laySo 95 = .ok (.aload_n 0, 1) := by decide +kernel
theorem dX8_laySo_96 : decode cX8_laySo 96 = .ok (.dup, 1) := by decide +kernel
theorem dX8_laySo_97 : decode cX8_laySo 97 = .ok (.getfield 271, 3) := by decide +kernel
theorem dX8_laySo_100 : decode cX8_laySo 100 = .ok (.aload_n 0, 1) := by decide +kernel
theorem dX8_laySo_101 : decode cX8_laySo 101 = .ok (.iload_n 3, 1) := by decide +kernel
theorem dX8_laySo_102 : decode cX8_laySo 102 = .ok (.iload_n 2, 1) := by decide +kernel
theorem dX8_laySo_103 : decode cX8_laySo 103 = .ok (.invokevirtual 255, 3) := by decide +kernel
theorem dX8_laySo_106 : decode cX8_laySo 106 = .ok (.iand, 1) := by decide +kernel
theorem dX8_laySo_107 : decode cX8_laySo 107 = .ok (.putfield 271, 3) := by decide +kernel
theorem dX8_laySo_110 : decode cX8_laySo 110 = .ok (.aload_n 0, 1) := by decide +kernel
theorem dX8_laySo_111 : decode cX8_laySo 111 = .ok (.dup, 1) := by decide +kernel
theorem dX8_laySo_112 : decode cX8_laySo 112 = .ok (.getfield 274, 3) := by decide +kernel
theorem dX8_laySo_115 : decode cX8_laySo 115 = .ok (.aload_n 0, 1) := by decide +kernel
theorem dX8_laySo_116 : decode cX8_laySo 116 = .ok (.iload_n 3, 1) := by decide +kernel
theorem dX8_laySo_117 : decode cX8_laySo 117 = .ok (.iload_n 2, 1) := by decide +kernel
theorem dX8_laySo_118 : decode cX8_laySo 118 = .ok (.invokevirtual 255, 3) := by decide +kernel
theorem dX8_laySo_121 : decode cX8_laySo 121 = .ok (.ior, 1) := by decide +kernel
theorem dX8_laySo_122 : decode cX8_laySo 122 = .ok (.putfield 274, 3) := by decide +kernel
theorem dX8_laySo_125 : decode cX8_laySo 125 = .ok (.iinc 3 1, 3) := by decide +kernel
theorem dX8_laySo_128 : decode cX8_laySo 128 = .ok (.goto (-87), 3) := by decide +kernel
theorem dX8_laySo_131 : decode cX8_laySo 131 = .ok (.return_, 1) := by decide +kernel
def P_X8_laySo_41 (p0 : Nat) (p1 : Int32) (p2 : Int32) : Nat → Int32 → PM Unit
  | 0, _ => failM
  | n + 1, q3 =>
    cllV 8 p0 (P_X8_ways p0 p2) fun v4 =>
    ifB (decide (v4 ≤ q3)) (
    pureM ()) (
    cllV 8 p0 (P_X8_isSo p0 q3 p1 1) fun v5 =>
    jn (
    P_X8_laySo_41 p0 p1 p2 n (q3 + 1)) fun k6 =>
    ifB (decide (v5 = 0)) (
    k6) (
    getI 8 30 p0 fun v7 =>
    jn (fun (j8 : Nat) (j9 : Int32) =>
    setI 8 31 j8 j9 <|
    getI 8 30 p0 fun v10 =>
    setI 8 30 p0 (v10 + 1) <|
    getI 8 32 p0 fun v11 =>
    cllV 8 p0 (P_X8_peopleOf p0 q3 p2) fun v12 =>
    setI 8 32 p0 (v11 &&& v12) <|
    getI 8 33 p0 fun v13 =>
    cllV 8 p0 (P_X8_peopleOf p0 q3 p2) fun v14 =>
    setI 8 33 p0 (v13 ||| v14) <|
    k6) fun k15 =>
    ifB (decide (¬ v7 = 0)) (
    getI 8 31 p0 fun v16 =>
    k15 p0 v16) (
    cllV 8 p0 (P_X8_pairOf p0 q3 0 p2) fun v17 =>
    k15 p0 v17)))
def P_X8_laySo (a0 : Nat) (x1 : Int32) : PM Unit :=
cllV 8 a0 (P_X8_layPairs a0) fun _ =>
getR 8 1 a0 fun v1 =>
ald v1 x1 fun v2 =>
setI 8 30 a0 0 <|
setI 8 31 a0 ((-9)) <|
getI 8 10 a0 fun v3 =>
setI 8 32 a0 ((1 <<< (v3 &&& 31)) - 1) <|
setI 8 33 a0 0 <|
P_X8_laySo_41 a0 x1 v2 4000 0
set_option maxHeartbeats 4000000 in
set_option maxRecDepth 100000 in
theorem W_X8_laySo_41 {Γ : Cx} (ok : OKc Γ cX8_laySo RX8 9 "laySo") (okr : OKr Γ cX8_laySo (none)) (p0 : Nat) (p1 : Int32) (p2 : Int32) : ∀ (n : Nat) (q3 : Int32), SW Γ iU 41 [some (.ref p0), some (.int p1), some (.int p2), some (.int q3)] [] (P_X8_laySo_41 p0 p1 p2 n q3) := by
  intro n
  induction n with
  | zero =>
    intros
    exact sw_fail
  | succ n ih =>
    intro q3
    unfold P_X8_laySo_41
    refine sw_iload_n (z := q3) (pc' := 42) ok dX8_laySo_41 rfl rfl ?_
    refine sw_aload_n (z := p0) (pc' := 43) ok dX8_laySo_42 rfl rfl ?_
    refine sw_iload_n (z := p2) (pc' := 44) ok dX8_laySo_43 rfl rfl ?_
    refine sw_cllV_I (st := [.int q3]) (as := [.int p2]) (pc' := 47) ok (S_X8_ways p0 p2) (by decide) lk_X8_236 rfl dX8_laySo_44 rfl (Nat.le_of_ble_eq_true rfl) rfl (fun v4 => ?_)
    refine sw_icmp_ge (tgt := 131) (pc' := 50) ok dX8_laySo_47 (by decide) rfl ?_ ?_
    · exact sw_ret ok okr dX8_laySo_131 trivial rfl
    refine sw_aload_n (z := p0) (pc' := 51) ok dX8_laySo_50 rfl rfl ?_
    refine sw_iload_n (z := q3) (pc' := 52) ok dX8_laySo_51 rfl rfl ?_
    refine sw_iload_n (z := p1) (pc' := 53) ok dX8_laySo_52 rfl rfl ?_
    refine sw_iconst (v := 1) (pc' := 54) ok dX8_laySo_53 rfl cc_iconst_1 ?_
    refine sw_cllV_I (st := []) (as := [.int q3, .int p1, .int 1]) (pc' := 57) ok (S_X8_isSo p0 q3 p1 1) (by decide) lk_X8_261 rfl dX8_laySo_54 rfl (Nat.le_of_ble_eq_true rfl) rfl (fun v5 => ?_)
    refine sw_jn (fun k6 : PM Unit => SW Γ iU 125 [some (.ref p0), some (.int p1), some (.int p2), some (.int q3)] [] (k6)) ?_ (fun k6 hk6 => ?_)
    · refine sw_iinc (z := q3) (v := q3 + 1) (pc' := 128) (l' := [some (.ref p0), some (.int p1), some (.int p2), some (.int (q3 + 1))]) ok dX8_laySo_125 rfl rfl (by rw [cc_iconst_1]) rfl ?_
      refine sw_goto (tgt := 41) ok dX8_laySo_128 (by decide) ?_
      exact ih (q3 + 1)
    refine sw_if_eq (tgt := 125) (pc' := 60) ok dX8_laySo_57 (by decide) rfl ?_ ?_
    · exact hk6
    refine sw_aload_n (z := p0) (pc' := 61) ok dX8_laySo_60 rfl rfl ?_
    refine sw_aload_n (z := p0) (pc' := 62) ok dX8_laySo_61 rfl rfl ?_
    refine sw_getI (pc' := 65) ok (fr_X8_265.g) dX8_laySo_62 rfl (fun v7 => ?_)
    refine sw_jn (fun k15 : Nat → Int32 → PM Unit => ∀ (j8 : Nat) (j9 : Int32), SW Γ iU 82 [some (.ref p0), some (.int p1), some (.int p2), some (.int q3)] [.int j9, .ref j8] (k15 j8 j9)) ?_ (fun k15 hk15 => ?_)
    · intro j8 j9
      refine sw_setI (pc' := 85) ok fr_X8_268 dX8_laySo_82 (fun h => by cases h) rfl ?_
      refine sw_aload_n (z := p0) (pc' := 86) ok dX8_laySo_85 rfl rfl ?_
      refine sw_dup (pc' := 87) ok dX8_laySo_86 rfl rfl ?_
      refine sw_getI (pc' := 90) ok (fr_X8_265.g) dX8_laySo_87 rfl (fun v10 => ?_)
      refine sw_iconst (v := 1) (pc' := 91) ok dX8_laySo_90 rfl cc_iconst_1 ?_
      refine sw_iadd (pc' := 92) ok dX8_laySo_91 rfl ?_
      refine sw_setI (pc' := 95) ok fr_X8_265 dX8_laySo_92 (fun h => by cases h) rfl ?_
      refine sw_aload_n (z := p0) (pc' := 96) ok dX8_laySo_95 rfl rfl ?_
      refine sw_dup (pc' := 97) ok dX8_laySo_96 rfl rfl ?_
      refine sw_getI (pc' := 100) ok (fr_X8_271.g) dX8_laySo_97 rfl (fun v11 => ?_)
      refine sw_aload_n (z := p0) (pc' := 101) ok dX8_laySo_100 rfl rfl ?_
      refine sw_iload_n (z := q3) (pc' := 102) ok dX8_laySo_101 rfl rfl ?_
      refine sw_iload_n (z := p2) (pc' := 103) ok dX8_laySo_102 rfl rfl ?_
      refine sw_cllV_I (st := [.int v11, .ref p0]) (as := [.int q3, .int p2]) (pc' := 106) ok (S_X8_peopleOf p0 q3 p2) (by decide) lk_X8_255 rfl dX8_laySo_103 rfl (Nat.le_of_ble_eq_true rfl) rfl (fun v12 => ?_)
      refine sw_iand (pc' := 107) ok dX8_laySo_106 rfl ?_
      refine sw_setI (pc' := 110) ok fr_X8_271 dX8_laySo_107 (fun h => by cases h) rfl ?_
      refine sw_aload_n (z := p0) (pc' := 111) ok dX8_laySo_110 rfl rfl ?_
      refine sw_dup (pc' := 112) ok dX8_laySo_111 rfl rfl ?_
      refine sw_getI (pc' := 115) ok (fr_X8_274.g) dX8_laySo_112 rfl (fun v13 => ?_)
      refine sw_aload_n (z := p0) (pc' := 116) ok dX8_laySo_115 rfl rfl ?_
      refine sw_iload_n (z := q3) (pc' := 117) ok dX8_laySo_116 rfl rfl ?_
      refine sw_iload_n (z := p2) (pc' := 118) ok dX8_laySo_117 rfl rfl ?_
      refine sw_cllV_I (st := [.int v13, .ref p0]) (as := [.int q3, .int p2]) (pc' := 121) ok (S_X8_peopleOf p0 q3 p2) (by decide) lk_X8_255 rfl dX8_laySo_118 rfl (Nat.le_of_ble_eq_true rfl) rfl (fun v14 => ?_)
      refine sw_ior (pc' := 122) ok dX8_laySo_121 rfl ?_
      refine sw_setI (pc' := 125) ok fr_X8_274 dX8_laySo_122 (fun h => by cases h) rfl ?_
      exact hk6
    refine sw_if_ne (tgt := 78) (pc' := 68) ok dX8_laySo_65 (by decide) rfl ?_ ?_
    · refine sw_aload_n (z := p0) (pc' := 79) ok dX8_laySo_78 rfl rfl ?_
      refine sw_getI (pc' := 82) ok (fr_X8_268.g) dX8_laySo_79 rfl (fun v16 => ?_)
      exact hk15 p0 v16
    refine sw_aload_n (z := p0) (pc' := 69) ok dX8_laySo_68 rfl rfl ?_
    refine sw_iload_n (z := q3) (pc' := 70) ok dX8_laySo_69 rfl rfl ?_
    refine sw_iconst (v := 0) (pc' := 71) ok dX8_laySo_70 rfl cc_iconst_0 ?_
    refine sw_iload_n (z := p2) (pc' := 72) ok dX8_laySo_71 rfl rfl ?_
    refine sw_cllV_I (st := [.ref p0]) (as := [.int q3, .int 0, .int p2]) (pc' := 75) ok (S_X8_pairOf p0 q3 0 p2) (by decide) lk_X8_227 rfl dX8_laySo_72 rfl (Nat.le_of_ble_eq_true rfl) rfl (fun v17 => ?_)
    refine sw_goto (tgt := 82) ok dX8_laySo_75 (by decide) ?_
    exact hk15 p0 v17
set_option maxHeartbeats 4000000 in
set_option maxRecDepth 100000 in
theorem W_X8_laySo {Γ : Cx} (ok : OKc Γ cX8_laySo RX8 9 "laySo") (okr : OKr Γ cX8_laySo (none)) (a0 : Nat) (x1 : Int32) : SW Γ iU 0 [some (.ref a0), some (.int x1), none, none] [] (P_X8_laySo a0 x1) := by
  unfold P_X8_laySo
  refine sw_aload_n (z := a0) (pc' := 1) ok dX8_laySo_0 rfl rfl ?_
  refine sw_cllV_U (st := []) (as := []) (pc' := 4) ok (S_X8_layPairs a0) (by decide) lk_X8_233 rfl dX8_laySo_1 rfl (Nat.le_of_ble_eq_true rfl) rfl (fun _ => ?_)
  refine sw_aload_n (z := a0) (pc' := 5) ok dX8_laySo_4 rfl rfl ?_
  refine sw_getR (pc' := 8) ok (fr_X8_13.g) dX8_laySo_5 rfl (fun v1 => ?_)
  refine sw_iload_n (z := x1) (pc' := 9) ok dX8_laySo_8 rfl rfl ?_
  refine sw_ald (pc' := 10) ok dX8_laySo_9 rfl (fun v2 => ?_)
  refine sw_istore_n (pc' := 11) (l' := [some (.ref a0), some (.int x1), some (.int v2), none]) ok dX8_laySo_10 rfl (Nat.le_of_ble_eq_true rfl) rfl ?_
  refine sw_aload_n (z := a0) (pc' := 12) ok dX8_laySo_11 rfl rfl ?_
  refine sw_iconst (v := 0) (pc' := 13) ok dX8_laySo_12 rfl cc_iconst_0 ?_
  refine sw_setI (pc' := 16) ok fr_X8_265 dX8_laySo_13 (fun h => by cases h) rfl ?_
  refine sw_aload_n (z := a0) (pc' := 17) ok dX8_laySo_16 rfl rfl ?_
  refine sw_bipush (v := (-9)) (pc' := 19) ok dX8_laySo_17 rfl cc_bipush_m9 ?_
  refine sw_setI (pc' := 22) ok fr_X8_268 dX8_laySo_19 (fun h => by cases h) rfl ?_
  refine sw_aload_n (z := a0) (pc' := 23) ok dX8_laySo_22 rfl rfl ?_
  refine sw_iconst (v := 1) (pc' := 24) ok dX8_laySo_23 rfl cc_iconst_1 ?_
  refine sw_aload_n (z := a0) (pc' := 25) ok dX8_laySo_24 rfl rfl ?_
  refine sw_getI (pc' := 28) ok (fr_X8_156.g) dX8_laySo_25 rfl (fun v3 => ?_)
  refine sw_ishl (pc' := 29) ok dX8_laySo_28 rfl ?_
  refine sw_iconst (v := 1) (pc' := 30) ok dX8_laySo_29 rfl cc_iconst_1 ?_
  refine sw_isub (pc' := 31) ok dX8_laySo_30 rfl ?_
  refine sw_setI (pc' := 34) ok fr_X8_271 dX8_laySo_31 (fun h => by cases h) rfl ?_
  refine sw_aload_n (z := a0) (pc' := 35) ok dX8_laySo_34 rfl rfl ?_
  refine sw_iconst (v := 0) (pc' := 36) ok dX8_laySo_35 rfl cc_iconst_0 ?_
  refine sw_setI (pc' := 39) ok fr_X8_274 dX8_laySo_36 (fun h => by cases h) rfl ?_
  refine sw_iconst (v := 0) (pc' := 40) ok dX8_laySo_39 rfl cc_iconst_0 ?_
  refine sw_istore_n (pc' := 41) (l' := [some (.ref a0), some (.int x1), some (.int v2), some (.int 0)]) ok dX8_laySo_40 rfl (Nat.le_of_ble_eq_true rfl) rfl ?_
  exact W_X8_laySo_41 ok okr a0 x1 v2 4000 0
theorem S_X8_laySo (a0 : Nat) (x1 : Int32) : Sim 9 yX8_laySo cX8_laySo 4 (none) iU [.ref a0, .int x1] (P_X8_laySo a0 x1) := Sim.intro wd_1128 (by decide) (by decide +kernel) (Nat.le_of_ble_eq_true rfl) (fun Γ ok okr => W_X8_laySo ok okr a0 x1)
theorem dX8_sagged_0 : decode cX8_sagged 0 = .ok (.iload_n 1, 1) := by decide +kernel
theorem dX8_sagged_1 : decode cX8_sagged 1 = .ok (.invokestatic 86, 3) := by decide +kernel
theorem dX8_sagged_4 : decode cX8_sagged 4 = .ok (.ifCond .ne 5, 3) := by decide +kernel
theorem dX8_sagged_7 : decode cX8_sagged 7 = .ok (.iconst (-1), 1) := by decide +kernel
theorem dX8_sagged_8 : decode cX8_sagged 8 = .ok (.ireturn, 1) := by decide +kernel
theorem dX8_sagged_9 : decode cX8_sagged 9 = .ok (.aload_n 0, 1) := by decide +kernel
theorem dX8_sagged_10 : decode cX8_sagged 10 = .ok (.getfield 156, 3) := by decide +kernel
theorem dX8_sagged_13 : decode cX8_sagged 13 = .ok (.ifCond .ne 6, 3) := by decide +kernel
theorem dX8_sagged_16 : decode cX8_sagged 16 = .ok (.bipush (-4), 2) := by decide +kernel
theorem dX8_sagged_18 : decode cX8_sagged 18 = .ok (.ireturn, 1) := by decide +kernel
theorem dX8_sagged_19 : decode cX8_sagged 19 = .ok (.aload_n 0, 1) := by decide +kernel
theorem dX8_sagged_20 : decode cX8_sagged 20 = .ok (.iload_n 1, 1) := by decide +kernel
theorem dX8_sagged_21 : decode cX8_sagged 21 = .ok (.invokevirtual 252, 3) := by decide +kernel
theorem dX8_sagged_24 : decode cX8_sagged 24 = .ok (.istore_n 2, 1) := by decide +kernel
theorem dX8_sagged_25 : decode cX8_sagged 25 = .ok (.iload_n 2, 1) := by decide +kernel
theorem dX8_sagged_26 : decode cX8_sagged 26 = .ok (.ifCond .le 9, 3) := by decide +kernel
theorem dX8_sagged_29 : decode cX8_sagged 29 = .ok (.aload_n 0, 1) := by decide +kernel
theorem dX8_sagged_30 : decode cX8_sagged 30 = .ok (.iload_n 2, 1) := by decide +kernel
theorem dX8_sagged_31 : decode cX8_sagged 31 = .ok (.invokevirtual 90, 3) := by decide +kernel
theorem dX8_sagged_34 : decode cX8_sagged 34 = .ok (.ireturn, 1) := by decide +kernel
theorem dX8_sagged_35 : decode cX8_sagged 35 = .ok (.aload_n 0, 1) := by decide +kernel
theorem dX8_sagged_36 : decode cX8_sagged 36 = .ok (.iload_n 1, 1) := by decide +kernel
theorem dX8_sagged_37 : decode cX8_sagged 37 = .ok (.invokevirtual 277, 3) := by decide +kernel
theorem dX8_sagged_40 : decode cX8_sagged 40 = .ok (.aload_n 0, 1) := by decide +kernel
theorem dX8_sagged_41 : decode cX8_sagged 41 = .ok (.aload_n 0, 1) := by decide +kernel
theorem dX8_sagged_42 : decode cX8_sagged 42 = .ok (.getfield 265, 3) := by decide +kernel
theorem dX8_sagged_45 : decode cX8_sagged 45 = .ok (.i2l, 1) := by decide +kernel
theorem dX8_sagged_46 : decode cX8_sagged 46 = .ok (.putfield 280, 3) := by decide +kernel
theorem dX8_sagged_49 : decode cX8_sagged 49 = .ok (.aload_n 0, 1) := by decide +kernel
theorem dX8_sagged_50 : decode cX8_sagged 50 = .ok (.lconst 1, 1) := by decide +kernel
theorem dX8_sagged_51 : decode cX8_sagged 51 = .ok (.putfield 43, 3) := by decide +kernel
theorem dX8_sagged_54 : decode cX8_sagged 54 = .ok (.aload_n 0, 1) := by decide +kernel
theorem dX8_sagged_55 : decode cX8_sagged 55 = .ok (.aload_n 0, 1) := by decide +kernel
theorem dX8_sagged_56 : decode cX8_sagged 56 = .ok (.getfield 268, 3) := by decide +kernel
theorem dX8_sagged_59 : decode cX8_sagged 59 = .ok (.putfield 98, 3) := by decide +kernel
theorem dX8_sagged_62 : decode cX8_sagged 62 = .ok (.iconst 1, 1) := by decide +kernel
theorem dX8_sagged_63 : decode cX8_sagged 63 = .ok (.ireturn, 1) := by decide +kernel
def P_X8_sagged (a0 : Nat) (x1 : Int32) : PM Int32 :=
cll0 (P_X8_isRow x1) fun v1 =>
ifB (decide (¬ v1 = 0)) (
getI 8 10 a0 fun v2 =>
ifB (decide (¬ v2 = 0)) (
cllV 8 a0 (P_X8_refusedStrengths a0 x1) fun v3 =>
ifB (decide (v3 ≤ 0)) (
cllV 8 a0 (P_X8_laySo a0 x1) fun _ =>
getI 8 30 a0 fun v4 =>
setL 8 15 a0 (Int32.toInt64 v4) <|
setL 8 16 a0 1 <|
getI 8 31 a0 fun v5 =>
setI 8 14 a0 v5 <|
pureM 1) (
cllV 8 a0 (P_X8_refuse a0 v3) fun v6 =>
pureM v6)) (
pureM ((-4)))) (
pureM ((-1)))
set_option maxHeartbeats 4000000 in
set_option maxRecDepth 100000 in
theorem W_X8_sagged {Γ : Cx} (ok : OKc Γ cX8_sagged RX8 10 "sagged") (okr : OKr Γ cX8_sagged (some .int)) (a0 : Nat) (x1 : Int32) : SW Γ iI 0 [some (.ref a0), some (.int x1), none] [] (P_X8_sagged a0 x1) := by
  unfold P_X8_sagged
  refine sw_iload_n (z := x1) (pc' := 1) ok dX8_sagged_0 rfl rfl ?_
  refine sw_cll0_I (st := []) (as := [.int x1]) (pc' := 4) ok (S_X8_isRow x1) (by decide) lk_X8_86 rfl dX8_sagged_1 rfl (Nat.le_of_ble_eq_true rfl) rfl (fun v1 => ?_)
  refine sw_if_ne (tgt := 9) (pc' := 7) ok dX8_sagged_4 (by decide) rfl ?_ ?_
  · refine sw_aload_n (z := a0) (pc' := 10) ok dX8_sagged_9 rfl rfl ?_
    refine sw_getI (pc' := 13) ok (fr_X8_156.g) dX8_sagged_10 rfl (fun v2 => ?_)
    refine sw_if_ne (tgt := 19) (pc' := 16) ok dX8_sagged_13 (by decide) rfl ?_ ?_
    · refine sw_aload_n (z := a0) (pc' := 20) ok dX8_sagged_19 rfl rfl ?_
      refine sw_iload_n (z := x1) (pc' := 21) ok dX8_sagged_20 rfl rfl ?_
      refine sw_cllV_I (st := []) (as := [.int x1]) (pc' := 24) ok (S_X8_refusedStrengths a0 x1) (by decide) lk_X8_252 rfl dX8_sagged_21 rfl (Nat.le_of_ble_eq_true rfl) rfl (fun v3 => ?_)
      refine sw_istore_n (pc' := 25) (l' := [some (.ref a0), some (.int x1), some (.int v3)]) ok dX8_sagged_24 rfl (Nat.le_of_ble_eq_true rfl) rfl ?_
      refine sw_iload_n (z := v3) (pc' := 26) ok dX8_sagged_25 rfl rfl ?_
      refine sw_if_le (tgt := 35) (pc' := 29) ok dX8_sagged_26 (by decide) rfl ?_ ?_
      · refine sw_aload_n (z := a0) (pc' := 36) ok dX8_sagged_35 rfl rfl ?_
        refine sw_iload_n (z := x1) (pc' := 37) ok dX8_sagged_36 rfl rfl ?_
        refine sw_cllV_U (st := []) (as := [.int x1]) (pc' := 40) ok (S_X8_laySo a0 x1) (by decide) lk_X8_277 rfl dX8_sagged_37 rfl (Nat.le_of_ble_eq_true rfl) rfl (fun _ => ?_)
        refine sw_aload_n (z := a0) (pc' := 41) ok dX8_sagged_40 rfl rfl ?_
        refine sw_aload_n (z := a0) (pc' := 42) ok dX8_sagged_41 rfl rfl ?_
        refine sw_getI (pc' := 45) ok (fr_X8_265.g) dX8_sagged_42 rfl (fun v4 => ?_)
        refine sw_i2l (pc' := 46) ok dX8_sagged_45 rfl ?_
        refine sw_setL (pc' := 49) ok fr_X8_280 dX8_sagged_46 (fun h => by cases h) rfl ?_
        refine sw_aload_n (z := a0) (pc' := 50) ok dX8_sagged_49 rfl rfl ?_
        refine sw_lconst (v := 1) (pc' := 51) ok dX8_sagged_50 rfl cc_lconst_1 ?_
        refine sw_setL (pc' := 54) ok fr_X8_43 dX8_sagged_51 (fun h => by cases h) rfl ?_
        refine sw_aload_n (z := a0) (pc' := 55) ok dX8_sagged_54 rfl rfl ?_
        refine sw_aload_n (z := a0) (pc' := 56) ok dX8_sagged_55 rfl rfl ?_
        refine sw_getI (pc' := 59) ok (fr_X8_268.g) dX8_sagged_56 rfl (fun v5 => ?_)
        refine sw_setI (pc' := 62) ok fr_X8_98 dX8_sagged_59 (fun h => by cases h) rfl ?_
        refine sw_iconst (v := 1) (pc' := 63) ok dX8_sagged_62 rfl cc_iconst_1 ?_
        exact sw_ret ok okr dX8_sagged_63 trivial rfl
      refine sw_aload_n (z := a0) (pc' := 30) ok dX8_sagged_29 rfl rfl ?_
      refine sw_iload_n (z := v3) (pc' := 31) ok dX8_sagged_30 rfl rfl ?_
      refine sw_cllV_I (st := []) (as := [.int v3]) (pc' := 34) ok (S_X8_refuse a0 v3) (by decide) lk_X8_90 rfl dX8_sagged_31 rfl (Nat.le_of_ble_eq_true rfl) rfl (fun v6 => ?_)
      exact sw_ret ok okr dX8_sagged_34 trivial rfl
    refine sw_bipush (v := (-4)) (pc' := 18) ok dX8_sagged_16 rfl cc_bipush_m4 ?_
    exact sw_ret ok okr dX8_sagged_18 trivial rfl
  refine sw_iconst (v := (-1)) (pc' := 8) ok dX8_sagged_7 rfl cc_iconst_m1 ?_
  exact sw_ret ok okr dX8_sagged_8 trivial rfl
theorem S_X8_sagged (a0 : Nat) (x1 : Int32) : Sim 10 yX8_sagged cX8_sagged 3 (some .int) iI [.ref a0, .int x1] (P_X8_sagged a0 x1) := Sim.intro wd_1129 (by decide) (by decide +kernel) (Nat.le_of_ble_eq_true rfl) (fun Γ ok okr => W_X8_sagged ok okr a0 x1)
theorem dX8_sure_0 : decode cX8_sure 0 = .ok (.iload_n 1, 1) := by decide +kernel
theorem dX8_sure_1 : decode cX8_sure 1 = .ok (.invokestatic 86, 3) := by decide +kernel
theorem dX8_sure_4 : decode cX8_sure 4 = .ok (.ifCond .ne 5, 3) := by decide +kernel
theorem dX8_sure_7 : decode cX8_sure 7 = .ok (.iconst (-1), 1) := by decide +kernel
theorem dX8_sure_8 : decode cX8_sure 8 = .ok (.ireturn, 1) := by decide +kernel
theorem dX8_sure_9 : decode cX8_sure 9 = .ok (.aload_n 0, 1) := by decide +kernel
theorem dX8_sure_10 : decode cX8_sure 10 = .ok (.getfield 156, 3) := by decide +kernel
theorem dX8_sure_13 : decode cX8_sure 13 = .ok (.ifCond .ne 6, 3) := by decide +kernel
theorem dX8_sure_16 : decode cX8_sure 16 = .ok (.bipush (-4), 2) := by decide +kernel
theorem dX8_sure_18 : decode cX8_sure 18 = .ok (.ireturn, 1) := by decide +kernel
theorem dX8_sure_19 : decode cX8_sure 19 = .ok (.aload_n 0, 1) := by decide +kernel
theorem dX8_sure_20 : decode cX8_sure 20 = .ok (.iload_n 1, 1) := by decide +kernel
theorem dX8_sure_21 : decode cX8_sure 21 = .ok (.invokevirtual 252, 3) := by decide +kernel
theorem dX8_sure_24 : decode cX8_sure 24 = .ok (.istore_n 2, 1) := by decide +kernel
theorem dX8_sure_25 : decode cX8_sure 25 = .ok (.iload_n 2, 1) := by decide +kernel
theorem dX8_sure_26 : decode cX8_sure 26 = .ok (.ifCond .le 9, 3) := by decide +kernel
theorem dX8_sure_29 : decode cX8_sure 29 = .ok (.aload_n 0, 1) := by decide +kernel
theorem dX8_sure_30 : decode cX8_sure 30 = .ok (.iload_n 2, 1) := by decide +kernel
theorem dX8_sure_31 : decode cX8_sure 31 = .ok (.invokevirtual 90, 3) := by decide +kernel
theorem dX8_sure_34 : decode cX8_sure 34 = .ok (.ireturn, 1) := by decide +kernel
theorem dX8_sure_35 : decode cX8_sure 35 = .ok (.aload_n 0, 1) := by decide +kernel
theorem dX8_sure_36 : decode cX8_sure 36 = .ok (.iload_n 1, 1) := by decide +kernel
theorem dX8_sure_37 : decode cX8_sure 37 = .ok (.invokevirtual 277, 3) := by decide +kernel
theorem dX8_sure_40 : decode cX8_sure 40 = .ok (.aload_n 0, 1) := by decide +kernel
theorem dX8_sure_41 : decode cX8_sure 41 = .ok (.getfield 265, 3) := by decide +kernel
theorem dX8_sure_44 : decode cX8_sure 44 = .ok (.ifCond .ne 9, 3) := by decide +kernel
theorem dX8_sure_47 : decode cX8_sure 47 = .ok (.aload_n 0, 1) := by decide +kernel
theorem dX8_sure_48 : decode cX8_sure 48 = .ok (.iconst 4, 1) := by decide +kernel
theorem dX8_sure_49 : decode cX8_sure 49 = .ok (.invokevirtual 90, 3) := by decide +kernel
theorem dX8_sure_52 : decode cX8_sure 52 = .ok (.ireturn, 1) := by decide +kernel
theorem dX8_sure_53 : decode cX8_sure 53 = .ok (.aload_n 0, 1) := by decide +kernel
theorem dX8_sure_54 : decode cX8_sure 54 = .ok (.iconst 1, 1) := by decide +kernel
theorem dX8_sure_55 : decode cX8_sure 55 = .ok (.aload_n 0, 1) := by decide +kernel
theorem dX8_sure_56 : decode cX8_sure 56 = .ok (.getfield 156, 3) := by decide +kernel
theorem dX8_sure_59 : decode cX8_sure 59 = .ok (.ishl, 1) := by decide +kernel
theorem dX8_sure_60 : decode cX8_sure 60 = .ok (.iconst 1, 1) := by decide +kernel
theorem dX8_sure_61 : decode cX8_sure 61 = .ok (.isub, 1) := by decide +kernel
theorem dX8_sure_62 : decode cX8_sure 62 = .ok (.aload_n 0, 1) := by decide +kernel
theorem dX8_sure_63 : decode cX8_sure 63 = .ok (.getfield 274, 3) := by decide +kernel
theorem dX8_sure_66 : decode cX8_sure 66 = .ok (.iconst (-1), 1) := by decide +kernel
theorem dX8_sure_67 : decode cX8_sure 67 = .ok (.ixor, 1) := by decide +kernel
theorem dX8_sure_68 : decode cX8_sure 68 = .ok (.iand, 1) := by decide +kernel
theorem dX8_sure_69 : decode cX8_sure 69 = .ok (.putfield 98, 3) := by decide +kernel
theorem dX8_sure_72 : decode cX8_sure 72 = .ok (.aload_n 0, 1) := by decide +kernel
theorem dX8_sure_73 : decode cX8_sure 73 = .ok (.getfield 271, 3) := by decide +kernel
theorem dX8_sure_76 : decode cX8_sure 76 = .ok (.ireturn, 1) := by decide +kernel
def P_X8_sure (a0 : Nat) (x1 : Int32) : PM Int32 :=
cll0 (P_X8_isRow x1) fun v1 =>
ifB (decide (¬ v1 = 0)) (
getI 8 10 a0 fun v2 =>
ifB (decide (¬ v2 = 0)) (
cllV 8 a0 (P_X8_refusedStrengths a0 x1) fun v3 =>
ifB (decide (v3 ≤ 0)) (
cllV 8 a0 (P_X8_laySo a0 x1) fun _ =>
getI 8 30 a0 fun v4 =>
ifB (decide (¬ v4 = 0)) (
getI 8 10 a0 fun v5 =>
getI 8 33 a0 fun v6 =>
setI 8 14 a0 (((1 <<< (v5 &&& 31)) - 1) &&& (v6 ^^^ ((-1)))) <|
getI 8 32 a0 fun v7 =>
pureM v7) (
cllV 8 a0 (P_X8_refuse a0 4) fun v8 =>
pureM v8)) (
cllV 8 a0 (P_X8_refuse a0 v3) fun v9 =>
pureM v9)) (
pureM ((-4)))) (
pureM ((-1)))
set_option maxHeartbeats 4000000 in
set_option maxRecDepth 100000 in
theorem W_X8_sure {Γ : Cx} (ok : OKc Γ cX8_sure RX8 10 "sure") (okr : OKr Γ cX8_sure (some .int)) (a0 : Nat) (x1 : Int32) : SW Γ iI 0 [some (.ref a0), some (.int x1), none] [] (P_X8_sure a0 x1) := by
  unfold P_X8_sure
  refine sw_iload_n (z := x1) (pc' := 1) ok dX8_sure_0 rfl rfl ?_
  refine sw_cll0_I (st := []) (as := [.int x1]) (pc' := 4) ok (S_X8_isRow x1) (by decide) lk_X8_86 rfl dX8_sure_1 rfl (Nat.le_of_ble_eq_true rfl) rfl (fun v1 => ?_)
  refine sw_if_ne (tgt := 9) (pc' := 7) ok dX8_sure_4 (by decide) rfl ?_ ?_
  · refine sw_aload_n (z := a0) (pc' := 10) ok dX8_sure_9 rfl rfl ?_
    refine sw_getI (pc' := 13) ok (fr_X8_156.g) dX8_sure_10 rfl (fun v2 => ?_)
    refine sw_if_ne (tgt := 19) (pc' := 16) ok dX8_sure_13 (by decide) rfl ?_ ?_
    · refine sw_aload_n (z := a0) (pc' := 20) ok dX8_sure_19 rfl rfl ?_
      refine sw_iload_n (z := x1) (pc' := 21) ok dX8_sure_20 rfl rfl ?_
      refine sw_cllV_I (st := []) (as := [.int x1]) (pc' := 24) ok (S_X8_refusedStrengths a0 x1) (by decide) lk_X8_252 rfl dX8_sure_21 rfl (Nat.le_of_ble_eq_true rfl) rfl (fun v3 => ?_)
      refine sw_istore_n (pc' := 25) (l' := [some (.ref a0), some (.int x1), some (.int v3)]) ok dX8_sure_24 rfl (Nat.le_of_ble_eq_true rfl) rfl ?_
      refine sw_iload_n (z := v3) (pc' := 26) ok dX8_sure_25 rfl rfl ?_
      refine sw_if_le (tgt := 35) (pc' := 29) ok dX8_sure_26 (by decide) rfl ?_ ?_
      · refine sw_aload_n (z := a0) (pc' := 36) ok dX8_sure_35 rfl rfl ?_
        refine sw_iload_n (z := x1) (pc' := 37) ok dX8_sure_36 rfl rfl ?_
        refine sw_cllV_U (st := []) (as := [.int x1]) (pc' := 40) ok (S_X8_laySo a0 x1) (by decide) lk_X8_277 rfl dX8_sure_37 rfl (Nat.le_of_ble_eq_true rfl) rfl (fun _ => ?_)
        refine sw_aload_n (z := a0) (pc' := 41) ok dX8_sure_40 rfl rfl ?_
        refine sw_getI (pc' := 44) ok (fr_X8_265.g) dX8_sure_41 rfl (fun v4 => ?_)
        refine sw_if_ne (tgt := 53) (pc' := 47) ok dX8_sure_44 (by decide) rfl ?_ ?_
        · refine sw_aload_n (z := a0) (pc' := 54) ok dX8_sure_53 rfl rfl ?_
          refine sw_iconst (v := 1) (pc' := 55) ok dX8_sure_54 rfl cc_iconst_1 ?_
          refine sw_aload_n (z := a0) (pc' := 56) ok dX8_sure_55 rfl rfl ?_
          refine sw_getI (pc' := 59) ok (fr_X8_156.g) dX8_sure_56 rfl (fun v5 => ?_)
          refine sw_ishl (pc' := 60) ok dX8_sure_59 rfl ?_
          refine sw_iconst (v := 1) (pc' := 61) ok dX8_sure_60 rfl cc_iconst_1 ?_
          refine sw_isub (pc' := 62) ok dX8_sure_61 rfl ?_
          refine sw_aload_n (z := a0) (pc' := 63) ok dX8_sure_62 rfl rfl ?_
          refine sw_getI (pc' := 66) ok (fr_X8_274.g) dX8_sure_63 rfl (fun v6 => ?_)
          refine sw_iconst (v := (-1)) (pc' := 67) ok dX8_sure_66 rfl cc_iconst_m1 ?_
          refine sw_ixor (pc' := 68) ok dX8_sure_67 rfl ?_
          refine sw_iand (pc' := 69) ok dX8_sure_68 rfl ?_
          refine sw_setI (pc' := 72) ok fr_X8_98 dX8_sure_69 (fun h => by cases h) rfl ?_
          refine sw_aload_n (z := a0) (pc' := 73) ok dX8_sure_72 rfl rfl ?_
          refine sw_getI (pc' := 76) ok (fr_X8_271.g) dX8_sure_73 rfl (fun v7 => ?_)
          exact sw_ret ok okr dX8_sure_76 trivial rfl
        refine sw_aload_n (z := a0) (pc' := 48) ok dX8_sure_47 rfl rfl ?_
        refine sw_iconst (v := 4) (pc' := 49) ok dX8_sure_48 rfl cc_iconst_4 ?_
        refine sw_cllV_I (st := []) (as := [.int 4]) (pc' := 52) ok (S_X8_refuse a0 4) (by decide) lk_X8_90 rfl dX8_sure_49 rfl (Nat.le_of_ble_eq_true rfl) rfl (fun v8 => ?_)
        exact sw_ret ok okr dX8_sure_52 trivial rfl
      refine sw_aload_n (z := a0) (pc' := 30) ok dX8_sure_29 rfl rfl ?_
      refine sw_iload_n (z := v3) (pc' := 31) ok dX8_sure_30 rfl rfl ?_
      refine sw_cllV_I (st := []) (as := [.int v3]) (pc' := 34) ok (S_X8_refuse a0 v3) (by decide) lk_X8_90 rfl dX8_sure_31 rfl (Nat.le_of_ble_eq_true rfl) rfl (fun v9 => ?_)
      exact sw_ret ok okr dX8_sure_34 trivial rfl
    refine sw_bipush (v := (-4)) (pc' := 18) ok dX8_sure_16 rfl cc_bipush_m4 ?_
    exact sw_ret ok okr dX8_sure_18 trivial rfl
  refine sw_iconst (v := (-1)) (pc' := 8) ok dX8_sure_7 rfl cc_iconst_m1 ?_
  exact sw_ret ok okr dX8_sure_8 trivial rfl
theorem S_X8_sure (a0 : Nat) (x1 : Int32) : Sim 10 yX8_sure cX8_sure 3 (some .int) iI [.ref a0, .int x1] (P_X8_sure a0 x1) := Sim.intro wd_1130 (by decide) (by decide +kernel) (Nat.le_of_ble_eq_true rfl) (fun Γ ok okr => W_X8_sure ok okr a0 x1)
