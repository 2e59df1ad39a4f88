/-! Programs and walks, printed by program (gen.py). -/
theorem dX8_layWay_0 : decode cX8_layWay 0 = .ok (.iload_n 1, 1) := by decide +kernel
theorem dX8_layWay_1 : decode cX8_layWay 1 = .ok (.istore_n 2, 1) := by decide +kernel
theorem dX8_layWay_2 : decode cX8_layWay 2 = .ok (.aload_n 0, 1) := by decide +kernel
theorem dX8_layWay_3 : decode cX8_layWay 3 = .ok (.getfield 156, 3) := by decide +kernel
theorem dX8_layWay_6 : decode cX8_layWay 6 = .ok (.iconst 2, 1) := by decide +kernel
theorem dX8_layWay_7 : decode cX8_layWay 7 = .ok (.irem, 1) := by decide +kernel
theorem dX8_layWay_8 : decode cX8_layWay 8 = .ok (.istore_n 3, 1) := by decide +kernel
theorem dX8_layWay_9 : decode cX8_layWay 9 = .ok (.iconst 0, 1) := by decide +kernel
theorem dX8_layWay_10 : decode cX8_layWay 10 = .ok (.istore 4, 2) := by decide +kernel
theorem dX8_layWay_12 : decode cX8_layWay 12 = .ok (.iconst 0, 1) := by decide +kernel
theorem dX8_layWay_13 : decode cX8_layWay 13 = .ok (.istore 5, 2) := by decide +kernel
theorem dX8_layWay_15 : decode cX8_layWay 15 = .ok (.iload 5, 2) := by decide +kernel
theorem dX8_layWay_17 : decode cX8_layWay 17 = .ok (.aload_n 0, 1) := by decide +kernel
theorem dX8_layWay_18 : decode cX8_layWay 18 = .ok (.getfield 156, 3) := by decide +kernel
theorem dX8_layWay_21 : decode cX8_layWay 21 = .ok (.if_icmp .ge 18, 3) := by decide +kernel
theorem dX8_layWay_24 : decode cX8_layWay 24 = .ok (.aload_n 0, 1) := by decide +kernel
theorem dX8_layWay_25 : decode cX8_layWay 25 = .ok (.getfield 65, 3) := by decide +kernel
theorem dX8_layWay_28 : decode cX8_layWay 28 = .ok (.iload 5, 2) := by decide +kernel
theorem dX8_layWay_30 : decode cX8_layWay 30 = .ok (.bipush (-2), 2) := by decide +kernel
theorem dX8_layWay_32 : decode cX8_layWay 32 = .ok (.iastore, 1) := by decide +kernel
theorem dX8_layWay_33 : decode cX8_layWay 33 = .ok (.iinc 5 1, 3) := by decide +kernel
theorem dX8_layWay_36 : decode cX8_layWay 36 = .ok (.goto (-21), 3) := by decide +kernel
theorem dX8_layWay_39 : decode cX8_layWay 39 = .ok (.iconst 0, 1) := by decide +kernel
theorem dX8_layWay_40 : decode cX8_layWay 40 = .ok (.istore 5, 2) := by decide +kernel
theorem dX8_layWay_42 : decode cX8_layWay 42 = .ok (.iload 5, 2) := by decide +kernel
theorem dX8_layWay_44 : decode cX8_layWay 44 = .ok (.aload_n 0, 1) := by decide +kernel
theorem dX8_layWay_45 : decode cX8_layWay 45 = .ok (.getfield 156, 3) := by decide +kernel
theorem dX8_layWay_48 : decode cX8_layWay 48 = .ok (.if_icmp .ge 152, 3) := by decide +kernel
theorem dX8_layWay_51 : decode cX8_layWay 51 = .ok (.aload_n 0, 1) := by decide +kernel
theorem dX8_layWay_52 : decode cX8_layWay 52 = .ok (.getfield 65, 3) := by decide +kernel
theorem dX8_layWay_55 : decode cX8_layWay 55 = .ok (.iload 5, 2) := by decide +kernel
theorem dX8_layWay_57 : decode cX8_layWay 57 = .ok (.iaload, 1) := by decide +kernel
theorem dX8_layWay_58 : decode cX8_layWay 58 = .ok (.bipush (-2), 2) := by decide +kernel
theorem dX8_layWay_60 : decode cX8_layWay 60 = .ok (.if_icmp .ne 134, 3) := by decide +kernel
theorem dX8_layWay_63 : decode cX8_layWay 63 = .ok (.iload_n 2, 1) := by decide +kernel
theorem dX8_layWay_64 : decode cX8_layWay 64 = .ok (.aload_n 0, 1) := by decide +kernel
theorem dX8_layWay_65 : decode cX8_layWay 65 = .ok (.getfield 156, 3) := by decide +kernel
theorem dX8_layWay_68 : decode cX8_layWay 68 = .ok (.iconst 1, 1) := by decide +kernel
theorem dX8_layWay_69 : decode cX8_layWay 69 = .ok (.iadd, 1) := by decide +kernel
theorem dX8_layWay_70 : decode cX8_layWay 70 = .ok (.irem, 1) := by decide +kernel
theorem dX8_layWay_71 : decode cX8_layWay 71 = .ok (.iconst 1, 1) := by decide +kernel
theorem dX8_layWay_72 : decode cX8_layWay 72 = .ok (.isub, 1) := by decide +kernel
theorem dX8_layWay_73 : decode cX8_layWay 73 = .ok (.istore 6, 2) := by decide +kernel
theorem dX8_layWay_75 : decode cX8_layWay 75 = .ok (.iload_n 2, 1) := by decide +kernel
theorem dX8_layWay_76 : decode cX8_layWay 76 = .ok (.aload_n 0, 1) := by decide +kernel
theorem dX8_layWay_77 : decode cX8_layWay 77 = .ok (.getfield 156, 3) := by decide +kernel
theorem dX8_layWay_80 : decode cX8_layWay 80 = .ok (.iconst 1, 1) := by decide +kernel
theorem dX8_layWay_81 : decode cX8_layWay 81 = .ok (.iadd, 1) := by decide +kernel
theorem dX8_layWay_82 : decode cX8_layWay 82 = .ok (.idiv, 1) := by decide +kernel
theorem dX8_layWay_83 : decode cX8_layWay 83 = .ok (.istore_n 2, 1) := by decide +kernel
theorem dX8_layWay_84 : decode cX8_layWay 84 = .ok (.iload 6, 2) := by decide +kernel
theorem dX8_layWay_86 : decode cX8_layWay 86 = .ok (.ifCond .ge 15, 3) := by decide +kernel
theorem dX8_layWay_89 : decode cX8_layWay 89 = .ok (.iload_n 3, 1) := by decide +kernel
theorem dX8_layWay_90 : decode cX8_layWay 90 = .ok (.ifCond .le 7, 3) := by decide +kernel
theorem dX8_layWay_93 : decode cX8_layWay 93 = .ok (.iconst 1, 1) := by decide +kernel
theorem dX8_layWay_94 : decode cX8_layWay 94 = .ok (.goto 31, 3) := by decide +kernel
theorem dX8_layWay_97 : decode cX8_layWay 97 = .ok (.iconst 0, 1) := by decide +kernel
theorem dX8_layWay_98 : decode cX8_layWay 98 = .ok (.goto 27, 3) := by decide +kernel
theorem dX8_layWay_101 : decode cX8_layWay 101 = .ok (.iload 6, 2) := by decide +kernel
theorem dX8_layWay_103 : decode cX8_layWay 103 = .ok (.iload 5, 2) := by decide +kernel
theorem dX8_layWay_105 : decode cX8_layWay 105 = .ok (.if_icmp .le 19, 3) := by decide +kernel
theorem dX8_layWay_108 : decode cX8_layWay 108 = .ok (.aload_n 0, 1) := by decide +kernel
theorem dX8_layWay_109 : decode cX8_layWay 109 = .ok (.getfield 65, 3) := by decide +kernel
theorem dX8_layWay_112 : decode cX8_layWay 112 = .ok (.iload 6, 2) := by decide +kernel
theorem dX8_layWay_114 : decode cX8_layWay 114 = .ok (.iaload, 1) := by decide +kernel
theorem dX8_layWay_115 : decode cX8_layWay 115 = .ok (.bipush (-2), 2) := by decide +kernel
theorem dX8_layWay_117 : decode cX8_layWay 117 = .ok (.if_icmp .ne 7, 3) := by decide +kernel
theorem dX8_layWay_120 : decode cX8_layWay 120 = .ok (.iconst 1, 1) := by decide +kernel
theorem dX8_layWay_121 : decode cX8_layWay 121 = .ok (.goto 4, 3) := by decide +kernel
theorem dX8_layWay_124 : decode cX8_layWay 124 = .ok (.iconst 0, 1) := by decide +kernel
theorem dX8_layWay_125 : decode cX8_layWay 125 = .ok (.istore 7, 2) := by decide +kernel
theorem dX8_layWay_127 : decode cX8_layWay 127 = .ok (.iload 7, 2) := by decide +kernel
theorem dX8_layWay_129 : decode cX8_layWay 129 = .ok (.ifCond .ne 5, 3) := by decide +kernel
theorem dX8_layWay_132 : decode cX8_layWay 132 = .ok (.iconst (-1), 1) := by decide +kernel
theorem dX8_layWay_133 : decode cX8_layWay 133 = .ok (.ireturn, 1) := by decide +kernel
theorem dX8_layWay_134 : decode cX8_layWay 134 = .ok (.iload_n 3, 1) := by decide +kernel
theorem dX8_layWay_135 : decode cX8_layWay 135 = .ok (.iload 6, 2) := by decide +kernel
theorem dX8_layWay_137 : decode cX8_layWay 137 = .ok (.ifCond .ge 7, 3) := by decide +kernel
theorem dX8_layWay_140 : decode cX8_layWay 140 = .ok (.iconst 1, 1) := by decide +kernel
theorem dX8_layWay_141 : decode cX8_layWay 141 = .ok (.goto 4, 3) := by decide +kernel
theorem dX8_layWay_144 : decode cX8_layWay 144 = .ok (.iconst 0, 1) := by decide +kernel
theorem dX8_layWay_145 : decode cX8_layWay 145 = .ok (.isub, 1) := by decide +kernel
theorem dX8_layWay_146 : decode cX8_layWay 146 = .ok (.istore_n 3, 1) := by decide +kernel
theorem dX8_layWay_147 : decode cX8_layWay 147 = .ok (.aload_n 0, 1) := by decide +kernel
theorem dX8_layWay_148 : decode cX8_layWay 148 = .ok (.getfield 65, 3) := by decide +kernel
theorem dX8_layWay_151 : decode cX8_layWay 151 = .ok (.iload 5, 2) := by decide +kernel
theorem dX8_layWay_153 : decode cX8_layWay 153 = .ok (.iload 6, 2) := by decide +kernel
theorem dX8_layWay_155 : decode cX8_layWay 155 = .ok (.ifCond .ge 8, 3) := by decide +kernel
theorem dX8_layWay_158 : decode cX8_layWay 158 = .ok (.bipush (-9), 2) := by decide +kernel
theorem dX8_layWay_160 : decode cX8_layWay 160 = .ok (.goto 5, 3) := by decide +kernel
theorem dX8_layWay_163 : decode cX8_layWay 163 = .ok (.iload 6, 2) := by decide +kernel
theorem dX8_layWay_165 : decode cX8_layWay 165 = .ok (.iastore, 1) := by decide +kernel
theorem dX8_layWay_166 : decode cX8_layWay 166 = .ok (.iload 6, 2) := by decide +kernel
theorem dX8_layWay_168 : decode cX8_layWay 168 = .ok (.ifCond .lt 26, 3) := by decide +kernel
theorem dX8_layWay_171 : decode cX8_layWay 171 = .ok (.aload_n 0, 1) := by decide +kernel
theorem dX8_layWay_172 : decode cX8_layWay 172 = .ok (.getfield 65, 3) := by decide +kernel
theorem dX8_layWay_175 : decode cX8_layWay 175 = .ok (.iload 6, 2) := by decide +kernel
theorem dX8_layWay_177 : decode cX8_layWay 177 = .ok (.iload 5, 2) := by decide +kernel
theorem dX8_layWay_179 : decode cX8_layWay 179 = .ok (.iastore, 1) := by decide +kernel
theorem dX8_layWay_180 : decode cX8_layWay 180 = .ok (.iload 4, 2) := by decide +kernel
theorem dX8_layWay_182 : decode cX8_layWay 182 = .ok (.aload_n 0, 1) := by decide +kernel
theorem dX8_layWay_183 : decode cX8_layWay 183 = .ok (.iconst 0, 1) := by decide +kernel
theorem dX8_layWay_184 : decode cX8_layWay 184 = .ok (.iload 5, 2) := by decide +kernel
theorem dX8_layWay_186 : decode cX8_layWay 186 = .ok (.iload 6, 2) := by decide +kernel
theorem dX8_layWay_188 : decode cX8_layWay 188 = .ok (.invokevirtual 201, 3) := by decide +kernel
theorem dX8_layWay_191 : decode cX8_layWay 191 = .ok (.iadd, 1) := by decide +kernel
theorem dX8_layWay_192 : decode cX8_layWay 192 = .ok (.istore 4, 2) := by decide +kernel
theorem dX8_layWay_194 : decode cX8_layWay 194 = .ok (.iinc 5 1, 3) := by decide +kernel
theorem dX8_layWay_197 : decode cX8_layWay 197 = .ok (.goto (-155), 3) := by decide +kernel
theorem dX8_layWay_200 : decode cX8_layWay 200 = .ok (.iload_n 2, 1) := by decide +kernel
theorem dX8_layWay_201 : decode cX8_layWay 201 = .ok (.ifCond .le 7, 3) := by decide +kernel
theorem dX8_layWay_204 : decode cX8_layWay 204 = .ok (.iconst (-1), 1) := by decide +kernel
theorem dX8_layWay_205 : decode cX8_layWay 205 = .ok (.goto 5, 3) := by decide +kernel
theorem dX8_layWay_208 : decode cX8_layWay 208 = .ok (.iload 4, 2) := by decide +kernel
theorem dX8_layWay_210 : decode cX8_layWay 210 = .ok (.ireturn, 1) := by decide +kernel
def P_X8_layWay_42 (k_200 : Int32 → Int32 → PM Int32) (p0 : Nat) : Nat → Int32 → Int32 → Int32 → Int32 → PM Int32
  | 0, _, _, _, _ => failM
  | n + 1, q2, q3, q4, q5 =>
    getI 8 10 p0 fun v6 =>
    ifB (decide (v6 ≤ q5)) (
    k_200 q2 q4) (
    getR 8 34 p0 fun v7 =>
    ald v7 q5 fun v8 =>
    jn (fun (j9 : Int32) (j10 : Int32) (j11 : Int32) =>
    P_X8_layWay_42 k_200 p0 n j9 j10 j11 (q5 + 1)) fun k12 =>
    ifB (decide (¬ v8 = ((-2)))) (
    k12 q2 q3 q4) (
    getI 8 10 p0 fun v13 =>
    remI q2 (v13 + 1) fun v14 =>
    getI 8 10 p0 fun v15 =>
    divI q2 (v15 + 1) fun v16 =>
    jn (fun (j17 : Int32) =>
    ifB (decide (¬ j17 = 0)) (
    jn (fun (j18 : Int32) (j19 : Int32) =>
    getR 8 34 p0 fun v20 =>
    jn (fun (j21 : Nat) (j22 : Int32) (j23 : Int32) =>
    ast j21 j22 j23 <|
    ifB (decide ((v14 - 1) < 0)) (
    k12 v16 (j18 - j19) q4) (
    getR 8 34 p0 fun v24 =>
    ast v24 (v14 - 1) q5 <|
    cllV 8 p0 (P_X8_talkIn p0 0 q5 (v14 - 1)) fun v25 =>
    k12 v16 (j18 - j19) (q4 + v25))) fun k26 =>
    ifB (decide (0 ≤ (v14 - 1))) (
    k26 v20 q5 (v14 - 1)) (
    k26 v20 q5 ((-9)))) fun k27 =>
    ifB (decide (0 ≤ (v14 - 1))) (
    k27 q3 0) (
    k27 q3 1)) (
    pureM ((-1)))) fun k28 =>
    ifB (decide (0 ≤ (v14 - 1))) (
    jn (
    k28 0) fun k29 =>
    ifB (decide ((v14 - 1) ≤ q5)) (
    k29) (
    getR 8 34 p0 fun v30 =>
    ald v30 (v14 - 1) fun v31 =>
    ifB (decide (¬ v31 = ((-2)))) (
    k29) (
    k28 1))) (
    ifB (decide (q3 ≤ 0)) (
    k28 0) (
    k28 1))))
def P_X8_layWay_15 (k_39 : PM Int32) (p0 : Nat) (p2 : Int32) (p3 : Int32) (p4 : Int32) : Nat → Int32 → PM Int32
  | 0, _ => failM
  | n + 1, q5 =>
    getI 8 10 p0 fun v33 =>
    ifB (decide (v33 ≤ q5)) (
    k_39) (
    getR 8 34 p0 fun v34 =>
    ast v34 q5 ((-2)) <|
    P_X8_layWay_15 k_39 p0 p2 p3 p4 n (q5 + 1))
def P_X8_layWay (a0 : Nat) (x1 : Int32) : PM Int32 :=
getI 8 10 a0 fun v1 =>
remI v1 2 fun v2 =>
jn (
jn (fun (e3 : Int32) (e4 : Int32) =>
ifB (decide (e3 ≤ 0)) (
pureM e4) (
pureM ((-1)))) fun k5 =>
P_X8_layWay_42 k5 a0 4000 x1 v2 0 0) fun k32 =>
P_X8_layWay_15 k32 a0 x1 v2 0 4000 0
set_option maxHeartbeats 4000000 in
set_option maxRecDepth 100000 in
theorem W_X8_layWay_42 {Γ : Cx} (ok : OKc Γ cX8_layWay RX8 6 "layWay") (okr : OKr Γ cX8_layWay (some .int)) (k_200 : Int32 → Int32 → PM Int32) (p0 : Nat) (hk_200 : ∀ (y2 : Int32) (y4 : Int32), SW Γ iI 200 [none, none, some (.int y2), none, some (.int y4), none, none, none] [] (k_200 y2 y4)) : ∀ (n : Nat) (q2 : Int32) (q3 : Int32) (q4 : Int32) (q5 : Int32), SW Γ iI 42 [some (.ref p0), none, some (.int q2), some (.int q3), some (.int q4), some (.int q5), none, none] [] (P_X8_layWay_42 k_200 p0 n q2 q3 q4 q5) := by
  intro n
  induction n with
  | zero =>
    intros
    exact sw_fail
  | succ n ih =>
    intro q2 q3 q4 q5
    unfold P_X8_layWay_42
    refine sw_iload (z := q5) (pc' := 44) ok dX8_layWay_42 rfl rfl ?_
    refine sw_aload_n (z := p0) (pc' := 45) ok dX8_layWay_44 rfl rfl ?_
    refine sw_getI (pc' := 48) ok (fr_X8_156.g) dX8_layWay_45 rfl (fun v6 => ?_)
    refine sw_icmp_ge (tgt := 200) (pc' := 51) ok dX8_layWay_48 (by decide) rfl ?_ ?_
    · refine sw_fg (l' := [none, none, some (.int q2), none, some (.int q4), none, none, none]) [false, false, true, false, true, false, false, false] rfl ?_
      exact hk_200 q2 q4
    refine sw_aload_n (z := p0) (pc' := 52) ok dX8_layWay_51 rfl rfl ?_
    refine sw_getR (pc' := 55) ok (fr_X8_65.g) dX8_layWay_52 rfl (fun v7 => ?_)
    refine sw_iload (z := q5) (pc' := 57) ok dX8_layWay_55 rfl rfl ?_
    refine sw_ald (pc' := 58) ok dX8_layWay_57 rfl (fun v8 => ?_)
    refine sw_bipush (v := (-2)) (pc' := 60) ok dX8_layWay_58 rfl cc_bipush_m2 ?_
    refine sw_jn (fun k12 : Int32 → Int32 → Int32 → PM Int32 => ∀ (j9 : Int32) (j10 : Int32) (j11 : Int32), SW Γ iI 194 [some (.ref p0), none, some (.int j9), some (.int j10), some (.int j11), some (.int q5), none, none] [] (k12 j9 j10 j11)) ?_ (fun k12 hk12 => ?_)
    · intro j9 j10 j11
      refine sw_iinc (z := q5) (v := q5 + 1) (pc' := 197) (l' := [some (.ref p0), none, some (.int j9), some (.int j10), some (.int j11), some (.int (q5 + 1)), none, none]) ok dX8_layWay_194 rfl rfl (by rw [cc_iconst_1]) rfl ?_
      refine sw_goto (tgt := 42) ok dX8_layWay_197 (by decide) ?_
      exact ih j9 j10 j11 (q5 + 1)
    refine sw_icmp_ne (tgt := 194) (pc' := 63) ok dX8_layWay_60 (by decide) rfl ?_ ?_
    · exact hk12 q2 q3 q4
    refine sw_iload_n (z := q2) (pc' := 64) ok dX8_layWay_63 rfl rfl ?_
    refine sw_aload_n (z := p0) (pc' := 65) ok dX8_layWay_64 rfl rfl ?_
    refine sw_getI (pc' := 68) ok (fr_X8_156.g) dX8_layWay_65 rfl (fun v13 => ?_)
    refine sw_iconst (v := 1) (pc' := 69) ok dX8_layWay_68 rfl cc_iconst_1 ?_
    refine sw_iadd (pc' := 70) ok dX8_layWay_69 rfl ?_
    refine sw_remI (pc' := 71) ok dX8_layWay_70 rfl (fun v14 => ?_)
    refine sw_iconst (v := 1) (pc' := 72) ok dX8_layWay_71 rfl cc_iconst_1 ?_
    refine sw_isub (pc' := 73) ok dX8_layWay_72 rfl ?_
    refine sw_istore (pc' := 75) (l' := [some (.ref p0), none, some (.int q2), some (.int q3), some (.int q4), some (.int q5), some (.int (v14 - 1)), none]) ok dX8_layWay_73 rfl (Nat.le_of_ble_eq_true rfl) rfl ?_
    refine sw_iload_n (z := q2) (pc' := 76) ok dX8_layWay_75 rfl rfl ?_
    refine sw_aload_n (z := p0) (pc' := 77) ok dX8_layWay_76 rfl rfl ?_
    refine sw_getI (pc' := 80) ok (fr_X8_156.g) dX8_layWay_77 rfl (fun v15 => ?_)
    refine sw_iconst (v := 1) (pc' := 81) ok dX8_layWay_80 rfl cc_iconst_1 ?_
    refine sw_iadd (pc' := 82) ok dX8_layWay_81 rfl ?_
    refine sw_divI (pc' := 83) ok dX8_layWay_82 rfl (fun v16 => ?_)
    refine sw_istore_n (pc' := 84) (l' := [some (.ref p0), none, some (.int v16), some (.int q3), some (.int q4), some (.int q5), some (.int (v14 - 1)), none]) ok dX8_layWay_83 rfl (Nat.le_of_ble_eq_true rfl) rfl ?_
    refine sw_iload (z := (v14 - 1)) (pc' := 86) ok dX8_layWay_84 rfl rfl ?_
    refine sw_jn (fun k28 : Int32 → PM Int32 => ∀ (j17 : Int32), SW Γ iI 125 [some (.ref p0), none, some (.int v16), some (.int q3), some (.int q4), some (.int q5), some (.int (v14 - 1)), none] [.int j17] (k28 j17)) ?_ (fun k28 hk28 => ?_)
    · intro j17
      refine sw_istore (pc' := 127) (l' := [some (.ref p0), none, some (.int v16), some (.int q3), some (.int q4), some (.int q5), some (.int (v14 - 1)), some (.int j17)]) ok dX8_layWay_125 rfl (Nat.le_of_ble_eq_true rfl) rfl ?_
      refine sw_iload (z := j17) (pc' := 129) ok dX8_layWay_127 rfl rfl ?_
      refine sw_if_ne (tgt := 134) (pc' := 132) ok dX8_layWay_129 (by decide) rfl ?_ ?_
      · refine sw_iload_n (z := q3) (pc' := 135) ok dX8_layWay_134 rfl rfl ?_
        refine sw_iload (z := (v14 - 1)) (pc' := 137) ok dX8_layWay_135 rfl rfl ?_
        refine sw_jn (fun k27 : Int32 → Int32 → PM Int32 => ∀ (j18 : Int32) (j19 : Int32), SW Γ iI 145 [some (.ref p0), none, some (.int v16), none, some (.int q4), some (.int q5), some (.int (v14 - 1)), none] [.int j19, .int j18] (k27 j18 j19)) ?_ (fun k27 hk27 => ?_)
        · intro j18 j19
          refine sw_isub (pc' := 146) ok dX8_layWay_145 rfl ?_
          refine sw_istore_n (pc' := 147) (l' := [some (.ref p0), none, some (.int v16), some (.int (j18 - j19)), some (.int q4), some (.int q5), some (.int (v14 - 1)), none]) ok dX8_layWay_146 rfl (Nat.le_of_ble_eq_true rfl) rfl ?_
          refine sw_aload_n (z := p0) (pc' := 148) ok dX8_layWay_147 rfl rfl ?_
          refine sw_getR (pc' := 151) ok (fr_X8_65.g) dX8_layWay_148 rfl (fun v20 => ?_)
          refine sw_iload (z := q5) (pc' := 153) ok dX8_layWay_151 rfl rfl ?_
          refine sw_iload (z := (v14 - 1)) (pc' := 155) ok dX8_layWay_153 rfl rfl ?_
          refine sw_jn (fun k26 : Nat → Int32 → Int32 → PM Int32 => ∀ (j21 : Nat) (j22 : Int32) (j23 : Int32), SW Γ iI 165 [some (.ref p0), none, some (.int v16), some (.int (j18 - j19)), some (.int q4), some (.int q5), some (.int (v14 - 1)), none] [.int j23, .int j22, .ref j21] (k26 j21 j22 j23)) ?_ (fun k26 hk26 => ?_)
          · intro j21 j22 j23
            refine sw_ast (pc' := 166) ok dX8_layWay_165 rfl ?_
            refine sw_iload (z := (v14 - 1)) (pc' := 168) ok dX8_layWay_166 rfl rfl ?_
            refine sw_if_lt (tgt := 194) (pc' := 171) ok dX8_layWay_168 (by decide) rfl ?_ ?_
            · refine sw_fg (l' := [some (.ref p0), none, some (.int v16), some (.int (j18 - j19)), some (.int q4), some (.int q5), none, none]) [true, false, true, true, true, true, false, false] rfl ?_
              exact hk12 v16 (j18 - j19) q4
            refine sw_aload_n (z := p0) (pc' := 172) ok dX8_layWay_171 rfl rfl ?_
            refine sw_getR (pc' := 175) ok (fr_X8_65.g) dX8_layWay_172 rfl (fun v24 => ?_)
            refine sw_iload (z := (v14 - 1)) (pc' := 177) ok dX8_layWay_175 rfl rfl ?_
            refine sw_iload (z := q5) (pc' := 179) ok dX8_layWay_177 rfl rfl ?_
            refine sw_ast (pc' := 180) ok dX8_layWay_179 rfl ?_
            refine sw_iload (z := q4) (pc' := 182) ok dX8_layWay_180 rfl rfl ?_
            refine sw_aload_n (z := p0) (pc' := 183) ok dX8_layWay_182 rfl rfl ?_
            refine sw_iconst (v := 0) (pc' := 184) ok dX8_layWay_183 rfl cc_iconst_0 ?_
            refine sw_iload (z := q5) (pc' := 186) ok dX8_layWay_184 rfl rfl ?_
            refine sw_iload (z := (v14 - 1)) (pc' := 188) ok dX8_layWay_186 rfl rfl ?_
            refine sw_cllV_I (st := [.int q4]) (as := [.int 0, .int q5, .int (v14 - 1)]) (pc' := 191) ok (S_X8_talkIn p0 0 q5 (v14 - 1)) (by decide) lk_X8_201 rfl dX8_layWay_188 rfl (Nat.le_of_ble_eq_true rfl) rfl (fun v25 => ?_)
            refine sw_iadd (pc' := 192) ok dX8_layWay_191 rfl ?_
            refine sw_istore (pc' := 194) (l' := [some (.ref p0), none, some (.int v16), some (.int (j18 - j19)), some (.int (q4 + v25)), some (.int q5), some (.int (v14 - 1)), none]) ok dX8_layWay_192 rfl (Nat.le_of_ble_eq_true rfl) rfl ?_
            refine sw_fg (l' := [some (.ref p0), none, some (.int v16), some (.int (j18 - j19)), some (.int (q4 + v25)), some (.int q5), none, none]) [true, false, true, true, true, true, false, false] rfl ?_
            exact hk12 v16 (j18 - j19) (q4 + v25)
          refine sw_if_ge (tgt := 163) (pc' := 158) ok dX8_layWay_155 (by decide) rfl ?_ ?_
          · refine sw_iload (z := (v14 - 1)) (pc' := 165) ok dX8_layWay_163 rfl rfl ?_
            exact hk26 v20 q5 (v14 - 1)
          refine sw_bipush (v := (-9)) (pc' := 160) ok dX8_layWay_158 rfl cc_bipush_m9 ?_
          refine sw_goto (tgt := 165) ok dX8_layWay_160 (by decide) ?_
          exact hk26 v20 q5 ((-9))
        refine sw_if_ge (tgt := 144) (pc' := 140) ok dX8_layWay_137 (by decide) rfl ?_ ?_
        · refine sw_iconst (v := 0) (pc' := 145) ok dX8_layWay_144 rfl cc_iconst_0 ?_
          refine sw_fg (l' := [some (.ref p0), none, some (.int v16), none, some (.int q4), some (.int q5), some (.int (v14 - 1)), none]) [true, false, true, false, true, true, true, false] rfl ?_
          exact hk27 q3 0
        refine sw_iconst (v := 1) (pc' := 141) ok dX8_layWay_140 rfl cc_iconst_1 ?_
        refine sw_goto (tgt := 145) ok dX8_layWay_141 (by decide) ?_
        refine sw_fg (l' := [some (.ref p0), none, some (.int v16), none, some (.int q4), some (.int q5), some (.int (v14 - 1)), none]) [true, false, true, false, true, true, true, false] rfl ?_
        exact hk27 q3 1
      refine sw_iconst (v := (-1)) (pc' := 133) ok dX8_layWay_132 rfl cc_iconst_m1 ?_
      exact sw_ret ok okr dX8_layWay_133 trivial rfl
    refine sw_if_ge (tgt := 101) (pc' := 89) ok dX8_layWay_86 (by decide) rfl ?_ ?_
    · refine sw_iload (z := (v14 - 1)) (pc' := 103) ok dX8_layWay_101 rfl rfl ?_
      refine sw_iload (z := q5) (pc' := 105) ok dX8_layWay_103 rfl rfl ?_
      refine sw_jn (fun k29 : PM Int32 => SW Γ iI 124 [some (.ref p0), none, some (.int v16), some (.int q3), some (.int q4), some (.int q5), some (.int (v14 - 1)), none] [] (k29)) ?_ (fun k29 hk29 => ?_)
      · refine sw_iconst (v := 0) (pc' := 125) ok dX8_layWay_124 rfl cc_iconst_0 ?_
        exact hk28 0
      refine sw_icmp_le (tgt := 124) (pc' := 108) ok dX8_layWay_105 (by decide) rfl ?_ ?_
      · exact hk29
      refine sw_aload_n (z := p0) (pc' := 109) ok dX8_layWay_108 rfl rfl ?_
      refine sw_getR (pc' := 112) ok (fr_X8_65.g) dX8_layWay_109 rfl (fun v30 => ?_)
      refine sw_iload (z := (v14 - 1)) (pc' := 114) ok dX8_layWay_112 rfl rfl ?_
      refine sw_ald (pc' := 115) ok dX8_layWay_114 rfl (fun v31 => ?_)
      refine sw_bipush (v := (-2)) (pc' := 117) ok dX8_layWay_115 rfl cc_bipush_m2 ?_
      refine sw_icmp_ne (tgt := 124) (pc' := 120) ok dX8_layWay_117 (by decide) rfl ?_ ?_
      · exact hk29
      refine sw_iconst (v := 1) (pc' := 121) ok dX8_layWay_120 rfl cc_iconst_1 ?_
      refine sw_goto (tgt := 125) ok dX8_layWay_121 (by decide) ?_
      exact hk28 1
    refine sw_iload_n (z := q3) (pc' := 90) ok dX8_layWay_89 rfl rfl ?_
    refine sw_if_le (tgt := 97) (pc' := 93) ok dX8_layWay_90 (by decide) rfl ?_ ?_
    · refine sw_iconst (v := 0) (pc' := 98) ok dX8_layWay_97 rfl cc_iconst_0 ?_
      refine sw_goto (tgt := 125) ok dX8_layWay_98 (by decide) ?_
      exact hk28 0
    refine sw_iconst (v := 1) (pc' := 94) ok dX8_layWay_93 rfl cc_iconst_1 ?_
    refine sw_goto (tgt := 125) ok dX8_layWay_94 (by decide) ?_
    exact hk28 1
set_option maxHeartbeats 4000000 in
set_option maxRecDepth 100000 in
theorem W_X8_layWay_15 {Γ : Cx} (ok : OKc Γ cX8_layWay RX8 6 "layWay") (okr : OKr Γ cX8_layWay (some .int)) (k_39 : PM Int32) (p0 : Nat) (p2 : Int32) (p3 : Int32) (p4 : Int32) (hk_39 : SW Γ iI 39 [some (.ref p0), none, some (.int p2), some (.int p3), some (.int p4), none, none, none] [] (k_39)) : ∀ (n : Nat) (q5 : Int32), SW Γ iI 15 [some (.ref p0), none, some (.int p2), some (.int p3), some (.int p4), some (.int q5), none, none] [] (P_X8_layWay_15 k_39 p0 p2 p3 p4 n q5) := by
  intro n
  induction n with
  | zero =>
    intros
    exact sw_fail
  | succ n ih =>
    intro q5
    unfold P_X8_layWay_15
    refine sw_iload (z := q5) (pc' := 17) ok dX8_layWay_15 rfl rfl ?_
    refine sw_aload_n (z := p0) (pc' := 18) ok dX8_layWay_17 rfl rfl ?_
    refine sw_getI (pc' := 21) ok (fr_X8_156.g) dX8_layWay_18 rfl (fun v33 => ?_)
    refine sw_icmp_ge (tgt := 39) (pc' := 24) ok dX8_layWay_21 (by decide) rfl ?_ ?_
    · refine sw_fg (l' := [some (.ref p0), none, some (.int p2), some (.int p3), some (.int p4), none, none, none]) [true, false, true, true, true, false, false, false] rfl ?_
      exact hk_39
    refine sw_aload_n (z := p0) (pc' := 25) ok dX8_layWay_24 rfl rfl ?_
    refine sw_getR (pc' := 28) ok (fr_X8_65.g) dX8_layWay_25 rfl (fun v34 => ?_)
    refine sw_iload (z := q5) (pc' := 30) ok dX8_layWay_28 rfl rfl ?_
    refine sw_bipush (v := (-2)) (pc' := 32) ok dX8_layWay_30 rfl cc_bipush_m2 ?_
    refine sw_ast (pc' := 33) ok dX8_layWay_32 rfl ?_
    refine sw_iinc (z := q5) (v := q5 + 1) (pc' := 36) (l' := [some (.ref p0), none, some (.int p2), some (.int p3), some (.int p4), some (.int (q5 + 1)), none, none]) ok dX8_layWay_33 rfl rfl (by rw [cc_iconst_1]) rfl ?_
    refine sw_goto (tgt := 15) ok dX8_layWay_36 (by decide) ?_
    exact ih (q5 + 1)
set_option maxHeartbeats 4000000 in
set_option maxRecDepth 100000 in
theorem W_X8_layWay {Γ : Cx} (ok : OKc Γ cX8_layWay RX8 6 "layWay") (okr : OKr Γ cX8_layWay (some .int)) (a0 : Nat) (x1 : Int32) : SW Γ iI 0 [some (.ref a0), some (.int x1), none, none, none, none, none, none] [] (P_X8_layWay a0 x1) := by
  unfold P_X8_layWay
  refine sw_iload_n (z := x1) (pc' := 1) ok dX8_layWay_0 rfl rfl ?_
  refine sw_istore_n (pc' := 2) (l' := [some (.ref a0), some (.int x1), some (.int x1), none, none, none, none, none]) ok dX8_layWay_1 rfl (Nat.le_of_ble_eq_true rfl) rfl ?_
  refine sw_aload_n (z := a0) (pc' := 3) ok dX8_layWay_2 rfl rfl ?_
  refine sw_getI (pc' := 6) ok (fr_X8_156.g) dX8_layWay_3 rfl (fun v1 => ?_)
  refine sw_iconst (v := 2) (pc' := 7) ok dX8_layWay_6 rfl cc_iconst_2 ?_
  refine sw_remI (pc' := 8) ok dX8_layWay_7 rfl (fun v2 => ?_)
  refine sw_istore_n (pc' := 9) (l' := [some (.ref a0), some (.int x1), some (.int x1), some (.int v2), none, none, none, none]) ok dX8_layWay_8 rfl (Nat.le_of_ble_eq_true rfl) rfl ?_
  refine sw_iconst (v := 0) (pc' := 10) ok dX8_layWay_9 rfl cc_iconst_0 ?_
  refine sw_istore (pc' := 12) (l' := [some (.ref a0), some (.int x1), some (.int x1), some (.int v2), some (.int 0), none, none, none]) ok dX8_layWay_10 rfl (Nat.le_of_ble_eq_true rfl) rfl ?_
  refine sw_iconst (v := 0) (pc' := 13) ok dX8_layWay_12 rfl cc_iconst_0 ?_
  refine sw_istore (pc' := 15) (l' := [some (.ref a0), some (.int x1), some (.int x1), some (.int v2), some (.int 0), some (.int 0), none, none]) ok dX8_layWay_13 rfl (Nat.le_of_ble_eq_true rfl) rfl ?_
  refine sw_jn (fun k32 : PM Int32 => SW Γ iI 39 [some (.ref a0), none, some (.int x1), some (.int v2), some (.int 0), none, none, none] [] (k32)) ?_ (fun k32 hk32 => ?_)
  · refine sw_iconst (v := 0) (pc' := 40) ok dX8_layWay_39 rfl cc_iconst_0 ?_
    refine sw_istore (pc' := 42) (l' := [some (.ref a0), none, some (.int x1), some (.int v2), some (.int 0), some (.int 0), none, none]) ok dX8_layWay_40 rfl (Nat.le_of_ble_eq_true rfl) rfl ?_
    refine sw_jn (fun k5 : Int32 → Int32 → PM Int32 => ∀ (e3 : Int32) (e4 : Int32), SW Γ iI 200 [none, none, some (.int e3), none, some (.int e4), none, none, none] [] (k5 e3 e4)) ?_ (fun k5 hk5 => ?_)
    · intro e3 e4
      refine sw_iload_n (z := e3) (pc' := 201) ok dX8_layWay_200 rfl rfl ?_
      refine sw_if_le (tgt := 208) (pc' := 204) ok dX8_layWay_201 (by decide) rfl ?_ ?_
      · refine sw_iload (z := e4) (pc' := 210) ok dX8_layWay_208 rfl rfl ?_
        exact sw_ret ok okr dX8_layWay_210 trivial rfl
      refine sw_iconst (v := (-1)) (pc' := 205) ok dX8_layWay_204 rfl cc_iconst_m1 ?_
      refine sw_goto (tgt := 210) ok dX8_layWay_205 (by decide) ?_
      exact sw_ret ok okr dX8_layWay_210 trivial rfl
    exact W_X8_layWay_42 ok okr k5 a0 hk5 4000 x1 v2 0 0
  refine sw_fg (l' := [some (.ref a0), none, some (.int x1), some (.int v2), some (.int 0), some (.int 0), none, none]) [true, false, true, true, true, true, false, false] rfl ?_
  exact W_X8_layWay_15 ok okr k32 a0 x1 v2 0 hk32 4000 0
theorem S_X8_layWay (a0 : Nat) (x1 : Int32) : Sim 6 yX8_layWay cX8_layWay 8 (some .int) iI [.ref a0, .int x1] (P_X8_layWay a0 x1) := Sim.intro wd_1138 (by decide) (by decide +kernel) (Nat.le_of_ble_eq_true rfl) (fun Γ ok okr => W_X8_layWay ok okr a0 x1)
theorem dX8_isAhead_0 : decode cX8_isAhead 0 = .ok (.iconst 0, 1) := by decide +kernel
theorem dX8_isAhead_1 : decode cX8_isAhead 1 = .ok (.istore_n 1, 1) := by decide +kernel
theorem dX8_isAhead_2 : decode cX8_isAhead 2 = .ok (.iload_n 1, 1) := by decide +kernel
theorem dX8_isAhead_3 : decode cX8_isAhead 3 = .ok (.aload_n 0, 1) := by decide +kernel
theorem dX8_isAhead_4 : decode cX8_isAhead 4 = .ok (.getfield 156, 3) := by decide +kernel
theorem dX8_isAhead_7 : decode cX8_isAhead 7 = .ok (.if_icmp .ge 24, 3) := by decide +kernel
theorem dX8_isAhead_10 : decode cX8_isAhead 10 = .ok (.aload_n 0, 1) := by decide +kernel
theorem dX8_isAhead_11 : decode cX8_isAhead 11 = .ok (.getfield 65, 3) := by decide +kernel
theorem dX8_isAhead_14 : decode cX8_isAhead 14 = .ok (.iload_n 1, 1) := by decide +kernel
theorem dX8_isAhead_15 : decode cX8_isAhead 15 = .ok (.iaload, 1) := by decide +kernel
theorem dX8_isAhead_16 : decode cX8_isAhead 16 = .ok (.aload_n 0, 1) := by decide +kernel
theorem dX8_isAhead_17 : decode cX8_isAhead 17 = .ok (.getfield 68, 3) := by decide +kernel
theorem dX8_isAhead_20 : decode cX8_isAhead 20 = .ok (.iload_n 1, 1) := by decide +kernel
theorem dX8_isAhead_21 : decode cX8_isAhead 21 = .ok (.iaload, 1) := by decide +kernel
theorem dX8_isAhead_22 : decode cX8_isAhead 22 = .ok (.if_icmp .ne 9, 3) := by decide +kernel
theorem dX8_isAhead_25 : decode cX8_isAhead 25 = .ok (.iinc 1 1, 3) := by decide +kernel
theorem dX8_isAhead_28 : decode cX8_isAhead 28 = .ok (.goto (-26), 3) := by decide +kernel
theorem dX8_isAhead_31 : decode cX8_isAhead 31 = .ok (.iload_n 1, 1) := by decide +kernel
theorem dX8_isAhead_32 : decode cX8_isAhead 32 = .ok (.aload_n 0, 1) := by decide +kernel
theorem dX8_isAhead_33 : decode cX8_isAhead 33 = .ok (.getfield 156, 3) := by decide +kernel
theorem dX8_isAhead_36 : decode cX8_isAhead 36 = .ok (.if_icmp .ge 22, 3) := by decide +kernel
theorem dX8_isAhead_39 : decode cX8_isAhead 39 = .ok (.aload_n 0, 1) := by decide +kernel
theorem dX8_isAhead_40 : decode cX8_isAhead 40 = .ok (.getfield 65, 3) := by decide +kernel
theorem dX8_isAhead_43 : decode cX8_isAhead 43 = .ok (.iload_n 1, 1) := by decide +kernel
theorem dX8_isAhead_44 : decode cX8_isAhead 44 = .ok (.iaload, 1) := by decide +kernel
theorem dX8_isAhead_45 : decode cX8_isAhead 45 = .ok (.aload_n 0, 1) := by decide +kernel
theorem dX8_isAhead_46 : decode cX8_isAhead 46 = .ok (.getfield 68, 3) := by decide +kernel
theorem dX8_isAhead_49 : decode cX8_isAhead 49 = .ok (.iload_n 1, 1) := by decide +kernel
theorem dX8_isAhead_50 : decode cX8_isAhead 50 = .ok (.iaload, 1) := by decide +kernel
theorem dX8_isAhead_51 : decode cX8_isAhead 51 = .ok (.if_icmp .ge 7, 3) := by decide +kernel
theorem dX8_isAhead_54 : decode cX8_isAhead 54 = .ok (.iconst 1, 1) := by decide +kernel
theorem dX8_isAhead_55 : decode cX8_isAhead 55 = .ok (.goto 4, 3) := by decide +kernel
theorem dX8_isAhead_58 : decode cX8_isAhead 58 = .ok (.iconst 0, 1) := by decide +kernel
theorem dX8_isAhead_59 : decode cX8_isAhead 59 = .ok (.ireturn, 1) := by decide +kernel
def P_X8_isAhead_2 (k_31 : Int32 → PM Int32) (p0 : Nat) : Nat → Int32 → PM Int32
  | 0, _ => failM
  | n + 1, q1 =>
    getI 8 10 p0 fun v9 =>
    ifB (decide (v9 ≤ q1)) (
    k_31 q1) (
    getR 8 34 p0 fun v10 =>
    ald v10 q1 fun v11 =>
    getR 8 35 p0 fun v12 =>
    ald v12 q1 fun v13 =>
    ifB (decide (¬ v11 = v13)) (
    k_31 q1) (
    P_X8_isAhead_2 k_31 p0 n (q1 + 1)))
def P_X8_isAhead (a0 : Nat) : PM Int32 :=
jn (fun (e1 : Int32) =>
getI 8 10 a0 fun v2 =>
jn (
retZ 0) fun k3 =>
ifB (decide (v2 ≤ e1)) (
k3) (
getR 8 34 a0 fun v4 =>
ald v4 e1 fun v5 =>
getR 8 35 a0 fun v6 =>
ald v6 e1 fun v7 =>
ifB (decide (v7 ≤ v5)) (
k3) (
retZ 1))) fun k8 =>
P_X8_isAhead_2 k8 a0 4000 0
set_option maxHeartbeats 4000000 in
set_option maxRecDepth 100000 in
theorem W_X8_isAhead_2 {Γ : Cx} (ok : OKc Γ cX8_isAhead RX8 0 "isAhead") (okr : OKr Γ cX8_isAhead (some .boolean)) (k_31 : Int32 → PM Int32) (p0 : Nat) (hk_31 : ∀ (y1 : Int32), SW Γ iI 31 [some (.ref p0), some (.int y1)] [] (k_31 y1)) : ∀ (n : Nat) (q1 : Int32), SW Γ iI 2 [some (.ref p0), some (.int q1)] [] (P_X8_isAhead_2 k_31 p0 n q1) := by
  intro n
  induction n with
  | zero =>
    intros
    exact sw_fail
  | succ n ih =>
    intro q1
    unfold P_X8_isAhead_2
    refine sw_iload_n (z := q1) (pc' := 3) ok dX8_isAhead_2 rfl rfl ?_
    refine sw_aload_n (z := p0) (pc' := 4) ok dX8_isAhead_3 rfl rfl ?_
    refine sw_getI (pc' := 7) ok (fr_X8_156.g) dX8_isAhead_4 rfl (fun v9 => ?_)
    refine sw_icmp_ge (tgt := 31) (pc' := 10) ok dX8_isAhead_7 (by decide) rfl ?_ ?_
    · exact hk_31 q1
    refine sw_aload_n (z := p0) (pc' := 11) ok dX8_isAhead_10 rfl rfl ?_
    refine sw_getR (pc' := 14) ok (fr_X8_65.g) dX8_isAhead_11 rfl (fun v10 => ?_)
    refine sw_iload_n (z := q1) (pc' := 15) ok dX8_isAhead_14 rfl rfl ?_
    refine sw_ald (pc' := 16) ok dX8_isAhead_15 rfl (fun v11 => ?_)
    refine sw_aload_n (z := p0) (pc' := 17) ok dX8_isAhead_16 rfl rfl ?_
    refine sw_getR (pc' := 20) ok (fr_X8_68.g) dX8_isAhead_17 rfl (fun v12 => ?_)
    refine sw_iload_n (z := q1) (pc' := 21) ok dX8_isAhead_20 rfl rfl ?_
    refine sw_ald (pc' := 22) ok dX8_isAhead_21 rfl (fun v13 => ?_)
    refine sw_icmp_ne (tgt := 31) (pc' := 25) ok dX8_isAhead_22 (by decide) rfl ?_ ?_
    · exact hk_31 q1
    refine sw_iinc (z := q1) (v := q1 + 1) (pc' := 28) (l' := [some (.ref p0), some (.int (q1 + 1))]) ok dX8_isAhead_25 rfl rfl (by rw [cc_iconst_1]) rfl ?_
    refine sw_goto (tgt := 2) ok dX8_isAhead_28 (by decide) ?_
    exact ih (q1 + 1)
set_option maxHeartbeats 4000000 in
set_option maxRecDepth 100000 in
theorem W_X8_isAhead {Γ : Cx} (ok : OKc Γ cX8_isAhead RX8 0 "isAhead") (okr : OKr Γ cX8_isAhead (some .boolean)) (a0 : Nat) : SW Γ iI 0 [some (.ref a0), none] [] (P_X8_isAhead a0) := by
  unfold P_X8_isAhead
  refine sw_iconst (v := 0) (pc' := 1) ok dX8_isAhead_0 rfl cc_iconst_0 ?_
  refine sw_istore_n (pc' := 2) (l' := [some (.ref a0), some (.int 0)]) ok dX8_isAhead_1 rfl (Nat.le_of_ble_eq_true rfl) rfl ?_
  refine sw_jn (fun k8 : Int32 → PM Int32 => ∀ (e1 : Int32), SW Γ iI 31 [some (.ref a0), some (.int e1)] [] (k8 e1)) ?_ (fun k8 hk8 => ?_)
  · intro e1
    refine sw_iload_n (z := e1) (pc' := 32) ok dX8_isAhead_31 rfl rfl ?_
    refine sw_aload_n (z := a0) (pc' := 33) ok dX8_isAhead_32 rfl rfl ?_
    refine sw_getI (pc' := 36) ok (fr_X8_156.g) dX8_isAhead_33 rfl (fun v2 => ?_)
    refine sw_jn (fun k3 : PM Int32 => SW Γ iI 58 [none, none] [] (k3)) ?_ (fun k3 hk3 => ?_)
    · refine sw_iconst (v := 0) (pc' := 59) ok dX8_isAhead_58 rfl cc_iconst_0 ?_
      exact sw_retZ ok okr dX8_isAhead_59
    refine sw_icmp_ge (tgt := 58) (pc' := 39) ok dX8_isAhead_36 (by decide) rfl ?_ ?_
    · refine sw_fg (l' := [none, none]) [false, false] rfl ?_
      exact hk3
    refine sw_aload_n (z := a0) (pc' := 40) ok dX8_isAhead_39 rfl rfl ?_
    refine sw_getR (pc' := 43) ok (fr_X8_65.g) dX8_isAhead_40 rfl (fun v4 => ?_)
    refine sw_iload_n (z := e1) (pc' := 44) ok dX8_isAhead_43 rfl rfl ?_
    refine sw_ald (pc' := 45) ok dX8_isAhead_44 rfl (fun v5 => ?_)
    refine sw_aload_n (z := a0) (pc' := 46) ok dX8_isAhead_45 rfl rfl ?_
    refine sw_getR (pc' := 49) ok (fr_X8_68.g) dX8_isAhead_46 rfl (fun v6 => ?_)
    refine sw_iload_n (z := e1) (pc' := 50) ok dX8_isAhead_49 rfl rfl ?_
    refine sw_ald (pc' := 51) ok dX8_isAhead_50 rfl (fun v7 => ?_)
    refine sw_icmp_ge (tgt := 58) (pc' := 54) ok dX8_isAhead_51 (by decide) rfl ?_ ?_
    · refine sw_fg (l' := [none, none]) [false, false] rfl ?_
      exact hk3
    refine sw_iconst (v := 1) (pc' := 55) ok dX8_isAhead_54 rfl cc_iconst_1 ?_
    refine sw_goto (tgt := 59) ok dX8_isAhead_55 (by decide) ?_
    exact sw_retZ ok okr dX8_isAhead_59
  exact W_X8_isAhead_2 ok okr k8 a0 hk8 4000 0
theorem S_X8_isAhead (a0 : Nat) : Sim 0 yX8_isAhead cX8_isAhead 2 (some .boolean) iI [.ref a0] (P_X8_isAhead a0) := Sim.intro wd_1139 (by decide) (by decide +kernel) (Nat.le_of_ble_eq_true rfl) (fun Γ ok okr => W_X8_isAhead ok okr a0)
theorem dX8_pairs_0 : decode cX8_pairs 0 = .ok (.iload_n 1, 1) := by decide +kernel
theorem dX8_pairs_1 : decode cX8_pairs 1 = .ok (.invokestatic 86, 3) := by decide +kernel
theorem dX8_pairs_4 : decode cX8_pairs 4 = .ok (.ifCond .ne 5, 3) := by decide +kernel
theorem dX8_pairs_7 : decode cX8_pairs 7 = .ok (.iconst (-1), 1) := by decide +kernel
theorem dX8_pairs_8 : decode cX8_pairs 8 = .ok (.ireturn, 1) := by decide +kernel
theorem dX8_pairs_9 : decode cX8_pairs 9 = .ok (.aload_n 0, 1) := by decide +kernel
theorem dX8_pairs_10 : decode cX8_pairs 10 = .ok (.getfield 156, 3) := by decide +kernel
theorem dX8_pairs_13 : decode cX8_pairs 13 = .ok (.ifCond .ne 6, 3) := by decide +kernel
theorem dX8_pairs_16 : decode cX8_pairs 16 = .ok (.bipush (-4), 2) := by decide +kernel
theorem dX8_pairs_18 : decode cX8_pairs 18 = .ok (.ireturn, 1) := by decide +kernel
theorem dX8_pairs_19 : decode cX8_pairs 19 = .ok (.iconst 1, 1) := by decide +kernel
theorem dX8_pairs_20 : decode cX8_pairs 20 = .ok (.istore_n 2, 1) := by decide +kernel
theorem dX8_pairs_21 : decode cX8_pairs 21 = .ok (.iconst 0, 1) := by decide +kernel
theorem dX8_pairs_22 : decode cX8_pairs 22 = .ok (.istore_n 3, 1) := by decide +kernel
theorem dX8_pairs_23 : decode cX8_pairs 23 = .ok (.iload_n 3, 1) := by decide +kernel
theorem dX8_pairs_24 : decode cX8_pairs 24 = .ok (.aload_n 0, 1) := by decide +kernel
theorem dX8_pairs_25 : decode cX8_pairs 25 = .ok (.getfield 156, 3) := by decide +kernel
theorem dX8_pairs_28 : decode cX8_pairs 28 = .ok (.iconst 1, 1) := by decide +kernel
theorem dX8_pairs_29 : decode cX8_pairs 29 = .ok (.iadd, 1) := by decide +kernel
theorem dX8_pairs_30 : decode cX8_pairs 30 = .ok (.iconst 2, 1) := by decide +kernel
theorem dX8_pairs_31 : decode cX8_pairs 31 = .ok (.idiv, 1) := by decide +kernel
theorem dX8_pairs_32 : decode cX8_pairs 32 = .ok (.if_icmp .ge 18, 3) := by decide +kernel
theorem dX8_pairs_35 : decode cX8_pairs 35 = .ok (.iload_n 2, 1) := by decide +kernel
theorem dX8_pairs_36 : decode cX8_pairs 36 = .ok (.aload_n 0, 1) := by decide +kernel
theorem dX8_pairs_37 : decode cX8_pairs 37 = .ok (.getfield 156, 3) := by decide +kernel
theorem dX8_pairs_40 : decode cX8_pairs 40 = .ok (.iconst 1, 1) := by decide +kernel
theorem dX8_pairs_41 : decode cX8_pairs 41 = .ok (.iadd, 1) := by decide +kernel
theorem dX8_pairs_42 : decode cX8_pairs 42 = .ok (.imul, 1) := by decide +kernel
theorem dX8_pairs_43 : decode cX8_pairs 43 = .ok (.istore_n 2, 1) := by decide +kernel
theorem dX8_pairs_44 : decode cX8_pairs 44 = .ok (.iinc 3 1, 3) := by decide +kernel
theorem dX8_pairs_47 : decode cX8_pairs 47 = .ok (.goto (-24), 3) := by decide +kernel
theorem dX8_pairs_50 : decode cX8_pairs 50 = .ok (.iconst (-1), 1) := by decide +kernel
theorem dX8_pairs_51 : decode cX8_pairs 51 = .ok (.istore_n 3, 1) := by decide +kernel
theorem dX8_pairs_52 : decode cX8_pairs 52 = .ok (.iconst 0, 1) := by decide +kernel
theorem dX8_pairs_53 : decode cX8_pairs 53 = .ok (.istore 4, 2) := by decide +kernel
theorem dX8_pairs_55 : decode cX8_pairs 55 = .ok (.iload 4, 2) := by decide +kernel
theorem dX8_pairs_57 : decode cX8_pairs 57 = .ok (.iload_n 2, 1) := by decide +kernel
theorem dX8_pairs_58 : decode cX8_pairs 58 = .ok (.if_icmp .ge 76, 3) := by decide +kernel
theorem dX8_pairs_61 : decode cX8_pairs 61 = .ok (.aload_n 0, 1) := by decide +kernel
theorem dX8_pairs_62 : decode cX8_pairs 62 = .ok (.iload 4, 2) := by decide +kernel
theorem dX8_pairs_64 : decode cX8_pairs 64 = .ok (.invokevirtual 302, 3) := by decide +kernel
theorem dX8_pairs_67 : decode cX8_pairs 67 = .ok (.istore 5, 2) := by decide +kernel
theorem dX8_pairs_69 : decode cX8_pairs 69 = .ok (.iload 5, 2) := by decide +kernel
theorem dX8_pairs_71 : decode cX8_pairs 71 = .ok (.iload_n 3, 1) := by decide +kernel
theorem dX8_pairs_72 : decode cX8_pairs 72 = .ok (.if_icmp .gt 21, 3) := by decide +kernel
theorem dX8_pairs_75 : decode cX8_pairs 75 = .ok (.iload 5, 2) := by decide +kernel
theorem dX8_pairs_77 : decode cX8_pairs 77 = .ok (.ifCond .lt 51, 3) := by decide +kernel
theorem dX8_pairs_80 : decode cX8_pairs 80 = .ok (.iload 5, 2) := by decide +kernel
theorem dX8_pairs_82 : decode cX8_pairs 82 = .ok (.iload_n 3, 1) := by decide +kernel
theorem dX8_pairs_83 : decode cX8_pairs 83 = .ok (.if_icmp .ne 45, 3) := by decide +kernel
theorem dX8_pairs_86 : decode cX8_pairs 86 = .ok (.aload_n 0, 1) := by decide +kernel
theorem dX8_pairs_87 : decode cX8_pairs 87 = .ok (.invokevirtual 305, 3) := by decide +kernel
theorem dX8_pairs_90 : decode cX8_pairs 90 = .ok (.ifCond .eq 38, 3) := by decide +kernel
theorem dX8_pairs_93 : decode cX8_pairs 93 = .ok (.iload 5, 2) := by decide +kernel
theorem dX8_pairs_95 : decode cX8_pairs 95 = .ok (.istore_n 3, 1) := by decide +kernel
theorem dX8_pairs_96 : decode cX8_pairs 96 = .ok (.iconst 0, 1) := by decide +kernel
theorem dX8_pairs_97 : decode cX8_pairs 97 = .ok (.istore 6, 2) := by decide +kernel
theorem dX8_pairs_99 : decode cX8_pairs 99 = .ok (.iload 6, 2) := by decide +kernel
theorem dX8_pairs_101 : decode cX8_pairs 101 = .ok (.aload_n 0, 1) := by decide +kernel
theorem dX8_pairs_102 : decode cX8_pairs 102 = .ok (.getfield 156, 3) := by decide +kernel
theorem dX8_pairs_105 : decode cX8_pairs 105 = .ok (.if_icmp .ge 23, 3) := by decide +kernel
theorem dX8_pairs_108 : decode cX8_pairs 108 = .ok (.aload_n 0, 1) := by decide +kernel
theorem dX8_pairs_109 : decode cX8_pairs 109 = .ok (.getfield 68, 3) := by decide +kernel
theorem dX8_pairs_112 : decode cX8_pairs 112 = .ok (.iload 6, 2) := by decide +kernel
theorem dX8_pairs_114 : decode cX8_pairs 114 = .ok (.aload_n 0, 1) := by decide +kernel
theorem dX8_pairs_115 : decode cX8_pairs 115 = .ok (.getfield 65, 3) := by decide +kernel
theorem dX8_pairs_118 : decode cX8_pairs 118 = .ok (.iload 6, 2) := by decide +kernel
theorem dX8_pairs_120 : decode cX8_pairs 120 = .ok (.iaload, 1) := by decide +kernel
theorem dX8_pairs_121 : decode cX8_pairs 121 = .ok (.iastore, 1) := by decide +kernel
theorem dX8_pairs_122 : decode cX8_pairs 122 = .ok (.iinc 6 1, 3) := by decide +kernel
theorem dX8_pairs_125 : decode cX8_pairs 125 = .ok (.goto (-26), 3) := by decide +kernel
theorem dX8_pairs_128 : decode cX8_pairs 128 = .ok (.iinc 4 1, 3) := by decide +kernel
theorem dX8_pairs_131 : decode cX8_pairs 131 = .ok (.goto (-76), 3) := by decide +kernel
theorem dX8_pairs_134 : decode cX8_pairs 134 = .ok (.aload_n 0, 1) := by decide +kernel
theorem dX8_pairs_135 : decode cX8_pairs 135 = .ok (.iload_n 1, 1) := by decide +kernel
theorem dX8_pairs_136 : decode cX8_pairs 136 = .ok (.aload_n 0, 1) := by decide +kernel
theorem dX8_pairs_137 : decode cX8_pairs 137 = .ok (.getfield 156, 3) := by decide +kernel
theorem dX8_pairs_140 : decode cX8_pairs 140 = .ok (.invokevirtual 242, 3) := by decide +kernel
theorem dX8_pairs_143 : decode cX8_pairs 143 = .ok (.iconst 0, 1) := by decide +kernel
theorem dX8_pairs_144 : decode cX8_pairs 144 = .ok (.istore 4, 2) := by decide +kernel
theorem dX8_pairs_146 : decode cX8_pairs 146 = .ok (.iload 4, 2) := by decide +kernel
theorem dX8_pairs_148 : decode cX8_pairs 148 = .ok (.aload_n 0, 1) := by decide +kernel
theorem dX8_pairs_149 : decode cX8_pairs 149 = .ok (.getfield 156, 3) := by decide +kernel
theorem dX8_pairs_152 : decode cX8_pairs 152 = .ok (.if_icmp .ge 28, 3) := by decide +kernel
theorem dX8_pairs_155 : decode cX8_pairs 155 = .ok (.aload_n 0, 1) := by decide +kernel
theorem dX8_pairs_156 : decode cX8_pairs 156 = .ok (.getfield 7, 3) := by decide +kernel
theorem dX8_pairs_159 : decode cX8_pairs 159 = .ok (.bipush 40, 2) := by decide +kernel
theorem dX8_pairs_161 : decode cX8_pairs 161 = .ok (.iload_n 1, 1) := by decide +kernel
theorem dX8_pairs_162 : decode cX8_pairs 162 = .ok (.imul, 1) := by decide +kernel
theorem dX8_pairs_163 : decode cX8_pairs 163 = .ok (.iload 4, 2) := by decide +kernel
theorem dX8_pairs_165 : decode cX8_pairs 165 = .ok (.iadd, 1) := by decide +kernel
theorem dX8_pairs_166 : decode cX8_pairs 166 = .ok (.aload_n 0, 1) := by decide +kernel
theorem dX8_pairs_167 : decode cX8_pairs 167 = .ok (.getfield 68, 3) := by decide +kernel
theorem dX8_pairs_170 : decode cX8_pairs 170 = .ok (.iload 4, 2) := by decide +kernel
theorem dX8_pairs_172 : decode cX8_pairs 172 = .ok (.iaload, 1) := by decide +kernel
theorem dX8_pairs_173 : decode cX8_pairs 173 = .ok (.iastore, 1) := by decide +kernel
theorem dX8_pairs_174 : decode cX8_pairs 174 = .ok (.iinc 4 1, 3) := by decide +kernel
theorem dX8_pairs_177 : decode cX8_pairs 177 = .ok (.goto (-31), 3) := by decide +kernel
theorem dX8_pairs_180 : decode cX8_pairs 180 = .ok (.iload_n 3, 1) := by decide +kernel
theorem dX8_pairs_181 : decode cX8_pairs 181 = .ok (.ireturn, 1) := by decide +kernel
def P_X8_pairs_146 (p0 : Nat) (p1 : Int32) (p3 : Int32) : Nat → Int32 → PM Int32
  | 0, _ => failM
  | n + 1, q4 =>
    getI 8 10 p0 fun v6 =>
    ifB (decide (v6 ≤ q4)) (
    pureM p3) (
    getR 8 0 p0 fun v7 =>
    getR 8 35 p0 fun v8 =>
    ald v8 q4 fun v9 =>
    ast v7 ((40 * p1) + q4) v9 <|
    P_X8_pairs_146 p0 p1 p3 n (q4 + 1))
def P_X8_pairs_99 (k_128 : Int32 → PM Int32) (p0 : Nat) (p1 : Int32) (p2 : Int32) (p3 : Int32) (p4 : Int32) : Nat → Int32 → PM Int32
  | 0, _ => failM
  | n + 1, q6 =>
    getI 8 10 p0 fun v14 =>
    ifB (decide (v14 ≤ q6)) (
    k_128 p3) (
    getR 8 35 p0 fun v15 =>
    getR 8 34 p0 fun v16 =>
    ald v16 q6 fun v17 =>
    ast v15 q6 v17 <|
    P_X8_pairs_99 k_128 p0 p1 p2 p3 p4 n (q6 + 1))
def P_X8_pairs_55 (k_134 : Int32 → PM Int32) (p0 : Nat) (p1 : Int32) (p2 : Int32) : Nat → Int32 → Int32 → PM Int32
  | 0, _, _ => failM
  | n + 1, q3, q4 =>
    ifB (decide (p2 ≤ q4)) (
    k_134 q3) (
    cllV 8 p0 (P_X8_layWay p0 q4) fun v11 =>
    jn (fun (j12 : Int32) =>
    P_X8_pairs_55 k_134 p0 p1 p2 n j12 (q4 + 1)) fun k13 =>
    jn (
    P_X8_pairs_99 k13 p0 p1 p2 v11 q4 4000 0) fun k18 =>
    ifB (decide (q3 < v11)) (
    k18) (
    ifB (decide (v11 < 0)) (
    k13 q3) (
    ifB (decide (¬ v11 = q3)) (
    k13 q3) (
    cllV 8 p0 (P_X8_isAhead p0) fun v19 =>
    ifB (decide (v19 = 0)) (
    k13 q3) (
    k18)))))
def P_X8_pairs_23 (k_50 : Int32 → PM Int32) (p0 : Nat) (p1 : Int32) : Nat → Int32 → Int32 → PM Int32
  | 0, _, _ => failM
  | n + 1, q2, q3 =>
    getI 8 10 p0 fun v21 =>
    divI (v21 + 1) 2 fun v22 =>
    ifB (decide (v22 ≤ q3)) (
    k_50 q2) (
    getI 8 10 p0 fun v23 =>
    P_X8_pairs_23 k_50 p0 p1 n (q2 * (v23 + 1)) (q3 + 1))
def P_X8_pairs (a0 : Nat) (x1 : Int32) : PM Int32 :=
cll0 (P_X8_isRow x1) fun v1 =>
ifB (decide (¬ v1 = 0)) (
getI 8 10 a0 fun v2 =>
ifB (decide (¬ v2 = 0)) (
jn (fun (e3 : Int32) =>
jn (fun (e4 : Int32) =>
getI 8 10 a0 fun v5 =>
cllV 8 a0 (P_X8_newRow a0 x1 v5) fun _ =>
P_X8_pairs_146 a0 x1 e4 4000 0) fun k10 =>
P_X8_pairs_55 k10 a0 x1 e3 4000 ((-1)) 0) fun k20 =>
P_X8_pairs_23 k20 a0 x1 4000 1 0) (
pureM ((-4)))) (
pureM ((-1)))
set_option maxHeartbeats 4000000 in
set_option maxRecDepth 100000 in
theorem W_X8_pairs_146 {Γ : Cx} (ok : OKc Γ cX8_pairs RX8 7 "pairs") (okr : OKr Γ cX8_pairs (some .int)) (p0 : Nat) (p1 : Int32) (p3 : Int32) : ∀ (n : Nat) (q4 : Int32), SW Γ iI 146 [some (.ref p0), some (.int p1), none, some (.int p3), some (.int q4), none, none] [] (P_X8_pairs_146 p0 p1 p3 n q4) := by
  intro n
  induction n with
  | zero =>
    intros
    exact sw_fail
  | succ n ih =>
    intro q4
    unfold P_X8_pairs_146
    refine sw_iload (z := q4) (pc' := 148) ok dX8_pairs_146 rfl rfl ?_
    refine sw_aload_n (z := p0) (pc' := 149) ok dX8_pairs_148 rfl rfl ?_
    refine sw_getI (pc' := 152) ok (fr_X8_156.g) dX8_pairs_149 rfl (fun v6 => ?_)
    refine sw_icmp_ge (tgt := 180) (pc' := 155) ok dX8_pairs_152 (by decide) rfl ?_ ?_
    · refine sw_iload_n (z := p3) (pc' := 181) ok dX8_pairs_180 rfl rfl ?_
      exact sw_ret ok okr dX8_pairs_181 trivial rfl
    refine sw_aload_n (z := p0) (pc' := 156) ok dX8_pairs_155 rfl rfl ?_
    refine sw_getR (pc' := 159) ok (fr_X8_7.g) dX8_pairs_156 rfl (fun v7 => ?_)
    refine sw_bipush (v := 40) (pc' := 161) ok dX8_pairs_159 rfl cc_bipush_40 ?_
    refine sw_iload_n (z := p1) (pc' := 162) ok dX8_pairs_161 rfl rfl ?_
    refine sw_imul (pc' := 163) ok dX8_pairs_162 rfl ?_
    refine sw_iload (z := q4) (pc' := 165) ok dX8_pairs_163 rfl rfl ?_
    refine sw_iadd (pc' := 166) ok dX8_pairs_165 rfl ?_
    refine sw_aload_n (z := p0) (pc' := 167) ok dX8_pairs_166 rfl rfl ?_
    refine sw_getR (pc' := 170) ok (fr_X8_68.g) dX8_pairs_167 rfl (fun v8 => ?_)
    refine sw_iload (z := q4) (pc' := 172) ok dX8_pairs_170 rfl rfl ?_
    refine sw_ald (pc' := 173) ok dX8_pairs_172 rfl (fun v9 => ?_)
    refine sw_ast (pc' := 174) ok dX8_pairs_173 rfl ?_
    refine sw_iinc (z := q4) (v := q4 + 1) (pc' := 177) (l' := [some (.ref p0), some (.int p1), none, some (.int p3), some (.int (q4 + 1)), none, none]) ok dX8_pairs_174 rfl rfl (by rw [cc_iconst_1]) rfl ?_
    refine sw_goto (tgt := 146) ok dX8_pairs_177 (by decide) ?_
    exact ih (q4 + 1)
set_option maxHeartbeats 4000000 in
set_option maxRecDepth 100000 in
theorem W_X8_pairs_99 {Γ : Cx} (ok : OKc Γ cX8_pairs RX8 7 "pairs") (okr : OKr Γ cX8_pairs (some .int)) (k_128 : Int32 → PM Int32) (p0 : Nat) (p1 : Int32) (p2 : Int32) (p3 : Int32) (p4 : Int32) (hk_128 : ∀ (y3 : Int32), SW Γ iI 128 [some (.ref p0), some (.int p1), some (.int p2), some (.int y3), some (.int p4), none, none] [] (k_128 y3)) : ∀ (n : Nat) (q6 : Int32), SW Γ iI 99 [some (.ref p0), some (.int p1), some (.int p2), some (.int p3), some (.int p4), none, some (.int q6)] [] (P_X8_pairs_99 k_128 p0 p1 p2 p3 p4 n q6) := by
  intro n
  induction n with
  | zero =>
    intros
    exact sw_fail
  | succ n ih =>
    intro q6
    unfold P_X8_pairs_99
    refine sw_iload (z := q6) (pc' := 101) ok dX8_pairs_99 rfl rfl ?_
    refine sw_aload_n (z := p0) (pc' := 102) ok dX8_pairs_101 rfl rfl ?_
    refine sw_getI (pc' := 105) ok (fr_X8_156.g) dX8_pairs_102 rfl (fun v14 => ?_)
    refine sw_icmp_ge (tgt := 128) (pc' := 108) ok dX8_pairs_105 (by decide) rfl ?_ ?_
    · refine sw_fg (l' := [some (.ref p0), some (.int p1), some (.int p2), some (.int p3), some (.int p4), none, none]) [true, true, true, true, true, false, false] rfl ?_
      exact hk_128 p3
    refine sw_aload_n (z := p0) (pc' := 109) ok dX8_pairs_108 rfl rfl ?_
    refine sw_getR (pc' := 112) ok (fr_X8_68.g) dX8_pairs_109 rfl (fun v15 => ?_)
    refine sw_iload (z := q6) (pc' := 114) ok dX8_pairs_112 rfl rfl ?_
    refine sw_aload_n (z := p0) (pc' := 115) ok dX8_pairs_114 rfl rfl ?_
    refine sw_getR (pc' := 118) ok (fr_X8_65.g) dX8_pairs_115 rfl (fun v16 => ?_)
    refine sw_iload (z := q6) (pc' := 120) ok dX8_pairs_118 rfl rfl ?_
    refine sw_ald (pc' := 121) ok dX8_pairs_120 rfl (fun v17 => ?_)
    refine sw_ast (pc' := 122) ok dX8_pairs_121 rfl ?_
    refine sw_iinc (z := q6) (v := q6 + 1) (pc' := 125) (l' := [some (.ref p0), some (.int p1), some (.int p2), some (.int p3), some (.int p4), none, some (.int (q6 + 1))]) ok dX8_pairs_122 rfl rfl (by rw [cc_iconst_1]) rfl ?_
    refine sw_goto (tgt := 99) ok dX8_pairs_125 (by decide) ?_
    exact ih (q6 + 1)
set_option maxHeartbeats 4000000 in
set_option maxRecDepth 100000 in
theorem W_X8_pairs_55 {Γ : Cx} (ok : OKc Γ cX8_pairs RX8 7 "pairs") (okr : OKr Γ cX8_pairs (some .int)) (k_134 : Int32 → PM Int32) (p0 : Nat) (p1 : Int32) (p2 : Int32) (hk_134 : ∀ (y3 : Int32), SW Γ iI 134 [some (.ref p0), some (.int p1), none, some (.int y3), none, none, none] [] (k_134 y3)) : ∀ (n : Nat) (q3 : Int32) (q4 : Int32), SW Γ iI 55 [some (.ref p0), some (.int p1), some (.int p2), some (.int q3), some (.int q4), none, none] [] (P_X8_pairs_55 k_134 p0 p1 p2 n q3 q4) := by
  intro n
  induction n with
  | zero =>
    intros
    exact sw_fail
  | succ n ih =>
    intro q3 q4
    unfold P_X8_pairs_55
    refine sw_iload (z := q4) (pc' := 57) ok dX8_pairs_55 rfl rfl ?_
    refine sw_iload_n (z := p2) (pc' := 58) ok dX8_pairs_57 rfl rfl ?_
    refine sw_icmp_ge (tgt := 134) (pc' := 61) ok dX8_pairs_58 (by decide) rfl ?_ ?_
    · refine sw_fg (l' := [some (.ref p0), some (.int p1), none, some (.int q3), none, none, none]) [true, true, false, true, false, false, false] rfl ?_
      exact hk_134 q3
    refine sw_aload_n (z := p0) (pc' := 62) ok dX8_pairs_61 rfl rfl ?_
    refine sw_iload (z := q4) (pc' := 64) ok dX8_pairs_62 rfl rfl ?_
    refine sw_cllV_I (st := []) (as := [.int q4]) (pc' := 67) ok (S_X8_layWay p0 q4) (by decide) lk_X8_302 rfl dX8_pairs_64 rfl (Nat.le_of_ble_eq_true rfl) rfl (fun v11 => ?_)
    refine sw_istore (pc' := 69) (l' := [some (.ref p0), some (.int p1), some (.int p2), some (.int q3), some (.int q4), some (.int v11), none]) ok dX8_pairs_67 rfl (Nat.le_of_ble_eq_true rfl) rfl ?_
    refine sw_iload (z := v11) (pc' := 71) ok dX8_pairs_69 rfl rfl ?_
    refine sw_iload_n (z := q3) (pc' := 72) ok dX8_pairs_71 rfl rfl ?_
    refine sw_jn (fun k13 : Int32 → PM Int32 => ∀ (j12 : Int32), SW Γ iI 128 [some (.ref p0), some (.int p1), some (.int p2), some (.int j12), some (.int q4), none, none] [] (k13 j12)) ?_ (fun k13 hk13 => ?_)
    · intro j12
      refine sw_iinc (z := q4) (v := q4 + 1) (pc' := 131) (l' := [some (.ref p0), some (.int p1), some (.int p2), some (.int j12), some (.int (q4 + 1)), none, none]) ok dX8_pairs_128 rfl rfl (by rw [cc_iconst_1]) rfl ?_
      refine sw_goto (tgt := 55) ok dX8_pairs_131 (by decide) ?_
      exact ih j12 (q4 + 1)
    refine sw_jn (fun k18 : PM Int32 => SW Γ iI 93 [some (.ref p0), some (.int p1), some (.int p2), none, some (.int q4), some (.int v11), none] [] (k18)) ?_ (fun k18 hk18 => ?_)
    · refine sw_iload (z := v11) (pc' := 95) ok dX8_pairs_93 rfl rfl ?_
      refine sw_istore_n (pc' := 96) (l' := [some (.ref p0), some (.int p1), some (.int p2), some (.int v11), some (.int q4), some (.int v11), none]) ok dX8_pairs_95 rfl (Nat.le_of_ble_eq_true rfl) rfl ?_
      refine sw_iconst (v := 0) (pc' := 97) ok dX8_pairs_96 rfl cc_iconst_0 ?_
      refine sw_istore (pc' := 99) (l' := [some (.ref p0), some (.int p1), some (.int p2), some (.int v11), some (.int q4), some (.int v11), some (.int 0)]) ok dX8_pairs_97 rfl (Nat.le_of_ble_eq_true rfl) rfl ?_
      refine sw_fg (l' := [some (.ref p0), some (.int p1), some (.int p2), some (.int v11), some (.int q4), none, some (.int 0)]) [true, true, true, true, true, false, true] rfl ?_
      exact W_X8_pairs_99 ok okr k13 p0 p1 p2 v11 q4 hk13 4000 0
    refine sw_icmp_gt (tgt := 93) (pc' := 75) ok dX8_pairs_72 (by decide) rfl ?_ ?_
    · refine sw_fg (l' := [some (.ref p0), some (.int p1), some (.int p2), none, some (.int q4), some (.int v11), none]) [true, true, true, false, true, true, false] rfl ?_
      exact hk18
    refine sw_iload (z := v11) (pc' := 77) ok dX8_pairs_75 rfl rfl ?_
    refine sw_if_lt (tgt := 128) (pc' := 80) ok dX8_pairs_77 (by decide) rfl ?_ ?_
    · refine sw_fg (l' := [some (.ref p0), some (.int p1), some (.int p2), some (.int q3), some (.int q4), none, none]) [true, true, true, true, true, false, false] rfl ?_
      exact hk13 q3
    refine sw_iload (z := v11) (pc' := 82) ok dX8_pairs_80 rfl rfl ?_
    refine sw_iload_n (z := q3) (pc' := 83) ok dX8_pairs_82 rfl rfl ?_
    refine sw_icmp_ne (tgt := 128) (pc' := 86) ok dX8_pairs_83 (by decide) rfl ?_ ?_
    · refine sw_fg (l' := [some (.ref p0), some (.int p1), some (.int p2), some (.int q3), some (.int q4), none, none]) [true, true, true, true, true, false, false] rfl ?_
      exact hk13 q3
    refine sw_aload_n (z := p0) (pc' := 87) ok dX8_pairs_86 rfl rfl ?_
    refine sw_cllV_I (st := []) (as := []) (pc' := 90) ok (S_X8_isAhead p0) (by decide) lk_X8_305 rfl dX8_pairs_87 rfl (Nat.le_of_ble_eq_true rfl) rfl (fun v19 => ?_)
    refine sw_if_eq (tgt := 128) (pc' := 93) ok dX8_pairs_90 (by decide) rfl ?_ ?_
    · refine sw_fg (l' := [some (.ref p0), some (.int p1), some (.int p2), some (.int q3), some (.int q4), none, none]) [true, true, true, true, true, false, false] rfl ?_
      exact hk13 q3
    refine sw_fg (l' := [some (.ref p0), some (.int p1), some (.int p2), none, some (.int q4), some (.int v11), none]) [true, true, true, false, true, true, false] rfl ?_
    exact hk18
set_option maxHeartbeats 4000000 in
set_option maxRecDepth 100000 in
theorem W_X8_pairs_23 {Γ : Cx} (ok : OKc Γ cX8_pairs RX8 7 "pairs") (okr : OKr Γ cX8_pairs (some .int)) (k_50 : Int32 → PM Int32) (p0 : Nat) (p1 : Int32) (hk_50 : ∀ (y2 : Int32), SW Γ iI 50 [some (.ref p0), some (.int p1), some (.int y2), none, none, none, none] [] (k_50 y2)) : ∀ (n : Nat) (q2 : Int32) (q3 : Int32), SW Γ iI 23 [some (.ref p0), some (.int p1), some (.int q2), some (.int q3), none, none, none] [] (P_X8_pairs_23 k_50 p0 p1 n q2 q3) := by
  intro n
  induction n with
  | zero =>
    intros
    exact sw_fail
  | succ n ih =>
    intro q2 q3
    unfold P_X8_pairs_23
    refine sw_iload_n (z := q3) (pc' := 24) ok dX8_pairs_23 rfl rfl ?_
    refine sw_aload_n (z := p0) (pc' := 25) ok dX8_pairs_24 rfl rfl ?_
    refine sw_getI (pc' := 28) ok (fr_X8_156.g) dX8_pairs_25 rfl (fun v21 => ?_)
    refine sw_iconst (v := 1) (pc' := 29) ok dX8_pairs_28 rfl cc_iconst_1 ?_
    refine sw_iadd (pc' := 30) ok dX8_pairs_29 rfl ?_
    refine sw_iconst (v := 2) (pc' := 31) ok dX8_pairs_30 rfl cc_iconst_2 ?_
    refine sw_divI (pc' := 32) ok dX8_pairs_31 rfl (fun v22 => ?_)
    refine sw_icmp_ge (tgt := 50) (pc' := 35) ok dX8_pairs_32 (by decide) rfl ?_ ?_
    · refine sw_fg (l' := [some (.ref p0), some (.int p1), some (.int q2), none, none, none, none]) [true, true, true, false, false, false, false] rfl ?_
      exact hk_50 q2
    refine sw_iload_n (z := q2) (pc' := 36) ok dX8_pairs_35 rfl rfl ?_
    refine sw_aload_n (z := p0) (pc' := 37) ok dX8_pairs_36 rfl rfl ?_
    refine sw_getI (pc' := 40) ok (fr_X8_156.g) dX8_pairs_37 rfl (fun v23 => ?_)
    refine sw_iconst (v := 1) (pc' := 41) ok dX8_pairs_40 rfl cc_iconst_1 ?_
    refine sw_iadd (pc' := 42) ok dX8_pairs_41 rfl ?_
    refine sw_imul (pc' := 43) ok dX8_pairs_42 rfl ?_
    refine sw_istore_n (pc' := 44) (l' := [some (.ref p0), some (.int p1), some (.int (q2 * (v23 + 1))), some (.int q3), none, none, none]) ok dX8_pairs_43 rfl (Nat.le_of_ble_eq_true rfl) rfl ?_
    refine sw_iinc (z := q3) (v := q3 + 1) (pc' := 47) (l' := [some (.ref p0), some (.int p1), some (.int (q2 * (v23 + 1))), some (.int (q3 + 1)), none, none, none]) ok dX8_pairs_44 rfl rfl (by rw [cc_iconst_1]) rfl ?_
    refine sw_goto (tgt := 23) ok dX8_pairs_47 (by decide) ?_
    exact ih (q2 * (v23 + 1)) (q3 + 1)
set_option maxHeartbeats 4000000 in
set_option maxRecDepth 100000 in
theorem W_X8_pairs {Γ : Cx} (ok : OKc Γ cX8_pairs RX8 7 "pairs") (okr : OKr Γ cX8_pairs (some .int)) (a0 : Nat) (x1 : Int32) : SW Γ iI 0 [some (.ref a0), some (.int x1), none, none, none, none, none] [] (P_X8_pairs a0 x1) := by
  unfold P_X8_pairs
  refine sw_iload_n (z := x1) (pc' := 1) ok dX8_pairs_0 rfl rfl ?_
  refine sw_cll0_I (st := []) (as := [.int x1]) (pc' := 4) ok (S_X8_isRow x1) (by decide) lk_X8_86 rfl dX8_pairs_1 rfl (Nat.le_of_ble_eq_true rfl) rfl (fun v1 => ?_)
  refine sw_if_ne (tgt := 9) (pc' := 7) ok dX8_pairs_4 (by decide) rfl ?_ ?_
  · refine sw_aload_n (z := a0) (pc' := 10) ok dX8_pairs_9 rfl rfl ?_
    refine sw_getI (pc' := 13) ok (fr_X8_156.g) dX8_pairs_10 rfl (fun v2 => ?_)
    refine sw_if_ne (tgt := 19) (pc' := 16) ok dX8_pairs_13 (by decide) rfl ?_ ?_
    · refine sw_iconst (v := 1) (pc' := 20) ok dX8_pairs_19 rfl cc_iconst_1 ?_
      refine sw_istore_n (pc' := 21) (l' := [some (.ref a0), some (.int x1), some (.int 1), none, none, none, none]) ok dX8_pairs_20 rfl (Nat.le_of_ble_eq_true rfl) rfl ?_
      refine sw_iconst (v := 0) (pc' := 22) ok dX8_pairs_21 rfl cc_iconst_0 ?_
      refine sw_istore_n (pc' := 23) (l' := [some (.ref a0), some (.int x1), some (.int 1), some (.int 0), none, none, none]) ok dX8_pairs_22 rfl (Nat.le_of_ble_eq_true rfl) rfl ?_
      refine sw_jn (fun k20 : Int32 → PM Int32 => ∀ (e3 : Int32), SW Γ iI 50 [some (.ref a0), some (.int x1), some (.int e3), none, none, none, none] [] (k20 e3)) ?_ (fun k20 hk20 => ?_)
      · intro e3
        refine sw_iconst (v := (-1)) (pc' := 51) ok dX8_pairs_50 rfl cc_iconst_m1 ?_
        refine sw_istore_n (pc' := 52) (l' := [some (.ref a0), some (.int x1), some (.int e3), some (.int ((-1))), none, none, none]) ok dX8_pairs_51 rfl (Nat.le_of_ble_eq_true rfl) rfl ?_
        refine sw_iconst (v := 0) (pc' := 53) ok dX8_pairs_52 rfl cc_iconst_0 ?_
        refine sw_istore (pc' := 55) (l' := [some (.ref a0), some (.int x1), some (.int e3), some (.int ((-1))), some (.int 0), none, none]) ok dX8_pairs_53 rfl (Nat.le_of_ble_eq_true rfl) rfl ?_
        refine sw_jn (fun k10 : Int32 → PM Int32 => ∀ (e4 : Int32), SW Γ iI 134 [some (.ref a0), some (.int x1), none, some (.int e4), none, none, none] [] (k10 e4)) ?_ (fun k10 hk10 => ?_)
        · intro e4
          refine sw_aload_n (z := a0) (pc' := 135) ok dX8_pairs_134 rfl rfl ?_
          refine sw_iload_n (z := x1) (pc' := 136) ok dX8_pairs_135 rfl rfl ?_
          refine sw_aload_n (z := a0) (pc' := 137) ok dX8_pairs_136 rfl rfl ?_
          refine sw_getI (pc' := 140) ok (fr_X8_156.g) dX8_pairs_137 rfl (fun v5 => ?_)
          refine sw_cllV_U (st := []) (as := [.int x1, .int v5]) (pc' := 143) ok (S_X8_newRow a0 x1 v5) (by decide) lk_X8_242 rfl dX8_pairs_140 rfl (Nat.le_of_ble_eq_true rfl) rfl (fun _ => ?_)
          refine sw_iconst (v := 0) (pc' := 144) ok dX8_pairs_143 rfl cc_iconst_0 ?_
          refine sw_istore (pc' := 146) (l' := [some (.ref a0), some (.int x1), none, some (.int e4), some (.int 0), none, none]) ok dX8_pairs_144 rfl (Nat.le_of_ble_eq_true rfl) rfl ?_
          exact W_X8_pairs_146 ok okr a0 x1 e4 4000 0
        exact W_X8_pairs_55 ok okr k10 a0 x1 e3 hk10 4000 ((-1)) 0
      exact W_X8_pairs_23 ok okr k20 a0 x1 hk20 4000 1 0
    refine sw_bipush (v := (-4)) (pc' := 18) ok dX8_pairs_16 rfl cc_bipush_m4 ?_
    exact sw_ret ok okr dX8_pairs_18 trivial rfl
  refine sw_iconst (v := (-1)) (pc' := 8) ok dX8_pairs_7 rfl cc_iconst_m1 ?_
  exact sw_ret ok okr dX8_pairs_8 trivial rfl
theorem S_X8_pairs (a0 : Nat) (x1 : Int32) : Sim 7 yX8_pairs cX8_pairs 7 (some .int) iI [.ref a0, .int x1] (P_X8_pairs a0 x1) := Sim.intro wd_1140 (by decide) (by decide +kernel) (Nat.le_of_ble_eq_true rfl) (fun Γ ok okr => W_X8_pairs ok okr a0 x1)
theorem dX8_duel_0 : decode cX8_duel 0 = .ok (.iload_n 1, 1) := by decide +kernel
theorem dX8_duel_1 : decode cX8_duel 1 = .ok (.i2l, 1) := by decide +kernel
theorem dX8_duel_2 : decode cX8_duel 2 = .ok (.lconst 0, 1) := by decide +kernel
theorem dX8_duel_3 : decode cX8_duel 3 = .ok (.ldc2_w 84, 3) := by decide +kernel
theorem dX8_duel_6 : decode cX8_duel 6 = .ok (.invokestatic 80, 3) := by decide +kernel
theorem dX8_duel_9 : decode cX8_duel 9 = .ok (.ifCond .ne 5, 3) := by decide +kernel
theorem dX8_duel_12 : decode cX8_duel 12 = .ok (.iconst (-1), 1) := by decide +kernel
theorem dX8_duel_13 : decode cX8_duel 13 = .ok (.ireturn, 1) := by decide +kernel
theorem dX8_duel_14 : decode cX8_duel 14 = .ok (.aload_n 0, 1) := by decide +kernel
theorem dX8_duel_15 : decode cX8_duel 15 = .ok (.getfield 156, 3) := by decide +kernel
theorem dX8_duel_18 : decode cX8_duel 18 = .ok (.ifCond .ne 6, 3) := by decide +kernel
theorem dX8_duel_21 : decode cX8_duel 21 = .ok (.bipush (-4), 2) := by decide +kernel
theorem dX8_duel_23 : decode cX8_duel 23 = .ok (.ireturn, 1) := by decide +kernel
theorem dX8_duel_24 : decode cX8_duel 24 = .ok (.aload_n 0, 1) := by decide +kernel
theorem dX8_duel_25 : decode cX8_duel 25 = .ok (.invokevirtual 233, 3) := by decide +kernel
theorem dX8_duel_28 : decode cX8_duel 28 = .ok (.aload_n 0, 1) := by decide +kernel
theorem dX8_duel_29 : decode cX8_duel 29 = .ok (.iload_n 1, 1) := by decide +kernel
theorem dX8_duel_30 : decode cX8_duel 30 = .ok (.invokevirtual 236, 3) := by decide +kernel
theorem dX8_duel_33 : decode cX8_duel 33 = .ok (.istore_n 2, 1) := by decide +kernel
theorem dX8_duel_34 : decode cX8_duel 34 = .ok (.iconst 0, 1) := by decide +kernel
theorem dX8_duel_35 : decode cX8_duel 35 = .ok (.istore_n 3, 1) := by decide +kernel
theorem dX8_duel_36 : decode cX8_duel 36 = .ok (.iload_n 3, 1) := by decide +kernel
theorem dX8_duel_37 : decode cX8_duel 37 = .ok (.iload_n 2, 1) := by decide +kernel
theorem dX8_duel_38 : decode cX8_duel 38 = .ok (.if_icmp .ge 21, 3) := by decide +kernel
theorem dX8_duel_41 : decode cX8_duel 41 = .ok (.aload_n 0, 1) := by decide +kernel
theorem dX8_duel_42 : decode cX8_duel 42 = .ok (.getfield 71, 3) := by decide +kernel
theorem dX8_duel_45 : decode cX8_duel 45 = .ok (.iload_n 3, 1) := by decide +kernel
theorem dX8_duel_46 : decode cX8_duel 46 = .ok (.aload_n 0, 1) := by decide +kernel
theorem dX8_duel_47 : decode cX8_duel 47 = .ok (.iload_n 3, 1) := by decide +kernel
theorem dX8_duel_48 : decode cX8_duel 48 = .ok (.iload_n 1, 1) := by decide +kernel
theorem dX8_duel_49 : decode cX8_duel 49 = .ok (.invokevirtual 239, 3) := by decide +kernel
theorem dX8_duel_52 : decode cX8_duel 52 = .ok (.iastore, 1) := by decide +kernel
theorem dX8_duel_53 : decode cX8_duel 53 = .ok (.iinc 3 1, 3) := by decide +kernel
theorem dX8_duel_56 : decode cX8_duel 56 = .ok (.goto (-20), 3) := by decide +kernel
theorem dX8_duel_59 : decode cX8_duel 59 = .ok (.iload_n 1, 1) := by decide +kernel
theorem dX8_duel_60 : decode cX8_duel 60 = .ok (.iconst 1, 1) := by decide +kernel
theorem dX8_duel_61 : decode cX8_duel 61 = .ok (.isub, 1) := by decide +kernel
theorem dX8_duel_62 : decode cX8_duel 62 = .ok (.istore_n 3, 1) := by decide +kernel
theorem dX8_duel_63 : decode cX8_duel 63 = .ok (.iload_n 3, 1) := by decide +kernel
theorem dX8_duel_64 : decode cX8_duel 64 = .ok (.ifCond .lt 114, 3) := by decide +kernel
theorem dX8_duel_67 : decode cX8_duel 67 = .ok (.iload_n 2, 1) := by decide +kernel
theorem dX8_duel_68 : decode cX8_duel 68 = .ok (.aload_n 0, 1) := by decide +kernel
theorem dX8_duel_69 : decode cX8_duel 69 = .ok (.getfield 224, 3) := by decide +kernel
theorem dX8_duel_72 : decode cX8_duel 72 = .ok (.idiv, 1) := by decide +kernel
theorem dX8_duel_73 : decode cX8_duel 73 = .ok (.istore_n 2, 1) := by decide +kernel
theorem dX8_duel_74 : decode cX8_duel 74 = .ok (.iconst 0, 1) := by decide +kernel
theorem dX8_duel_75 : decode cX8_duel 75 = .ok (.istore 4, 2) := by decide +kernel
theorem dX8_duel_77 : decode cX8_duel 77 = .ok (.iload 4, 2) := by decide +kernel
theorem dX8_duel_79 : decode cX8_duel 79 = .ok (.iload_n 2, 1) := by decide +kernel
theorem dX8_duel_80 : decode cX8_duel 80 = .ok (.if_icmp .ge 92, 3) := by decide +kernel
theorem dX8_duel_83 : decode cX8_duel 83 = .ok (.aload_n 0, 1) := by decide +kernel
theorem dX8_duel_84 : decode cX8_duel 84 = .ok (.getfield 71, 3) := by decide +kernel
theorem dX8_duel_87 : decode cX8_duel 87 = .ok (.iload 4, 2) := by decide +kernel
theorem dX8_duel_89 : decode cX8_duel 89 = .ok (.aload_n 0, 1) := by decide +kernel
theorem dX8_duel_90 : decode cX8_duel 90 = .ok (.getfield 224, 3) := by decide +kernel
theorem dX8_duel_93 : decode cX8_duel 93 = .ok (.imul, 1) := by decide +kernel
theorem dX8_duel_94 : decode cX8_duel 94 = .ok (.iaload, 1) := by decide +kernel
theorem dX8_duel_95 : decode cX8_duel 95 = .ok (.istore 5, 2) := by decide +kernel
theorem dX8_duel_97 : decode cX8_duel 97 = .ok (.iconst 1, 1) := by decide +kernel
theorem dX8_duel_98 : decode cX8_duel 98 = .ok (.istore 6, 2) := by decide +kernel
theorem dX8_duel_100 : decode cX8_duel 100 = .ok (.iload 6, 2) := by decide +kernel
theorem dX8_duel_102 : decode cX8_duel 102 = .ok (.aload_n 0, 1) := by decide +kernel
theorem dX8_duel_103 : decode cX8_duel 103 = .ok (.getfield 224, 3) := by decide +kernel
theorem dX8_duel_106 : decode cX8_duel 106 = .ok (.if_icmp .ge 51, 3) := by decide +kernel
theorem dX8_duel_109 : decode cX8_duel 109 = .ok (.aload_n 0, 1) := by decide +kernel
theorem dX8_duel_110 : decode cX8_duel 110 = .ok (.getfield 71, 3) := by decide +kernel
theorem dX8_duel_113 : decode cX8_duel 113 = .ok (.iload 4, 2) := by decide +kernel
theorem dX8_duel_115 : decode cX8_duel 115 = .ok (.aload_n 0, 1) := by decide +kernel
theorem dX8_duel_116 : decode cX8_duel 116 = .ok (.getfield 224, 3) := by decide +kernel
theorem dX8_duel_119 : decode cX8_duel 119 = .ok (.imul, 1) := by decide +kernel
theorem dX8_duel_120 : decode cX8_duel 120 = .ok (.iload 6, 2) := by decide +kernel
theorem dX8_duel_122 : decode cX8_duel 122 = .ok (.iadd, 1) := by decide +kernel
theorem dX8_duel_123 : decode cX8_duel 123 = .ok (.iaload, 1) := by decide +kernel
theorem dX8_duel_124 : decode cX8_duel 124 = .ok (.istore 7, 2) := by decide +kernel
theorem dX8_duel_126 : decode cX8_duel 126 = .ok (.iload_n 3, 1) := by decide +kernel
theorem dX8_duel_127 : decode cX8_duel 127 = .ok (.iconst 2, 1) := by decide +kernel
theorem dX8_duel_128 : decode cX8_duel 128 = .ok (.irem, 1) := by decide +kernel
theorem dX8_duel_129 : decode cX8_duel 129 = .ok (.ifCond .ne 13, 3) := by decide +kernel
theorem dX8_duel_132 : decode cX8_duel 132 = .ok (.iload 5, 2) := by decide +kernel
theorem dX8_duel_134 : decode cX8_duel 134 = .ok (.iload 7, 2) := by decide +kernel
theorem dX8_duel_136 : decode cX8_duel 136 = .ok (.invokestatic 162, 3) := by decide +kernel
theorem dX8_duel_139 : decode cX8_duel 139 = .ok (.goto 10, 3) := by decide +kernel
theorem dX8_duel_142 : decode cX8_duel 142 = .ok (.iload 5, 2) := by decide +kernel
theorem dX8_duel_144 : decode cX8_duel 144 = .ok (.iload 7, 2) := by decide +kernel
theorem dX8_duel_146 : decode cX8_duel 146 = .ok (.invokestatic 208, 3) := by decide +kernel
theorem dX8_duel_149 : decode cX8_duel 149 = .ok (.istore 5, 2) := by decide +kernel
theorem dX8_duel_151 : decode cX8_duel 151 = .ok (.iinc 6 1, 3) := by decide +kernel
theorem dX8_duel_154 : decode cX8_duel 154 = .ok (.goto (-54), 3) := by decide +kernel
theorem dX8_duel_157 : decode cX8_duel 157 = .ok (.aload_n 0, 1) := by decide +kernel
theorem dX8_duel_158 : decode cX8_duel 158 = .ok (.getfield 71, 3) := by decide +kernel
theorem dX8_duel_161 : decode cX8_duel 161 = .ok (.iload 4, 2) := by decide +kernel
theorem dX8_duel_163 : decode cX8_duel 163 = .ok (.iload 5, 2) := by decide +kernel
theorem dX8_duel_165 : decode cX8_duel 165 = .ok (.iastore, 1) := by decide +kernel
theorem dX8_duel_166 : decode cX8_duel 166 = .ok (.iinc 4 1, 3) := by decide +kernel
theorem dX8_duel_169 : decode cX8_duel 169 = .ok (.goto (-92), 3) := by decide +kernel
theorem dX8_duel_172 : decode cX8_duel 172 = .ok (.iinc 3 (-1), 3) := by decide +kernel
theorem dX8_duel_175 : decode cX8_duel 175 = .ok (.goto (-112), 3) := by decide +kernel
theorem dX8_duel_178 : decode cX8_duel 178 = .ok (.aload_n 0, 1) := by decide +kernel
theorem dX8_duel_179 : decode cX8_duel 179 = .ok (.getfield 71, 3) := by decide +kernel
theorem dX8_duel_182 : decode cX8_duel 182 = .ok (.iconst 0, 1) := by decide +kernel
theorem dX8_duel_183 : decode cX8_duel 183 = .ok (.iaload, 1) := by decide +kernel
theorem dX8_duel_184 : decode cX8_duel 184 = .ok (.ireturn, 1) := by decide +kernel
def P_X8_duel_100 (k_157 : Int32 → PM Int32) (p0 : Nat) (p2 : Int32) (p3 : Int32) (p4 : Int32) : Nat → Int32 → Int32 → PM Int32
  | 0, _, _ => failM
  | n + 1, q5, q6 =>
    getI 8 29 p0 fun v16 =>
    ifB (decide (v16 ≤ q6)) (
    k_157 q5) (
    getR 8 36 p0 fun v17 =>
    getI 8 29 p0 fun v18 =>
    ald v17 ((p4 * v18) + q6) fun v19 =>
    remI p3 2 fun v20 =>
    jn (fun (j21 : Int32) =>
    P_X8_duel_100 k_157 p0 p2 p3 p4 n j21 (q6 + 1)) fun k22 =>
    ifB (decide (¬ v20 = 0)) (
    cll0 (P_X8_least q5 v19) fun v23 =>
    k22 v23) (
    cll0 (P_X8_most q5 v19) fun v24 =>
    k22 v24))
def P_X8_duel_77 (k_172 : PM Int32) (p0 : Nat) (p2 : Int32) (p3 : Int32) : Nat → Int32 → PM Int32
  | 0, _ => failM
  | n + 1, q4 =>
    ifB (decide (p2 ≤ q4)) (
    k_172) (
    getR 8 36 p0 fun v10 =>
    getI 8 29 p0 fun v11 =>
    ald v10 (q4 * v11) fun v12 =>
    jn (fun (e13 : Int32) =>
    getR 8 36 p0 fun v14 =>
    ast v14 q4 e13 <|
    P_X8_duel_77 k_172 p0 p2 p3 n (q4 + 1)) fun k15 =>
    P_X8_duel_100 k15 p0 p2 p3 q4 4000 v12 1)
def P_X8_duel_63 (k_178 : PM Int32) (p0 : Nat) : Nat → Int32 → Int32 → PM Int32
  | 0, _, _ => failM
  | n + 1, q2, q3 =>
    ifB (decide (q3 < 0)) (
    k_178) (
    getI 8 29 p0 fun v7 =>
    divI q2 v7 fun v8 =>
    jn (
    P_X8_duel_63 k_178 p0 n v8 (q3 + (-1))) fun k9 =>
    P_X8_duel_77 k9 p0 v8 q3 4000 0)
def P_X8_duel_36 (k_59 : PM Int32) (p0 : Nat) (p1 : Int32) (p2 : Int32) : Nat → Int32 → PM Int32
  | 0, _ => failM
  | n + 1, q3 =>
    ifB (decide (p2 ≤ q3)) (
    k_59) (
    getR 8 36 p0 fun v26 =>
    cllV 8 p0 (P_X8_behind p0 q3 p1) fun v27 =>
    ast v26 q3 v27 <|
    P_X8_duel_36 k_59 p0 p1 p2 n (q3 + 1))
def P_X8_duel (a0 : Nat) (x1 : Int32) : PM Int32 :=
cll0 (P_X8_in (Int32.toInt64 x1) 0 3) fun v1 =>
ifB (decide (¬ v1 = 0)) (
getI 8 10 a0 fun v2 =>
ifB (decide (¬ v2 = 0)) (
cllV 8 a0 (P_X8_layPairs a0) fun _ =>
cllV 8 a0 (P_X8_ways a0 x1) fun v3 =>
jn (
jn (
getR 8 36 a0 fun v4 =>
ald v4 0 fun v5 =>
pureM v5) fun k6 =>
P_X8_duel_63 k6 a0 4000 v3 (x1 - 1)) fun k25 =>
P_X8_duel_36 k25 a0 x1 v3 4000 0) (
pureM ((-4)))) (
pureM ((-1)))
set_option maxHeartbeats 4000000 in
set_option maxRecDepth 100000 in
theorem W_X8_duel_100 {Γ : Cx} (ok : OKc Γ cX8_duel RX8 9 "duel") (okr : OKr Γ cX8_duel (some .int)) (k_157 : Int32 → PM Int32) (p0 : Nat) (p2 : Int32) (p3 : Int32) (p4 : Int32) (hk_157 : ∀ (y5 : Int32), SW Γ iI 157 [some (.ref p0), none, some (.int p2), some (.int p3), some (.int p4), some (.int y5), none, none] [] (k_157 y5)) : ∀ (n : Nat) (q5 : Int32) (q6 : Int32), SW Γ iI 100 [some (.ref p0), none, some (.int p2), some (.int p3), some (.int p4), some (.int q5), some (.int q6), none] [] (P_X8_duel_100 k_157 p0 p2 p3 p4 n q5 q6) := by
  intro n
  induction n with
  | zero =>
    intros
    exact sw_fail
  | succ n ih =>
    intro q5 q6
    unfold P_X8_duel_100
    refine sw_iload (z := q6) (pc' := 102) ok dX8_duel_100 rfl rfl ?_
    refine sw_aload_n (z := p0) (pc' := 103) ok dX8_duel_102 rfl rfl ?_
    refine sw_getI (pc' := 106) ok (fr_X8_224.g) dX8_duel_103 rfl (fun v16 => ?_)
    refine sw_icmp_ge (tgt := 157) (pc' := 109) ok dX8_duel_106 (by decide) rfl ?_ ?_
    · refine sw_fg (l' := [some (.ref p0), none, some (.int p2), some (.int p3), some (.int p4), some (.int q5), none, none]) [true, false, true, true, true, true, false, false] rfl ?_
      exact hk_157 q5
    refine sw_aload_n (z := p0) (pc' := 110) ok dX8_duel_109 rfl rfl ?_
    refine sw_getR (pc' := 113) ok (fr_X8_71.g) dX8_duel_110 rfl (fun v17 => ?_)
    refine sw_iload (z := p4) (pc' := 115) ok dX8_duel_113 rfl rfl ?_
    refine sw_aload_n (z := p0) (pc' := 116) ok dX8_duel_115 rfl rfl ?_
    refine sw_getI (pc' := 119) ok (fr_X8_224.g) dX8_duel_116 rfl (fun v18 => ?_)
    refine sw_imul (pc' := 120) ok dX8_duel_119 rfl ?_
    refine sw_iload (z := q6) (pc' := 122) ok dX8_duel_120 rfl rfl ?_
    refine sw_iadd (pc' := 123) ok dX8_duel_122 rfl ?_
    refine sw_ald (pc' := 124) ok dX8_duel_123 rfl (fun v19 => ?_)
    refine sw_istore (pc' := 126) (l' := [some (.ref p0), none, some (.int p2), some (.int p3), some (.int p4), some (.int q5), some (.int q6), some (.int v19)]) ok dX8_duel_124 rfl (Nat.le_of_ble_eq_true rfl) rfl ?_
    refine sw_iload_n (z := p3) (pc' := 127) ok dX8_duel_126 rfl rfl ?_
    refine sw_iconst (v := 2) (pc' := 128) ok dX8_duel_127 rfl cc_iconst_2 ?_
    refine sw_remI (pc' := 129) ok dX8_duel_128 rfl (fun v20 => ?_)
    refine sw_jn (fun k22 : Int32 → PM Int32 => ∀ (j21 : Int32), SW Γ iI 149 [some (.ref p0), none, some (.int p2), some (.int p3), some (.int p4), none, some (.int q6), none] [.int j21] (k22 j21)) ?_ (fun k22 hk22 => ?_)
    · intro j21
      refine sw_istore (pc' := 151) (l' := [some (.ref p0), none, some (.int p2), some (.int p3), some (.int p4), some (.int j21), some (.int q6), none]) ok dX8_duel_149 rfl (Nat.le_of_ble_eq_true rfl) rfl ?_
      refine sw_iinc (z := q6) (v := q6 + 1) (pc' := 154) (l' := [some (.ref p0), none, some (.int p2), some (.int p3), some (.int p4), some (.int j21), some (.int (q6 + 1)), none]) ok dX8_duel_151 rfl rfl (by rw [cc_iconst_1]) rfl ?_
      refine sw_goto (tgt := 100) ok dX8_duel_154 (by decide) ?_
      exact ih j21 (q6 + 1)
    refine sw_if_ne (tgt := 142) (pc' := 132) ok dX8_duel_129 (by decide) rfl ?_ ?_
    · refine sw_iload (z := q5) (pc' := 144) ok dX8_duel_142 rfl rfl ?_
      refine sw_iload (z := v19) (pc' := 146) ok dX8_duel_144 rfl rfl ?_
      refine sw_cll0_I (st := []) (as := [.int q5, .int v19]) (pc' := 149) ok (S_X8_least q5 v19) (by decide) lk_X8_208 rfl dX8_duel_146 rfl (Nat.le_of_ble_eq_true rfl) rfl (fun v23 => ?_)
      refine sw_fg (l' := [some (.ref p0), none, some (.int p2), some (.int p3), some (.int p4), none, some (.int q6), none]) [true, false, true, true, true, false, true, false] rfl ?_
      exact hk22 v23
    refine sw_iload (z := q5) (pc' := 134) ok dX8_duel_132 rfl rfl ?_
    refine sw_iload (z := v19) (pc' := 136) ok dX8_duel_134 rfl rfl ?_
    refine sw_cll0_I (st := []) (as := [.int q5, .int v19]) (pc' := 139) ok (S_X8_most q5 v19) (by decide) lk_X8_162 rfl dX8_duel_136 rfl (Nat.le_of_ble_eq_true rfl) rfl (fun v24 => ?_)
    refine sw_goto (tgt := 149) ok dX8_duel_139 (by decide) ?_
    refine sw_fg (l' := [some (.ref p0), none, some (.int p2), some (.int p3), some (.int p4), none, some (.int q6), none]) [true, false, true, true, true, false, true, false] rfl ?_
    exact hk22 v24
set_option maxHeartbeats 4000000 in
set_option maxRecDepth 100000 in
theorem W_X8_duel_77 {Γ : Cx} (ok : OKc Γ cX8_duel RX8 9 "duel") (okr : OKr Γ cX8_duel (some .int)) (k_172 : PM Int32) (p0 : Nat) (p2 : Int32) (p3 : Int32) (hk_172 : SW Γ iI 172 [some (.ref p0), none, some (.int p2), some (.int p3), none, none, none, none] [] (k_172)) : ∀ (n : Nat) (q4 : Int32), SW Γ iI 77 [some (.ref p0), none, some (.int p2), some (.int p3), some (.int q4), none, none, none] [] (P_X8_duel_77 k_172 p0 p2 p3 n q4) := by
  intro n
  induction n with
  | zero =>
    intros
    exact sw_fail
  | succ n ih =>
    intro q4
    unfold P_X8_duel_77
    refine sw_iload (z := q4) (pc' := 79) ok dX8_duel_77 rfl rfl ?_
    refine sw_iload_n (z := p2) (pc' := 80) ok dX8_duel_79 rfl rfl ?_
    refine sw_icmp_ge (tgt := 172) (pc' := 83) ok dX8_duel_80 (by decide) rfl ?_ ?_
    · refine sw_fg (l' := [some (.ref p0), none, some (.int p2), some (.int p3), none, none, none, none]) [true, false, true, true, false, false, false, false] rfl ?_
      exact hk_172
    refine sw_aload_n (z := p0) (pc' := 84) ok dX8_duel_83 rfl rfl ?_
    refine sw_getR (pc' := 87) ok (fr_X8_71.g) dX8_duel_84 rfl (fun v10 => ?_)
    refine sw_iload (z := q4) (pc' := 89) ok dX8_duel_87 rfl rfl ?_
    refine sw_aload_n (z := p0) (pc' := 90) ok dX8_duel_89 rfl rfl ?_
    refine sw_getI (pc' := 93) ok (fr_X8_224.g) dX8_duel_90 rfl (fun v11 => ?_)
    refine sw_imul (pc' := 94) ok dX8_duel_93 rfl ?_
    refine sw_ald (pc' := 95) ok dX8_duel_94 rfl (fun v12 => ?_)
    refine sw_istore (pc' := 97) (l' := [some (.ref p0), none, some (.int p2), some (.int p3), some (.int q4), some (.int v12), none, none]) ok dX8_duel_95 rfl (Nat.le_of_ble_eq_true rfl) rfl ?_
    refine sw_iconst (v := 1) (pc' := 98) ok dX8_duel_97 rfl cc_iconst_1 ?_
    refine sw_istore (pc' := 100) (l' := [some (.ref p0), none, some (.int p2), some (.int p3), some (.int q4), some (.int v12), some (.int 1), none]) ok dX8_duel_98 rfl (Nat.le_of_ble_eq_true rfl) rfl ?_
    refine sw_jn (fun k15 : Int32 → PM Int32 => ∀ (e13 : Int32), SW Γ iI 157 [some (.ref p0), none, some (.int p2), some (.int p3), some (.int q4), some (.int e13), none, none] [] (k15 e13)) ?_ (fun k15 hk15 => ?_)
    · intro e13
      refine sw_aload_n (z := p0) (pc' := 158) ok dX8_duel_157 rfl rfl ?_
      refine sw_getR (pc' := 161) ok (fr_X8_71.g) dX8_duel_158 rfl (fun v14 => ?_)
      refine sw_iload (z := q4) (pc' := 163) ok dX8_duel_161 rfl rfl ?_
      refine sw_iload (z := e13) (pc' := 165) ok dX8_duel_163 rfl rfl ?_
      refine sw_ast (pc' := 166) ok dX8_duel_165 rfl ?_
      refine sw_iinc (z := q4) (v := q4 + 1) (pc' := 169) (l' := [some (.ref p0), none, some (.int p2), some (.int p3), some (.int (q4 + 1)), some (.int e13), none, none]) ok dX8_duel_166 rfl rfl (by rw [cc_iconst_1]) rfl ?_
      refine sw_goto (tgt := 77) ok dX8_duel_169 (by decide) ?_
      refine sw_fg (l' := [some (.ref p0), none, some (.int p2), some (.int p3), some (.int (q4 + 1)), none, none, none]) [true, false, true, true, true, false, false, false] rfl ?_
      exact ih (q4 + 1)
    exact W_X8_duel_100 ok okr k15 p0 p2 p3 q4 hk15 4000 v12 1
set_option maxHeartbeats 4000000 in
set_option maxRecDepth 100000 in
theorem W_X8_duel_63 {Γ : Cx} (ok : OKc Γ cX8_duel RX8 9 "duel") (okr : OKr Γ cX8_duel (some .int)) (k_178 : PM Int32) (p0 : Nat) (hk_178 : SW Γ iI 178 [some (.ref p0), none, none, none, none, none, none, none] [] (k_178)) : ∀ (n : Nat) (q2 : Int32) (q3 : Int32), SW Γ iI 63 [some (.ref p0), none, some (.int q2), some (.int q3), none, none, none, none] [] (P_X8_duel_63 k_178 p0 n q2 q3) := by
  intro n
  induction n with
  | zero =>
    intros
    exact sw_fail
  | succ n ih =>
    intro q2 q3
    unfold P_X8_duel_63
    refine sw_iload_n (z := q3) (pc' := 64) ok dX8_duel_63 rfl rfl ?_
    refine sw_if_lt (tgt := 178) (pc' := 67) ok dX8_duel_64 (by decide) rfl ?_ ?_
    · refine sw_fg (l' := [some (.ref p0), none, none, none, none, none, none, none]) [true, false, false, false, false, false, false, false] rfl ?_
      exact hk_178
    refine sw_iload_n (z := q2) (pc' := 68) ok dX8_duel_67 rfl rfl ?_
    refine sw_aload_n (z := p0) (pc' := 69) ok dX8_duel_68 rfl rfl ?_
    refine sw_getI (pc' := 72) ok (fr_X8_224.g) dX8_duel_69 rfl (fun v7 => ?_)
    refine sw_divI (pc' := 73) ok dX8_duel_72 rfl (fun v8 => ?_)
    refine sw_istore_n (pc' := 74) (l' := [some (.ref p0), none, some (.int v8), some (.int q3), none, none, none, none]) ok dX8_duel_73 rfl (Nat.le_of_ble_eq_true rfl) rfl ?_
    refine sw_iconst (v := 0) (pc' := 75) ok dX8_duel_74 rfl cc_iconst_0 ?_
    refine sw_istore (pc' := 77) (l' := [some (.ref p0), none, some (.int v8), some (.int q3), some (.int 0), none, none, none]) ok dX8_duel_75 rfl (Nat.le_of_ble_eq_true rfl) rfl ?_
    refine sw_jn (fun k9 : PM Int32 => SW Γ iI 172 [some (.ref p0), none, some (.int v8), some (.int q3), none, none, none, none] [] (k9)) ?_ (fun k9 hk9 => ?_)
    · refine sw_iinc (z := q3) (v := q3 + (-1)) (pc' := 175) (l' := [some (.ref p0), none, some (.int v8), some (.int (q3 + (-1))), none, none, none, none]) ok dX8_duel_172 rfl rfl (by rw [cc_iconst_m1]) rfl ?_
      refine sw_goto (tgt := 63) ok dX8_duel_175 (by decide) ?_
      exact ih v8 (q3 + (-1))
    exact W_X8_duel_77 ok okr k9 p0 v8 q3 hk9 4000 0
set_option maxHeartbeats 4000000 in
set_option maxRecDepth 100000 in
theorem W_X8_duel_36 {Γ : Cx} (ok : OKc Γ cX8_duel RX8 9 "duel") (okr : OKr Γ cX8_duel (some .int)) (k_59 : PM Int32) (p0 : Nat) (p1 : Int32) (p2 : Int32) (hk_59 : SW Γ iI 59 [some (.ref p0), some (.int p1), some (.int p2), none, none, none, none, none] [] (k_59)) : ∀ (n : Nat) (q3 : Int32), SW Γ iI 36 [some (.ref p0), some (.int p1), some (.int p2), some (.int q3), none, none, none, none] [] (P_X8_duel_36 k_59 p0 p1 p2 n q3) := by
  intro n
  induction n with
  | zero =>
    intros
    exact sw_fail
  | succ n ih =>
    intro q3
    unfold P_X8_duel_36
    refine sw_iload_n (z := q3) (pc' := 37) ok dX8_duel_36 rfl rfl ?_
    refine sw_iload_n (z := p2) (pc' := 38) ok dX8_duel_37 rfl rfl ?_
    refine sw_icmp_ge (tgt := 59) (pc' := 41) ok dX8_duel_38 (by decide) rfl ?_ ?_
    · refine sw_fg (l' := [some (.ref p0), some (.int p1), some (.int p2), none, none, none, none, none]) [true, true, true, false, false, false, false, false] rfl ?_
      exact hk_59
    refine sw_aload_n (z := p0) (pc' := 42) ok dX8_duel_41 rfl rfl ?_
    refine sw_getR (pc' := 45) ok (fr_X8_71.g) dX8_duel_42 rfl (fun v26 => ?_)
    refine sw_iload_n (z := q3) (pc' := 46) ok dX8_duel_45 rfl rfl ?_
    refine sw_aload_n (z := p0) (pc' := 47) ok dX8_duel_46 rfl rfl ?_
    refine sw_iload_n (z := q3) (pc' := 48) ok dX8_duel_47 rfl rfl ?_
    refine sw_iload_n (z := p1) (pc' := 49) ok dX8_duel_48 rfl rfl ?_
    refine sw_cllV_I (st := [.int q3, .ref v26]) (as := [.int q3, .int p1]) (pc' := 52) ok (S_X8_behind p0 q3 p1) (by decide) lk_X8_239 rfl dX8_duel_49 rfl (Nat.le_of_ble_eq_true rfl) rfl (fun v27 => ?_)
    refine sw_ast (pc' := 53) ok dX8_duel_52 rfl ?_
    refine sw_iinc (z := q3) (v := q3 + 1) (pc' := 56) (l' := [some (.ref p0), some (.int p1), some (.int p2), some (.int (q3 + 1)), none, none, none, none]) ok dX8_duel_53 rfl rfl (by rw [cc_iconst_1]) rfl ?_
    refine sw_goto (tgt := 36) ok dX8_duel_56 (by decide) ?_
    exact ih (q3 + 1)
set_option maxHeartbeats 4000000 in
set_option maxRecDepth 100000 in
theorem W_X8_duel {Γ : Cx} (ok : OKc Γ cX8_duel RX8 9 "duel") (okr : OKr Γ cX8_duel (some .int)) (a0 : Nat) (x1 : Int32) : SW Γ iI 0 [some (.ref a0), some (.int x1), none, none, none, none, none, none] [] (P_X8_duel a0 x1) := by
  unfold P_X8_duel
  refine sw_iload_n (z := x1) (pc' := 1) ok dX8_duel_0 rfl rfl ?_
  refine sw_i2l (pc' := 2) ok dX8_duel_1 rfl ?_
  refine sw_lconst (v := 0) (pc' := 3) ok dX8_duel_2 rfl cc_lconst_0 ?_
  refine sw_ldc2 (v := 3) (pc' := 6) ok dX8_duel_3 rfl wd_479 ?_
  refine sw_cll0_I (st := []) (as := [.long (Int32.toInt64 x1), .long 0, .long 3]) (pc' := 9) ok (S_X8_in (Int32.toInt64 x1) 0 3) (by decide) lk_X8_80 rfl dX8_duel_6 rfl (Nat.le_of_ble_eq_true rfl) rfl (fun v1 => ?_)
  refine sw_if_ne (tgt := 14) (pc' := 12) ok dX8_duel_9 (by decide) rfl ?_ ?_
  · refine sw_aload_n (z := a0) (pc' := 15) ok dX8_duel_14 rfl rfl ?_
    refine sw_getI (pc' := 18) ok (fr_X8_156.g) dX8_duel_15 rfl (fun v2 => ?_)
    refine sw_if_ne (tgt := 24) (pc' := 21) ok dX8_duel_18 (by decide) rfl ?_ ?_
    · refine sw_aload_n (z := a0) (pc' := 25) ok dX8_duel_24 rfl rfl ?_
      refine sw_cllV_U (st := []) (as := []) (pc' := 28) ok (S_X8_layPairs a0) (by decide) lk_X8_233 rfl dX8_duel_25 rfl (Nat.le_of_ble_eq_true rfl) rfl (fun _ => ?_)
      refine sw_aload_n (z := a0) (pc' := 29) ok dX8_duel_28 rfl rfl ?_
      refine sw_iload_n (z := x1) (pc' := 30) ok dX8_duel_29 rfl rfl ?_
      refine sw_cllV_I (st := []) (as := [.int x1]) (pc' := 33) ok (S_X8_ways a0 x1) (by decide) lk_X8_236 rfl dX8_duel_30 rfl (Nat.le_of_ble_eq_true rfl) rfl (fun v3 => ?_)
      refine sw_istore_n (pc' := 34) (l' := [some (.ref a0), some (.int x1), some (.int v3), none, none, none, none, none]) ok dX8_duel_33 rfl (Nat.le_of_ble_eq_true rfl) rfl ?_
      refine sw_iconst (v := 0) (pc' := 35) ok dX8_duel_34 rfl cc_iconst_0 ?_
      refine sw_istore_n (pc' := 36) (l' := [some (.ref a0), some (.int x1), some (.int v3), some (.int 0), none, none, none, none]) ok dX8_duel_35 rfl (Nat.le_of_ble_eq_true rfl) rfl ?_
      refine sw_jn (fun k25 : PM Int32 => SW Γ iI 59 [some (.ref a0), some (.int x1), some (.int v3), none, none, none, none, none] [] (k25)) ?_ (fun k25 hk25 => ?_)
      · refine sw_iload_n (z := x1) (pc' := 60) ok dX8_duel_59 rfl rfl ?_
        refine sw_iconst (v := 1) (pc' := 61) ok dX8_duel_60 rfl cc_iconst_1 ?_
        refine sw_isub (pc' := 62) ok dX8_duel_61 rfl ?_
        refine sw_istore_n (pc' := 63) (l' := [some (.ref a0), some (.int x1), some (.int v3), some (.int (x1 - 1)), none, none, none, none]) ok dX8_duel_62 rfl (Nat.le_of_ble_eq_true rfl) rfl ?_
        refine sw_jn (fun k6 : PM Int32 => SW Γ iI 178 [some (.ref a0), none, none, none, none, none, none, none] [] (k6)) ?_ (fun k6 hk6 => ?_)
        · refine sw_aload_n (z := a0) (pc' := 179) ok dX8_duel_178 rfl rfl ?_
          refine sw_getR (pc' := 182) ok (fr_X8_71.g) dX8_duel_179 rfl (fun v4 => ?_)
          refine sw_iconst (v := 0) (pc' := 183) ok dX8_duel_182 rfl cc_iconst_0 ?_
          refine sw_ald (pc' := 184) ok dX8_duel_183 rfl (fun v5 => ?_)
          exact sw_ret ok okr dX8_duel_184 trivial rfl
        refine sw_fg (l' := [some (.ref a0), none, some (.int v3), some (.int (x1 - 1)), none, none, none, none]) [true, false, true, true, false, false, false, false] rfl ?_
        exact W_X8_duel_63 ok okr k6 a0 hk6 4000 v3 (x1 - 1)
      exact W_X8_duel_36 ok okr k25 a0 x1 v3 hk25 4000 0
    refine sw_bipush (v := (-4)) (pc' := 23) ok dX8_duel_21 rfl cc_bipush_m4 ?_
    exact sw_ret ok okr dX8_duel_23 trivial rfl
  refine sw_iconst (v := (-1)) (pc' := 13) ok dX8_duel_12 rfl cc_iconst_m1 ?_
  exact sw_ret ok okr dX8_duel_13 trivial rfl
theorem S_X8_duel (a0 : Nat) (x1 : Int32) : Sim 9 yX8_duel cX8_duel 8 (some .int) iI [.ref a0, .int x1] (P_X8_duel a0 x1) := Sim.intro wd_1141 (by decide) (by decide +kernel) (Nat.le_of_ble_eq_true rfl) (fun Γ ok okr => W_X8_duel ok okr a0 x1)
theorem dX8_divisor_0 : decode cX8_divisor 0 = .ok (.lload_n 0, 1) := by decide +kernel
theorem dX8_divisor_1 : decode cX8_divisor 1 = .ok (.lstore 4, 2) := by decide +kernel
theorem dX8_divisor_3 : decode cX8_divisor 3 = .ok (.lload_n 2, 1) := by decide +kernel
theorem dX8_divisor_4 : decode cX8_divisor 4 = .ok (.lstore 6, 2) := by decide +kernel
theorem dX8_divisor_6 : decode cX8_divisor 6 = .ok (.lload 6, 2) := by decide +kernel
theorem dX8_divisor_8 : decode cX8_divisor 8 = .ok (.lconst 0, 1) := by decide +kernel
theorem dX8_divisor_9 : decode cX8_divisor 9 = .ok (.lcmp, 1) := by decide +kernel
theorem dX8_divisor_10 : decode cX8_divisor 10 = .ok (.ifCond .le 21, 3) := by decide +kernel
theorem dX8_divisor_13 : decode cX8_divisor 13 = .ok (.lload 4, 2) := by decide +kernel
theorem dX8_divisor_15 : decode cX8_divisor 15 = .ok (.lload 6, 2) := by decide +kernel
theorem dX8_divisor_17 : decode cX8_divisor 17 = .ok (.lrem, 1) := by decide +kernel
theorem dX8_divisor_18 : decode cX8_divisor 18 = .ok (.lstore 8, 2) := by decide +kernel
theorem dX8_divisor_20 : decode cX8_divisor 20 = .ok (.lload 6, 2) := by decide +kernel
theorem dX8_divisor_22 : decode cX8_divisor 22 = .ok (.lstore 4, 2) := by decide +kernel
theorem dX8_divisor_24 : decode cX8_divisor 24 = .ok (.lload 8, 2) := by decide +kernel
theorem dX8_divisor_26 : decode cX8_divisor 26 = .ok (.lstore 6, 2) := by decide +kernel
theorem dX8_divisor_28 : decode cX8_divisor 28 = .ok (.goto (-22), 3) := by decide +kernel
theorem dX8_divisor_31 : decode cX8_divisor 31 = .ok (.lload 4, 2) := by decide +kernel
theorem dX8_divisor_33 : decode cX8_divisor 33 = .ok (.lreturn, 1) := by decide +kernel
def P_X8_divisor_6 : Nat → Int64 → Int64 → PM Int64
  | 0, _, _ => failM
  | n + 1, q4, q6 =>
    ifB (decide ((lg_cmp q6 0) ≤ 0)) (
    pureM q4) (
    remL q4 q6 fun v1 =>
    P_X8_divisor_6 n q6 v1)
def P_X8_divisor (x0 : Int64) (x1 : Int64) : PM Int64 :=
P_X8_divisor_6 4000 x0 x1
set_option maxHeartbeats 4000000 in
set_option maxRecDepth 100000 in
theorem W_X8_divisor_6 {Γ : Cx} (ok : OKc Γ cX8_divisor RX8 0 "divisor") (okr : OKr Γ cX8_divisor (some .long)) : ∀ (n : Nat) (q4 : Int64) (q6 : Int64), SW Γ iL 6 [none, none, none, none, some (.long q4), none, some (.long q6), none, none, none] [] (P_X8_divisor_6 n q4 q6) := by
  intro n
  induction n with
  | zero =>
    intros
    exact sw_fail
  | succ n ih =>
    intro q4 q6
    unfold P_X8_divisor_6
    refine sw_lload (z := q6) (pc' := 8) ok dX8_divisor_6 rfl rfl ?_
    refine sw_lconst (v := 0) (pc' := 9) ok dX8_divisor_8 rfl cc_lconst_0 ?_
    refine sw_lcmp (pc' := 10) ok dX8_divisor_9 rfl ?_
    refine sw_if_le (tgt := 31) (pc' := 13) ok dX8_divisor_10 (by decide) rfl ?_ ?_
    · refine sw_lload (z := q4) (pc' := 33) ok dX8_divisor_31 rfl rfl ?_
      exact sw_ret ok okr dX8_divisor_33 trivial rfl
    refine sw_lload (z := q4) (pc' := 15) ok dX8_divisor_13 rfl rfl ?_
    refine sw_lload (z := q6) (pc' := 17) ok dX8_divisor_15 rfl rfl ?_
    refine sw_remL (pc' := 18) ok dX8_divisor_17 rfl (fun v1 => ?_)
    refine sw_lstore (pc' := 20) (l' := [none, none, none, none, some (.long q4), none, some (.long q6), none, some (.long v1), none]) ok dX8_divisor_18 rfl (Nat.le_of_ble_eq_true rfl) rfl ?_
    refine sw_lload (z := q6) (pc' := 22) ok dX8_divisor_20 rfl rfl ?_
    refine sw_lstore (pc' := 24) (l' := [none, none, none, none, some (.long q6), none, some (.long q6), none, some (.long v1), none]) ok dX8_divisor_22 rfl (Nat.le_of_ble_eq_true rfl) rfl ?_
    refine sw_lload (z := v1) (pc' := 26) ok dX8_divisor_24 rfl rfl ?_
    refine sw_lstore (pc' := 28) (l' := [none, none, none, none, some (.long q6), none, some (.long v1), none, some (.long v1), none]) ok dX8_divisor_26 rfl (Nat.le_of_ble_eq_true rfl) rfl ?_
    refine sw_goto (tgt := 6) ok dX8_divisor_28 (by decide) ?_
    refine sw_fg (l' := [none, none, none, none, some (.long q6), none, some (.long v1), none, none, none]) [false, false, false, false, true, false, true, false, false, false] rfl ?_
    exact ih q6 v1
set_option maxHeartbeats 4000000 in
set_option maxRecDepth 100000 in
theorem W_X8_divisor {Γ : Cx} (ok : OKc Γ cX8_divisor RX8 0 "divisor") (okr : OKr Γ cX8_divisor (some .long)) (x0 : Int64) (x1 : Int64) : SW Γ iL 0 [some (.long x0), none, some (.long x1), none, none, none, none, none, none, none] [] (P_X8_divisor x0 x1) := by
  unfold P_X8_divisor
  refine sw_lload_n (z := x0) (pc' := 1) ok dX8_divisor_0 rfl rfl ?_
  refine sw_lstore (pc' := 3) (l' := [some (.long x0), none, some (.long x1), none, some (.long x0), none, none, none, none, none]) ok dX8_divisor_1 rfl (Nat.le_of_ble_eq_true rfl) rfl ?_
  refine sw_lload_n (z := x1) (pc' := 4) ok dX8_divisor_3 rfl rfl ?_
  refine sw_lstore (pc' := 6) (l' := [some (.long x0), none, some (.long x1), none, some (.long x0), none, some (.long x1), none, none, none]) ok dX8_divisor_4 rfl (Nat.le_of_ble_eq_true rfl) rfl ?_
  refine sw_fg (l' := [none, none, none, none, some (.long x0), none, some (.long x1), none, none, none]) [false, false, false, false, true, false, true, false, false, false] rfl ?_
  exact W_X8_divisor_6 ok okr 4000 x0 x1
theorem S_X8_divisor (x0 : Int64) (x1 : Int64) : Sim 0 yX8_divisor cX8_divisor 10 (some .long) iL [.long x0, .long x1] (P_X8_divisor x0 x1) := Sim.intro wd_1142 (by decide) (by decide +kernel) (Nat.le_of_ble_eq_true rfl) (fun Γ ok okr => W_X8_divisor ok okr x0 x1)
theorem dX8_tell_0 : decode cX8_tell 0 = .ok (.lload_n 1, 1) := by decide +kernel
theorem dX8_tell_1 : decode cX8_tell 1 = .ok (.lload_n 3, 1) := by decide +kernel
theorem dX8_tell_2 : decode cX8_tell 2 = .ok (.invokestatic 309, 3) := by decide +kernel
theorem dX8_tell_5 : decode cX8_tell 5 = .ok (.lstore 5, 2) := by decide +kernel
theorem dX8_tell_7 : decode cX8_tell 7 = .ok (.aload_n 0, 1) := by decide +kernel
theorem dX8_tell_8 : decode cX8_tell 8 = .ok (.lload_n 1, 1) := by decide +kernel
theorem dX8_tell_9 : decode cX8_tell 9 = .ok (.lload 5, 2) := by decide +kernel
theorem dX8_tell_11 : decode cX8_tell 11 = .ok (.ldiv, 1) := by decide +kernel
theorem dX8_tell_12 : decode cX8_tell 12 = .ok (.putfield 280, 3) := by decide +kernel
theorem dX8_tell_15 : decode cX8_tell 15 = .ok (.aload_n 0, 1) := by decide +kernel
theorem dX8_tell_16 : decode cX8_tell 16 = .ok (.lload_n 3, 1) := by decide +kernel
theorem dX8_tell_17 : decode cX8_tell 17 = .ok (.lload 5, 2) := by decide +kernel
theorem dX8_tell_19 : decode cX8_tell 19 = .ok (.ldiv, 1) := by decide +kernel
theorem dX8_tell_20 : decode cX8_tell 20 = .ok (.putfield 43, 3) := by decide +kernel
theorem dX8_tell_23 : decode cX8_tell 23 = .ok (.return_, 1) := by decide +kernel
def P_X8_tell (a0 : Nat) (x1 : Int64) (x2 : Int64) : PM Unit :=
cll0 (P_X8_divisor x1 x2) fun v1 =>
divL x1 v1 fun v2 =>
setL 8 15 a0 v2 <|
divL x2 v1 fun v3 =>
setL 8 16 a0 v3 <|
pureM ()
set_option maxHeartbeats 4000000 in
set_option maxRecDepth 100000 in
theorem W_X8_tell {Γ : Cx} (ok : OKc Γ cX8_tell RX8 1 "tell") (okr : OKr Γ cX8_tell (none)) (a0 : Nat) (x1 : Int64) (x2 : Int64) : SW Γ iU 0 [some (.ref a0), some (.long x1), none, some (.long x2), none, none, none] [] (P_X8_tell a0 x1 x2) := by
  unfold P_X8_tell
  refine sw_lload_n (z := x1) (pc' := 1) ok dX8_tell_0 rfl rfl ?_
  refine sw_lload_n (z := x2) (pc' := 2) ok dX8_tell_1 rfl rfl ?_
  refine sw_cll0_L (st := []) (as := [.long x1, .long x2]) (pc' := 5) ok (S_X8_divisor x1 x2) (by decide) lk_X8_309 rfl dX8_tell_2 rfl (Nat.le_of_ble_eq_true rfl) rfl (fun v1 => ?_)
  refine sw_lstore (pc' := 7) (l' := [some (.ref a0), some (.long x1), none, some (.long x2), none, some (.long v1), none]) ok dX8_tell_5 rfl (Nat.le_of_ble_eq_true rfl) rfl ?_
  refine sw_aload_n (z := a0) (pc' := 8) ok dX8_tell_7 rfl rfl ?_
  refine sw_lload_n (z := x1) (pc' := 9) ok dX8_tell_8 rfl rfl ?_
  refine sw_lload (z := v1) (pc' := 11) ok dX8_tell_9 rfl rfl ?_
  refine sw_divL (pc' := 12) ok dX8_tell_11 rfl (fun v2 => ?_)
  refine sw_setL (pc' := 15) ok fr_X8_280 dX8_tell_12 (fun h => by cases h) rfl ?_
  refine sw_aload_n (z := a0) (pc' := 16) ok dX8_tell_15 rfl rfl ?_
  refine sw_lload_n (z := x2) (pc' := 17) ok dX8_tell_16 rfl rfl ?_
  refine sw_lload (z := v1) (pc' := 19) ok dX8_tell_17 rfl rfl ?_
  refine sw_divL (pc' := 20) ok dX8_tell_19 rfl (fun v3 => ?_)
  refine sw_setL (pc' := 23) ok fr_X8_43 dX8_tell_20 (fun h => by cases h) rfl ?_
  exact sw_ret ok okr dX8_tell_23 trivial rfl
theorem S_X8_tell (a0 : Nat) (x1 : Int64) (x2 : Int64) : Sim 1 yX8_tell cX8_tell 7 (none) iU [.ref a0, .long x1, .long x2] (P_X8_tell a0 x1 x2) := Sim.intro wd_1143 (by decide) (by decide +kernel) (Nat.le_of_ble_eq_true rfl) (fun Γ ok okr => W_X8_tell ok okr a0 x1 x2)
theorem dX8_strength_0 : decode cX8_strength 0 = .ok (.iload_n 3, 1) := by decide +kernel
theorem dX8_strength_1 : decode cX8_strength 1 = .ok (.iconst 3, 1) := by decide +kernel
theorem dX8_strength_2 : decode cX8_strength 2 = .ok (.if_icmp .ne 13, 3) := by decide +kernel
theorem dX8_strength_5 : decode cX8_strength 5 = .ok (.aload_n 0, 1) := by decide +kernel
theorem dX8_strength_6 : decode cX8_strength 6 = .ok (.iconst 0, 1) := by decide +kernel
theorem dX8_strength_7 : decode cX8_strength 7 = .ok (.iload_n 1, 1) := by decide +kernel
theorem dX8_strength_8 : decode cX8_strength 8 = .ok (.iload_n 2, 1) := by decide +kernel
theorem dX8_strength_9 : decode cX8_strength 9 = .ok (.invokevirtual 201, 3) := by decide +kernel
theorem dX8_strength_12 : decode cX8_strength 12 = .ok (.goto 32, 3) := by decide +kernel
theorem dX8_strength_15 : decode cX8_strength 15 = .ok (.iload_n 3, 1) := by decide +kernel
theorem dX8_strength_16 : decode cX8_strength 16 = .ok (.iconst 1, 1) := by decide +kernel
theorem dX8_strength_17 : decode cX8_strength 17 = .ok (.if_icmp .ne 12, 3) := by decide +kernel
theorem dX8_strength_20 : decode cX8_strength 20 = .ok (.aload_n 0, 1) := by decide +kernel
theorem dX8_strength_21 : decode cX8_strength 21 = .ok (.iconst 0, 1) := by decide +kernel
theorem dX8_strength_22 : decode cX8_strength 22 = .ok (.iload_n 1, 1) := by decide +kernel
theorem dX8_strength_23 : decode cX8_strength 23 = .ok (.invokevirtual 176, 3) := by decide +kernel
theorem dX8_strength_26 : decode cX8_strength 26 = .ok (.goto 18, 3) := by decide +kernel
theorem dX8_strength_29 : decode cX8_strength 29 = .ok (.iload_n 3, 1) := by decide +kernel
theorem dX8_strength_30 : decode cX8_strength 30 = .ok (.iconst 2, 1) := by decide +kernel
theorem dX8_strength_31 : decode cX8_strength 31 = .ok (.if_icmp .ne 12, 3) := by decide +kernel
theorem dX8_strength_34 : decode cX8_strength 34 = .ok (.aload_n 0, 1) := by decide +kernel
theorem dX8_strength_35 : decode cX8_strength 35 = .ok (.iconst 0, 1) := by decide +kernel
theorem dX8_strength_36 : decode cX8_strength 36 = .ok (.iload_n 2, 1) := by decide +kernel
theorem dX8_strength_37 : decode cX8_strength 37 = .ok (.invokevirtual 176, 3) := by decide +kernel
theorem dX8_strength_40 : decode cX8_strength 40 = .ok (.goto 4, 3) := by decide +kernel
theorem dX8_strength_43 : decode cX8_strength 43 = .ok (.iconst 0, 1) := by decide +kernel
theorem dX8_strength_44 : decode cX8_strength 44 = .ok (.istore 4, 2) := by decide +kernel
theorem dX8_strength_46 : decode cX8_strength 46 = .ok (.bipush 60, 2) := by decide +kernel
theorem dX8_strength_48 : decode cX8_strength 48 = .ok (.aload_n 0, 1) := by decide +kernel
theorem dX8_strength_49 : decode cX8_strength 49 = .ok (.getfield 22, 3) := by decide +kernel
theorem dX8_strength_52 : decode cX8_strength 52 = .ok (.iconst 0, 1) := by decide +kernel
theorem dX8_strength_53 : decode cX8_strength 53 = .ok (.iaload, 1) := by decide +kernel
theorem dX8_strength_54 : decode cX8_strength 54 = .ok (.iconst 2, 1) := by decide +kernel
theorem dX8_strength_55 : decode cX8_strength 55 = .ok (.idiv, 1) := by decide +kernel
theorem dX8_strength_56 : decode cX8_strength 56 = .ok (.iload 4, 2) := by decide +kernel
theorem dX8_strength_58 : decode cX8_strength 58 = .ok (.iadd, 1) := by decide +kernel
theorem dX8_strength_59 : decode cX8_strength 59 = .ok (.invokestatic 208, 3) := by decide +kernel
theorem dX8_strength_62 : decode cX8_strength 62 = .ok (.ireturn, 1) := by decide +kernel
def P_X8_strength (a0 : Nat) (x1 : Int32) (x2 : Int32) (x3 : Int32) : PM Int32 :=
jn (fun (j1 : Int32) =>
getR 8 4 a0 fun v2 =>
ald v2 0 fun v3 =>
divI v3 2 fun v4 =>
cll0 (P_X8_least 60 (v4 + j1)) fun v5 =>
pureM v5) fun k6 =>
ifB (decide (¬ x3 = 3)) (
ifB (decide (¬ x3 = 1)) (
ifB (decide (¬ x3 = 2)) (
k6 0) (
cllV 8 a0 (P_X8_tellsIn a0 0 x2) fun v7 =>
k6 v7)) (
cllV 8 a0 (P_X8_tellsIn a0 0 x1) fun v8 =>
k6 v8)) (
cllV 8 a0 (P_X8_talkIn a0 0 x1 x2) fun v9 =>
k6 v9)
set_option maxHeartbeats 4000000 in
set_option maxRecDepth 100000 in
theorem W_X8_strength {Γ : Cx} (ok : OKc Γ cX8_strength RX8 6 "strength") (okr : OKr Γ cX8_strength (some .int)) (a0 : Nat) (x1 : Int32) (x2 : Int32) (x3 : Int32) : SW Γ iI 0 [some (.ref a0), some (.int x1), some (.int x2), some (.int x3), none] [] (P_X8_strength a0 x1 x2 x3) := by
  unfold P_X8_strength
  refine sw_iload_n (z := x3) (pc' := 1) ok dX8_strength_0 rfl rfl ?_
  refine sw_iconst (v := 3) (pc' := 2) ok dX8_strength_1 rfl cc_iconst_3 ?_
  refine sw_jn (fun k6 : Int32 → PM Int32 => ∀ (j1 : Int32), SW Γ iI 44 [some (.ref a0), none, none, none, none] [.int j1] (k6 j1)) ?_ (fun k6 hk6 => ?_)
  · intro j1
    refine sw_istore (pc' := 46) (l' := [some (.ref a0), none, none, none, some (.int j1)]) ok dX8_strength_44 rfl (Nat.le_of_ble_eq_true rfl) rfl ?_
    refine sw_bipush (v := 60) (pc' := 48) ok dX8_strength_46 rfl cc_bipush_60 ?_
    refine sw_aload_n (z := a0) (pc' := 49) ok dX8_strength_48 rfl rfl ?_
    refine sw_getR (pc' := 52) ok (fr_X8_22.g) dX8_strength_49 rfl (fun v2 => ?_)
    refine sw_iconst (v := 0) (pc' := 53) ok dX8_strength_52 rfl cc_iconst_0 ?_
    refine sw_ald (pc' := 54) ok dX8_strength_53 rfl (fun v3 => ?_)
    refine sw_iconst (v := 2) (pc' := 55) ok dX8_strength_54 rfl cc_iconst_2 ?_
    refine sw_divI (pc' := 56) ok dX8_strength_55 rfl (fun v4 => ?_)
    refine sw_iload (z := j1) (pc' := 58) ok dX8_strength_56 rfl rfl ?_
    refine sw_iadd (pc' := 59) ok dX8_strength_58 rfl ?_
    refine sw_cll0_I (st := []) (as := [.int 60, .int (v4 + j1)]) (pc' := 62) ok (S_X8_least 60 (v4 + j1)) (by decide) lk_X8_208 rfl dX8_strength_59 rfl (Nat.le_of_ble_eq_true rfl) rfl (fun v5 => ?_)
    exact sw_ret ok okr dX8_strength_62 trivial rfl
  refine sw_icmp_ne (tgt := 15) (pc' := 5) ok dX8_strength_2 (by decide) rfl ?_ ?_
  · refine sw_iload_n (z := x3) (pc' := 16) ok dX8_strength_15 rfl rfl ?_
    refine sw_iconst (v := 1) (pc' := 17) ok dX8_strength_16 rfl cc_iconst_1 ?_
    refine sw_icmp_ne (tgt := 29) (pc' := 20) ok dX8_strength_17 (by decide) rfl ?_ ?_
    · refine sw_iload_n (z := x3) (pc' := 30) ok dX8_strength_29 rfl rfl ?_
      refine sw_iconst (v := 2) (pc' := 31) ok dX8_strength_30 rfl cc_iconst_2 ?_
      refine sw_icmp_ne (tgt := 43) (pc' := 34) ok dX8_strength_31 (by decide) rfl ?_ ?_
      · refine sw_iconst (v := 0) (pc' := 44) ok dX8_strength_43 rfl cc_iconst_0 ?_
        refine sw_fg (l' := [some (.ref a0), none, none, none, none]) [true, false, false, false, false] rfl ?_
        exact hk6 0
      refine sw_aload_n (z := a0) (pc' := 35) ok dX8_strength_34 rfl rfl ?_
      refine sw_iconst (v := 0) (pc' := 36) ok dX8_strength_35 rfl cc_iconst_0 ?_
      refine sw_iload_n (z := x2) (pc' := 37) ok dX8_strength_36 rfl rfl ?_
      refine sw_cllV_I (st := []) (as := [.int 0, .int x2]) (pc' := 40) ok (S_X8_tellsIn a0 0 x2) (by decide) lk_X8_176 rfl dX8_strength_37 rfl (Nat.le_of_ble_eq_true rfl) rfl (fun v7 => ?_)
      refine sw_goto (tgt := 44) ok dX8_strength_40 (by decide) ?_
      refine sw_fg (l' := [some (.ref a0), none, none, none, none]) [true, false, false, false, false] rfl ?_
      exact hk6 v7
    refine sw_aload_n (z := a0) (pc' := 21) ok dX8_strength_20 rfl rfl ?_
    refine sw_iconst (v := 0) (pc' := 22) ok dX8_strength_21 rfl cc_iconst_0 ?_
    refine sw_iload_n (z := x1) (pc' := 23) ok dX8_strength_22 rfl rfl ?_
    refine sw_cllV_I (st := []) (as := [.int 0, .int x1]) (pc' := 26) ok (S_X8_tellsIn a0 0 x1) (by decide) lk_X8_176 rfl dX8_strength_23 rfl (Nat.le_of_ble_eq_true rfl) rfl (fun v8 => ?_)
    refine sw_goto (tgt := 44) ok dX8_strength_26 (by decide) ?_
    refine sw_fg (l' := [some (.ref a0), none, none, none, none]) [true, false, false, false, false] rfl ?_
    exact hk6 v8
  refine sw_aload_n (z := a0) (pc' := 6) ok dX8_strength_5 rfl rfl ?_
  refine sw_iconst (v := 0) (pc' := 7) ok dX8_strength_6 rfl cc_iconst_0 ?_
  refine sw_iload_n (z := x1) (pc' := 8) ok dX8_strength_7 rfl rfl ?_
  refine sw_iload_n (z := x2) (pc' := 9) ok dX8_strength_8 rfl rfl ?_
  refine sw_cllV_I (st := []) (as := [.int 0, .int x1, .int x2]) (pc' := 12) ok (S_X8_talkIn a0 0 x1 x2) (by decide) lk_X8_201 rfl dX8_strength_9 rfl (Nat.le_of_ble_eq_true rfl) rfl (fun v9 => ?_)
  refine sw_goto (tgt := 44) ok dX8_strength_12 (by decide) ?_
  refine sw_fg (l' := [some (.ref a0), none, none, none, none]) [true, false, false, false, false] rfl ?_
  exact hk6 v9
theorem S_X8_strength (a0 : Nat) (x1 : Int32) (x2 : Int32) (x3 : Int32) : Sim 6 yX8_strength cX8_strength 5 (some .int) iI [.ref a0, .int x1, .int x2, .int x3] (P_X8_strength a0 x1 x2 x3) := Sim.intro wd_1144 (by decide) (by decide +kernel) (Nat.le_of_ble_eq_true rfl) (fun Γ ok okr => W_X8_strength ok okr a0 x1 x2 x3)
theorem dX8_weight_0 : decode cX8_weight 0 = .ok (.iload_n 0, 1) := by decide +kernel
theorem dX8_weight_1 : decode cX8_weight 1 = .ok (.iconst 0, 1) := by decide +kernel
theorem dX8_weight_2 : decode cX8_weight 2 = .ok (.invokestatic 179, 3) := by decide +kernel
theorem dX8_weight_5 : decode cX8_weight 5 = .ok (.ifCond .eq 10, 3) := by decide +kernel
theorem dX8_weight_8 : decode cX8_weight 8 = .ok (.bipush 12, 2) := by decide +kernel
theorem dX8_weight_10 : decode cX8_weight 10 = .ok (.iload_n 1, 1) := by decide +kernel
theorem dX8_weight_11 : decode cX8_weight 11 = .ok (.isub, 1) := by decide +kernel
theorem dX8_weight_12 : decode cX8_weight 12 = .ok (.goto 4, 3) := by decide +kernel
theorem dX8_weight_15 : decode cX8_weight 15 = .ok (.iload_n 1, 1) := by decide +kernel
theorem dX8_weight_16 : decode cX8_weight 16 = .ok (.iload_n 0, 1) := by decide +kernel
theorem dX8_weight_17 : decode cX8_weight 17 = .ok (.iconst 1, 1) := by decide +kernel
theorem dX8_weight_18 : decode cX8_weight 18 = .ok (.invokestatic 179, 3) := by decide +kernel
theorem dX8_weight_21 : decode cX8_weight 21 = .ok (.ifCond .eq 10, 3) := by decide +kernel
theorem dX8_weight_24 : decode cX8_weight 24 = .ok (.bipush 12, 2) := by decide +kernel
theorem dX8_weight_26 : decode cX8_weight 26 = .ok (.iload_n 1, 1) := by decide +kernel
theorem dX8_weight_27 : decode cX8_weight 27 = .ok (.isub, 1) := by decide +kernel
theorem dX8_weight_28 : decode cX8_weight 28 = .ok (.goto 4, 3) := by decide +kernel
theorem dX8_weight_31 : decode cX8_weight 31 = .ok (.iload_n 1, 1) := by decide +kernel
theorem dX8_weight_32 : decode cX8_weight 32 = .ok (.imul, 1) := by decide +kernel
theorem dX8_weight_33 : decode cX8_weight 33 = .ok (.ireturn, 1) := by decide +kernel
def P_X8_weight (x0 : Int32) (x1 : Int32) : PM Int32 :=
cll0 (P_X8_has x0 0) fun v1 =>
jn (fun (j2 : Int32) =>
cll0 (P_X8_has x0 1) fun v3 =>
jn (fun (j4 : Int32) (j5 : Int32) =>
pureM (j4 * j5)) fun k6 =>
ifB (decide (v3 = 0)) (
k6 j2 x1) (
k6 j2 (12 - x1))) fun k7 =>
ifB (decide (v1 = 0)) (
k7 x1) (
k7 (12 - x1))
set_option maxHeartbeats 4000000 in
set_option maxRecDepth 100000 in
theorem W_X8_weight {Γ : Cx} (ok : OKc Γ cX8_weight RX8 1 "weight") (okr : OKr Γ cX8_weight (some .int)) (x0 : Int32) (x1 : Int32) : SW Γ iI 0 [some (.int x0), some (.int x1)] [] (P_X8_weight x0 x1) := by
  unfold P_X8_weight
  refine sw_iload_n (z := x0) (pc' := 1) ok dX8_weight_0 rfl rfl ?_
  refine sw_iconst (v := 0) (pc' := 2) ok dX8_weight_1 rfl cc_iconst_0 ?_
  refine sw_cll0_I (st := []) (as := [.int x0, .int 0]) (pc' := 5) ok (S_X8_has x0 0) (by decide) lk_X8_179 rfl dX8_weight_2 rfl (Nat.le_of_ble_eq_true rfl) rfl (fun v1 => ?_)
  refine sw_jn (fun k7 : Int32 → PM Int32 => ∀ (j2 : Int32), SW Γ iI 16 [some (.int x0), some (.int x1)] [.int j2] (k7 j2)) ?_ (fun k7 hk7 => ?_)
  · intro j2
    refine sw_iload_n (z := x0) (pc' := 17) ok dX8_weight_16 rfl rfl ?_
    refine sw_iconst (v := 1) (pc' := 18) ok dX8_weight_17 rfl cc_iconst_1 ?_
    refine sw_cll0_I (st := [.int j2]) (as := [.int x0, .int 1]) (pc' := 21) ok (S_X8_has x0 1) (by decide) lk_X8_179 rfl dX8_weight_18 rfl (Nat.le_of_ble_eq_true rfl) rfl (fun v3 => ?_)
    refine sw_jn (fun k6 : Int32 → Int32 → PM Int32 => ∀ (j4 : Int32) (j5 : Int32), SW Γ iI 32 [none, none] [.int j5, .int j4] (k6 j4 j5)) ?_ (fun k6 hk6 => ?_)
    · intro j4 j5
      refine sw_imul (pc' := 33) ok dX8_weight_32 rfl ?_
      exact sw_ret ok okr dX8_weight_33 trivial rfl
    refine sw_if_eq (tgt := 31) (pc' := 24) ok dX8_weight_21 (by decide) rfl ?_ ?_
    · refine sw_iload_n (z := x1) (pc' := 32) ok dX8_weight_31 rfl rfl ?_
      refine sw_fg (l' := [none, none]) [false, false] rfl ?_
      exact hk6 j2 x1
    refine sw_bipush (v := 12) (pc' := 26) ok dX8_weight_24 rfl cc_bipush_12 ?_
    refine sw_iload_n (z := x1) (pc' := 27) ok dX8_weight_26 rfl rfl ?_
    refine sw_isub (pc' := 28) ok dX8_weight_27 rfl ?_
    refine sw_goto (tgt := 32) ok dX8_weight_28 (by decide) ?_
    refine sw_fg (l' := [none, none]) [false, false] rfl ?_
    exact hk6 j2 (12 - x1)
  refine sw_if_eq (tgt := 15) (pc' := 8) ok dX8_weight_5 (by decide) rfl ?_ ?_
  · refine sw_iload_n (z := x1) (pc' := 16) ok dX8_weight_15 rfl rfl ?_
    exact hk7 x1
  refine sw_bipush (v := 12) (pc' := 10) ok dX8_weight_8 rfl cc_bipush_12 ?_
  refine sw_iload_n (z := x1) (pc' := 11) ok dX8_weight_10 rfl rfl ?_
  refine sw_isub (pc' := 12) ok dX8_weight_11 rfl ?_
  refine sw_goto (tgt := 16) ok dX8_weight_12 (by decide) ?_
  exact hk7 (12 - x1)
theorem S_X8_weight (x0 : Int32) (x1 : Int32) : Sim 1 yX8_weight cX8_weight 2 (some .int) iI [.int x0, .int x1] (P_X8_weight x0 x1) := Sim.intro wd_1145 (by decide) (by decide +kernel) (Nat.le_of_ble_eq_true rfl) (fun Γ ok okr => W_X8_weight ok okr x0 x1)
