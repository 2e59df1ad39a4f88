/-! Programs and walks, printed by program (gen.py). -/
theorem dX8_init_0 : decode cX8_init 0 = .ok (.aload_n 0, 1) := by decide +kernel
theorem dX8_init_1 : decode cX8_init 1 = .ok (.invokespecial 1, 3) := by decide +kernel
theorem dX8_init_4 : decode cX8_init 4 = .ok (.aload_n 0, 1) := by decide +kernel
theorem dX8_init_5 : decode cX8_init 5 = .ok (.sipush 240, 3) := by decide +kernel
theorem dX8_init_8 : decode cX8_init 8 = .ok (.newarray .int, 2) := by decide +kernel
theorem dX8_init_10 : decode cX8_init 10 = .ok (.putfield 7, 3) := by decide +kernel
theorem dX8_init_13 : decode cX8_init 13 = .ok (.aload_n 0, 1) := by decide +kernel
theorem dX8_init_14 : decode cX8_init 14 = .ok (.bipush 6, 2) := by decide +kernel
theorem dX8_init_16 : decode cX8_init 16 = .ok (.newarray .int, 2) := by decide +kernel
theorem dX8_init_18 : decode cX8_init 18 = .ok (.putfield 13, 3) := by decide +kernel
theorem dX8_init_21 : decode cX8_init 21 = .ok (.aload_n 0, 1) := by decide +kernel
theorem dX8_init_22 : decode cX8_init 22 = .ok (.sipush 240, 3) := by decide +kernel
theorem dX8_init_25 : decode cX8_init 25 = .ok (.newarray .int, 2) := by decide +kernel
theorem dX8_init_27 : decode cX8_init 27 = .ok (.putfield 16, 3) := by decide +kernel
theorem dX8_init_30 : decode cX8_init 30 = .ok (.aload_n 0, 1) := by decide +kernel
theorem dX8_init_31 : decode cX8_init 31 = .ok (.iconst 4, 1) := by decide +kernel
theorem dX8_init_32 : decode cX8_init 32 = .ok (.newarray .int, 2) := by decide +kernel
theorem dX8_init_34 : decode cX8_init 34 = .ok (.putfield 19, 3) := by decide +kernel
theorem dX8_init_37 : decode cX8_init 37 = .ok (.aload_n 0, 1) := by decide +kernel
theorem dX8_init_38 : decode cX8_init 38 = .ok (.sipush 1848, 3) := by decide +kernel
theorem dX8_init_41 : decode cX8_init 41 = .ok (.newarray .int, 2) := by decide +kernel
theorem dX8_init_43 : decode cX8_init 43 = .ok (.putfield 22, 3) := by decide +kernel
theorem dX8_init_46 : decode cX8_init 46 = .ok (.aload_n 0, 1) := by decide +kernel
theorem dX8_init_47 : decode cX8_init 47 = .ok (.iconst 3, 1) := by decide +kernel
theorem dX8_init_48 : decode cX8_init 48 = .ok (.newarray .int, 2) := by decide +kernel
theorem dX8_init_50 : decode cX8_init 50 = .ok (.putfield 25, 3) := by decide +kernel
theorem dX8_init_53 : decode cX8_init 53 = .ok (.aload_n 0, 1) := by decide +kernel
theorem dX8_init_54 : decode cX8_init 54 = .ok (.bipush 6, 2) := by decide +kernel
theorem dX8_init_56 : decode cX8_init 56 = .ok (.newarray .int, 2) := by decide +kernel
theorem dX8_init_58 : decode cX8_init 58 = .ok (.putfield 28, 3) := by decide +kernel
theorem dX8_init_61 : decode cX8_init 61 = .ok (.aload_n 0, 1) := by decide +kernel
theorem dX8_init_62 : decode cX8_init 62 = .ok (.bipush 6, 2) := by decide +kernel
theorem dX8_init_64 : decode cX8_init 64 = .ok (.newarray .int, 2) := by decide +kernel
theorem dX8_init_66 : decode cX8_init 66 = .ok (.putfield 31, 3) := by decide +kernel
theorem dX8_init_69 : decode cX8_init 69 = .ok (.aload_n 0, 1) := by decide +kernel
theorem dX8_init_70 : decode cX8_init 70 = .ok (.bipush 6, 2) := by decide +kernel
theorem dX8_init_72 : decode cX8_init 72 = .ok (.newarray .int, 2) := by decide +kernel
theorem dX8_init_74 : decode cX8_init 74 = .ok (.putfield 34, 3) := by decide +kernel
theorem dX8_init_77 : decode cX8_init 77 = .ok (.aload_n 0, 1) := by decide +kernel
theorem dX8_init_78 : decode cX8_init 78 = .ok (.bipush 6, 2) := by decide +kernel
theorem dX8_init_80 : decode cX8_init 80 = .ok (.newarray .int, 2) := by decide +kernel
theorem dX8_init_82 : decode cX8_init 82 = .ok (.putfield 37, 3) := by decide +kernel
theorem dX8_init_85 : decode cX8_init 85 = .ok (.aload_n 0, 1) := by decide +kernel
theorem dX8_init_86 : decode cX8_init 86 = .ok (.bipush 6, 2) := by decide +kernel
theorem dX8_init_88 : decode cX8_init 88 = .ok (.newarray .int, 2) := by decide +kernel
theorem dX8_init_90 : decode cX8_init 90 = .ok (.putfield 40, 3) := by decide +kernel
theorem dX8_init_93 : decode cX8_init 93 = .ok (.aload_n 0, 1) := by decide +kernel
theorem dX8_init_94 : decode cX8_init 94 = .ok (.lconst 1, 1) := by decide +kernel
theorem dX8_init_95 : decode cX8_init 95 = .ok (.putfield 43, 3) := by decide +kernel
theorem dX8_init_98 : decode cX8_init 98 = .ok (.aload_n 0, 1) := by decide +kernel
theorem dX8_init_99 : decode cX8_init 99 = .ok (.bipush 40, 2) := by decide +kernel
theorem dX8_init_101 : decode cX8_init 101 = .ok (.newarray .int, 2) := by decide +kernel
theorem dX8_init_103 : decode cX8_init 103 = .ok (.putfield 47, 3) := by decide +kernel
theorem dX8_init_106 : decode cX8_init 106 = .ok (.aload_n 0, 1) := by decide +kernel
theorem dX8_init_107 : decode cX8_init 107 = .ok (.bipush 6, 2) := by decide +kernel
theorem dX8_init_109 : decode cX8_init 109 = .ok (.newarray .int, 2) := by decide +kernel
theorem dX8_init_111 : decode cX8_init 111 = .ok (.putfield 50, 3) := by decide +kernel
theorem dX8_init_114 : decode cX8_init 114 = .ok (.aload_n 0, 1) := by decide +kernel
theorem dX8_init_115 : decode cX8_init 115 = .ok (.bipush 6, 2) := by decide +kernel
theorem dX8_init_117 : decode cX8_init 117 = .ok (.newarray .int, 2) := by decide +kernel
theorem dX8_init_119 : decode cX8_init 119 = .ok (.putfield 53, 3) := by decide +kernel
theorem dX8_init_122 : decode cX8_init 122 = .ok (.aload_n 0, 1) := by decide +kernel
theorem dX8_init_123 : decode cX8_init 123 = .ok (.bipush 6, 2) := by decide +kernel
theorem dX8_init_125 : decode cX8_init 125 = .ok (.newarray .int, 2) := by decide +kernel
theorem dX8_init_127 : decode cX8_init 127 = .ok (.putfield 56, 3) := by decide +kernel
theorem dX8_init_130 : decode cX8_init 130 = .ok (.aload_n 0, 1) := by decide +kernel
theorem dX8_init_131 : decode cX8_init 131 = .ok (.bipush 6, 2) := by decide +kernel
theorem dX8_init_133 : decode cX8_init 133 = .ok (.newarray .int, 2) := by decide +kernel
theorem dX8_init_135 : decode cX8_init 135 = .ok (.putfield 59, 3) := by decide +kernel
theorem dX8_init_138 : decode cX8_init 138 = .ok (.aload_n 0, 1) := by decide +kernel
theorem dX8_init_139 : decode cX8_init 139 = .ok (.bipush 15, 2) := by decide +kernel
theorem dX8_init_141 : decode cX8_init 141 = .ok (.newarray .int, 2) := by decide +kernel
theorem dX8_init_143 : decode cX8_init 143 = .ok (.putfield 62, 3) := by decide +kernel
theorem dX8_init_146 : decode cX8_init 146 = .ok (.aload_n 0, 1) := by decide +kernel
theorem dX8_init_147 : decode cX8_init 147 = .ok (.bipush 6, 2) := by decide +kernel
theorem dX8_init_149 : decode cX8_init 149 = .ok (.newarray .int, 2) := by decide +kernel
theorem dX8_init_151 : decode cX8_init 151 = .ok (.putfield 65, 3) := by decide +kernel
theorem dX8_init_154 : decode cX8_init 154 = .ok (.aload_n 0, 1) := by decide +kernel
theorem dX8_init_155 : decode cX8_init 155 = .ok (.bipush 6, 2) := by decide +kernel
theorem dX8_init_157 : decode cX8_init 157 = .ok (.newarray .int, 2) := by decide +kernel
theorem dX8_init_159 : decode cX8_init 159 = .ok (.putfield 68, 3) := by decide +kernel
theorem dX8_init_162 : decode cX8_init 162 = .ok (.aload_n 0, 1) := by decide +kernel
theorem dX8_init_163 : decode cX8_init 163 = .ok (.sipush 3375, 3) := by decide +kernel
theorem dX8_init_166 : decode cX8_init 166 = .ok (.newarray .int, 2) := by decide +kernel
theorem dX8_init_168 : decode cX8_init 168 = .ok (.putfield 71, 3) := by decide +kernel
theorem dX8_init_171 : decode cX8_init 171 = .ok (.iconst 0, 1) := by decide +kernel
theorem dX8_init_172 : decode cX8_init 172 = .ok (.istore_n 1, 1) := by decide +kernel
theorem dX8_init_173 : decode cX8_init 173 = .ok (.iload_n 1, 1) := by decide +kernel
theorem dX8_init_174 : decode cX8_init 174 = .ok (.bipush 6, 2) := by decide +kernel
theorem dX8_init_176 : decode cX8_init 176 = .ok (.if_icmp .ge 16, 3) := by decide +kernel
theorem dX8_init_179 : decode cX8_init 179 = .ok (.aload_n 0, 1) := by decide +kernel
theorem dX8_init_180 : decode cX8_init 180 = .ok (.getfield 13, 3) := by decide +kernel
theorem dX8_init_183 : decode cX8_init 183 = .ok (.iload_n 1, 1) := by decide +kernel
theorem dX8_init_184 : decode cX8_init 184 = .ok (.iconst (-1), 1) := by decide +kernel
theorem dX8_init_185 : decode cX8_init 185 = .ok (.iastore, 1) := by decide +kernel
theorem dX8_init_186 : decode cX8_init 186 = .ok (.iinc 1 1, 3) := by decide +kernel
theorem dX8_init_189 : decode cX8_init 189 = .ok (.goto (-16), 3) := by decide +kernel
theorem dX8_init_192 : decode cX8_init 192 = .ok (.iconst 0, 1) := by decide +kernel
theorem dX8_init_193 : decode cX8_init 193 = .ok (.istore_n 1, 1) := by decide +kernel
theorem dX8_init_194 : decode cX8_init 194 = .ok (.iload_n 1, 1) := by decide +kernel
theorem dX8_init_195 : decode cX8_init 195 = .ok (.iconst 4, 1) := by decide +kernel
theorem dX8_init_196 : decode cX8_init 196 = .ok (.if_icmp .ge 16, 3) := by decide +kernel
theorem dX8_init_199 : decode cX8_init 199 = .ok (.aload_n 0, 1) := by decide +kernel
theorem dX8_init_200 : decode cX8_init 200 = .ok (.getfield 19, 3) := by decide +kernel
theorem dX8_init_203 : decode cX8_init 203 = .ok (.iload_n 1, 1) := by decide +kernel
theorem dX8_init_204 : decode cX8_init 204 = .ok (.iconst (-1), 1) := by decide +kernel
theorem dX8_init_205 : decode cX8_init 205 = .ok (.iastore, 1) := by decide +kernel
theorem dX8_init_206 : decode cX8_init 206 = .ok (.iinc 1 1, 3) := by decide +kernel
theorem dX8_init_209 : decode cX8_init 209 = .ok (.goto (-15), 3) := by decide +kernel
theorem dX8_init_212 : decode cX8_init 212 = .ok (.iconst 0, 1) := by decide +kernel
theorem dX8_init_213 : decode cX8_init 213 = .ok (.istore_n 1, 1) := by decide +kernel
theorem dX8_init_214 : decode cX8_init 214 = .ok (.iload_n 1, 1) := by decide +kernel
theorem dX8_init_215 : decode cX8_init 215 = .ok (.iconst 3, 1) := by decide +kernel
theorem dX8_init_216 : decode cX8_init 216 = .ok (.if_icmp .ge 16, 3) := by decide +kernel
theorem dX8_init_219 : decode cX8_init 219 = .ok (.aload_n 0, 1) := by decide +kernel
theorem dX8_init_220 : decode cX8_init 220 = .ok (.getfield 25, 3) := by decide +kernel
theorem dX8_init_223 : decode cX8_init 223 = .ok (.iload_n 1, 1) := by decide +kernel
theorem dX8_init_224 : decode cX8_init 224 = .ok (.iconst (-1), 1) := by decide +kernel
theorem dX8_init_225 : decode cX8_init 225 = .ok (.iastore, 1) := by decide +kernel
theorem dX8_init_226 : decode cX8_init 226 = .ok (.iinc 1 1, 3) := by decide +kernel
theorem dX8_init_229 : decode cX8_init 229 = .ok (.goto (-15), 3) := by decide +kernel
theorem dX8_init_232 : decode cX8_init 232 = .ok (.return_, 1) := by decide +kernel
def P_X8_init_214 (p0 : Nat) : Nat → Int32 → PM Unit
  | 0, _ => failM
  | n + 1, q1 =>
    ifB (decide (3 ≤ q1)) (
    pureM ()) (
    getR 8 5 p0 fun v21 =>
    ast v21 q1 ((-1)) <|
    P_X8_init_214 p0 n (q1 + 1))
def P_X8_init_194 (k_212 : PM Unit) (p0 : Nat) : Nat → Int32 → PM Unit
  | 0, _ => failM
  | n + 1, q1 =>
    ifB (decide (4 ≤ q1)) (
    k_212) (
    getR 8 3 p0 fun v23 =>
    ast v23 q1 ((-1)) <|
    P_X8_init_194 k_212 p0 n (q1 + 1))
def P_X8_init_173 (k_192 : PM Unit) (p0 : Nat) : Nat → Int32 → PM Unit
  | 0, _ => failM
  | n + 1, q1 =>
    ifB (decide (6 ≤ q1)) (
    k_192) (
    getR 8 1 p0 fun v25 =>
    ast v25 q1 ((-1)) <|
    P_X8_init_173 k_192 p0 n (q1 + 1))
def P_X8_init (a0 : Nat) : PM Unit :=
newA 240 fun o1 =>
setR 8 0 a0 o1 <|
newA 6 fun o2 =>
setR 8 1 a0 o2 <|
newA 240 fun o3 =>
setR 8 2 a0 o3 <|
newA 4 fun o4 =>
setR 8 3 a0 o4 <|
newA 1848 fun o5 =>
setR 8 4 a0 o5 <|
newA 3 fun o6 =>
setR 8 5 a0 o6 <|
newA 6 fun o7 =>
setR 8 6 a0 o7 <|
newA 6 fun o8 =>
setR 8 7 a0 o8 <|
newA 6 fun o9 =>
setR 8 8 a0 o9 <|
newA 6 fun o10 =>
setR 8 9 a0 o10 <|
newA 6 fun o11 =>
setR 8 13 a0 o11 <|
setL 8 16 a0 1 <|
newA 40 fun o12 =>
setR 8 17 a0 o12 <|
newA 6 fun o13 =>
setR 8 24 a0 o13 <|
newA 6 fun o14 =>
setR 8 25 a0 o14 <|
newA 6 fun o15 =>
setR 8 26 a0 o15 <|
newA 6 fun o16 =>
setR 8 27 a0 o16 <|
newA 15 fun o17 =>
setR 8 28 a0 o17 <|
newA 6 fun o18 =>
setR 8 34 a0 o18 <|
newA 6 fun o19 =>
setR 8 35 a0 o19 <|
newA 3375 fun o20 =>
setR 8 36 a0 o20 <|
jn (
jn (
P_X8_init_214 a0 4000 0) fun k22 =>
P_X8_init_194 k22 a0 4000 0) fun k24 =>
P_X8_init_173 k24 a0 4000 0
set_option maxHeartbeats 4000000 in
set_option maxRecDepth 100000 in
theorem W_X8_init_214 {Γ : Cx} (ok : OKc Γ cX8_init RX8 1 "<init>") (okr : OKr Γ cX8_init (none)) (p0 : Nat) : ∀ (n : Nat) (q1 : Int32), SW Γ iU 214 [some (.ref p0), some (.int q1)] [] (P_X8_init_214 p0 n q1) := by
  intro n
  induction n with
  | zero =>
    intros
    exact sw_fail
  | succ n ih =>
    intro q1
    unfold P_X8_init_214
    refine sw_iload_n (z := q1) (pc' := 215) ok dX8_init_214 rfl rfl ?_
    refine sw_iconst (v := 3) (pc' := 216) ok dX8_init_215 rfl cc_iconst_3 ?_
    refine sw_icmp_ge (tgt := 232) (pc' := 219) ok dX8_init_216 (by decide) rfl ?_ ?_
    · exact sw_ret ok okr dX8_init_232 trivial rfl
    refine sw_aload_n (z := p0) (pc' := 220) ok dX8_init_219 rfl rfl ?_
    refine sw_getR (pc' := 223) ok (fr_X8_25.g) dX8_init_220 rfl (fun v21 => ?_)
    refine sw_iload_n (z := q1) (pc' := 224) ok dX8_init_223 rfl rfl ?_
    refine sw_iconst (v := (-1)) (pc' := 225) ok dX8_init_224 rfl cc_iconst_m1 ?_
    refine sw_ast (pc' := 226) ok dX8_init_225 rfl ?_
    refine sw_iinc (z := q1) (v := q1 + 1) (pc' := 229) (l' := [some (.ref p0), some (.int (q1 + 1))]) ok dX8_init_226 rfl rfl (by rw [cc_iconst_1]) rfl ?_
    refine sw_goto (tgt := 214) ok dX8_init_229 (by decide) ?_
    exact ih (q1 + 1)
set_option maxHeartbeats 4000000 in
set_option maxRecDepth 100000 in
theorem W_X8_init_194 {Γ : Cx} (ok : OKc Γ cX8_init RX8 1 "<init>") (okr : OKr Γ cX8_init (none)) (k_212 : PM Unit) (p0 : Nat) (hk_212 : SW Γ iU 212 [some (.ref p0), none] [] (k_212)) : ∀ (n : Nat) (q1 : Int32), SW Γ iU 194 [some (.ref p0), some (.int q1)] [] (P_X8_init_194 k_212 p0 n q1) := by
  intro n
  induction n with
  | zero =>
    intros
    exact sw_fail
  | succ n ih =>
    intro q1
    unfold P_X8_init_194
    refine sw_iload_n (z := q1) (pc' := 195) ok dX8_init_194 rfl rfl ?_
    refine sw_iconst (v := 4) (pc' := 196) ok dX8_init_195 rfl cc_iconst_4 ?_
    refine sw_icmp_ge (tgt := 212) (pc' := 199) ok dX8_init_196 (by decide) rfl ?_ ?_
    · refine sw_fg (l' := [some (.ref p0), none]) [true, false] rfl ?_
      exact hk_212
    refine sw_aload_n (z := p0) (pc' := 200) ok dX8_init_199 rfl rfl ?_
    refine sw_getR (pc' := 203) ok (fr_X8_19.g) dX8_init_200 rfl (fun v23 => ?_)
    refine sw_iload_n (z := q1) (pc' := 204) ok dX8_init_203 rfl rfl ?_
    refine sw_iconst (v := (-1)) (pc' := 205) ok dX8_init_204 rfl cc_iconst_m1 ?_
    refine sw_ast (pc' := 206) ok dX8_init_205 rfl ?_
    refine sw_iinc (z := q1) (v := q1 + 1) (pc' := 209) (l' := [some (.ref p0), some (.int (q1 + 1))]) ok dX8_init_206 rfl rfl (by rw [cc_iconst_1]) rfl ?_
    refine sw_goto (tgt := 194) ok dX8_init_209 (by decide) ?_
    exact ih (q1 + 1)
set_option maxHeartbeats 4000000 in
set_option maxRecDepth 100000 in
theorem W_X8_init_173 {Γ : Cx} (ok : OKc Γ cX8_init RX8 1 "<init>") (okr : OKr Γ cX8_init (none)) (k_192 : PM Unit) (p0 : Nat) (hk_192 : SW Γ iU 192 [some (.ref p0), none] [] (k_192)) : ∀ (n : Nat) (q1 : Int32), SW Γ iU 173 [some (.ref p0), some (.int q1)] [] (P_X8_init_173 k_192 p0 n q1) := by
  intro n
  induction n with
  | zero =>
    intros
    exact sw_fail
  | succ n ih =>
    intro q1
    unfold P_X8_init_173
    refine sw_iload_n (z := q1) (pc' := 174) ok dX8_init_173 rfl rfl ?_
    refine sw_bipush (v := 6) (pc' := 176) ok dX8_init_174 rfl cc_bipush_6 ?_
    refine sw_icmp_ge (tgt := 192) (pc' := 179) ok dX8_init_176 (by decide) rfl ?_ ?_
    · refine sw_fg (l' := [some (.ref p0), none]) [true, false] rfl ?_
      exact hk_192
    refine sw_aload_n (z := p0) (pc' := 180) ok dX8_init_179 rfl rfl ?_
    refine sw_getR (pc' := 183) ok (fr_X8_13.g) dX8_init_180 rfl (fun v25 => ?_)
    refine sw_iload_n (z := q1) (pc' := 184) ok dX8_init_183 rfl rfl ?_
    refine sw_iconst (v := (-1)) (pc' := 185) ok dX8_init_184 rfl cc_iconst_m1 ?_
    refine sw_ast (pc' := 186) ok dX8_init_185 rfl ?_
    refine sw_iinc (z := q1) (v := q1 + 1) (pc' := 189) (l' := [some (.ref p0), some (.int (q1 + 1))]) ok dX8_init_186 rfl rfl (by rw [cc_iconst_1]) rfl ?_
    refine sw_goto (tgt := 173) ok dX8_init_189 (by decide) ?_
    exact ih (q1 + 1)
set_option maxHeartbeats 4000000 in
set_option maxRecDepth 100000 in
theorem W_X8_init {Γ : Cx} (ok : OKc Γ cX8_init RX8 1 "<init>") (okr : OKr Γ cX8_init (none)) (a0 : Nat) : SW Γ iU 0 [some (.ref a0), none] [] (P_X8_init a0) := by
  unfold P_X8_init
  refine sw_aload_n (z := a0) (pc' := 1) ok dX8_init_0 rfl rfl ?_
  refine sw_obj (pc' := 4) ok wd_452 wd_1 wd_2 (by decide) dX8_init_1 rfl (Nat.le_of_ble_eq_true rfl) ?_
  refine sw_aload_n (z := a0) (pc' := 5) ok dX8_init_4 rfl rfl ?_
  refine sw_sipush (v := 240) (pc' := 8) ok dX8_init_5 rfl cc_sipush_240 ?_
  refine sw_newA (pc' := 10) ok wd_3 dX8_init_8 rfl (fun o1 => ?_)
  refine sw_setR (pc' := 13) ok fr_X8_7 (fun _ => ⟨rfl, rfl⟩) dX8_init_10 (fun _ => rfl) rfl ?_
  refine sw_aload_n (z := a0) (pc' := 14) ok dX8_init_13 rfl rfl ?_
  refine sw_bipush (v := 6) (pc' := 16) ok dX8_init_14 rfl cc_bipush_6 ?_
  refine sw_newA (pc' := 18) ok wd_3 dX8_init_16 rfl (fun o2 => ?_)
  refine sw_setR (pc' := 21) ok fr_X8_13 (fun _ => ⟨rfl, rfl⟩) dX8_init_18 (fun _ => rfl) rfl ?_
  refine sw_aload_n (z := a0) (pc' := 22) ok dX8_init_21 rfl rfl ?_
  refine sw_sipush (v := 240) (pc' := 25) ok dX8_init_22 rfl cc_sipush_240 ?_
  refine sw_newA (pc' := 27) ok wd_3 dX8_init_25 rfl (fun o3 => ?_)
  refine sw_setR (pc' := 30) ok fr_X8_16 (fun _ => ⟨rfl, rfl⟩) dX8_init_27 (fun _ => rfl) rfl ?_
  refine sw_aload_n (z := a0) (pc' := 31) ok dX8_init_30 rfl rfl ?_
  refine sw_iconst (v := 4) (pc' := 32) ok dX8_init_31 rfl cc_iconst_4 ?_
  refine sw_newA (pc' := 34) ok wd_3 dX8_init_32 rfl (fun o4 => ?_)
  refine sw_setR (pc' := 37) ok fr_X8_19 (fun _ => ⟨rfl, rfl⟩) dX8_init_34 (fun _ => rfl) rfl ?_
  refine sw_aload_n (z := a0) (pc' := 38) ok dX8_init_37 rfl rfl ?_
  refine sw_sipush (v := 1848) (pc' := 41) ok dX8_init_38 rfl cc_sipush_1848 ?_
  refine sw_newA (pc' := 43) ok wd_3 dX8_init_41 rfl (fun o5 => ?_)
  refine sw_setR (pc' := 46) ok fr_X8_22 (fun _ => ⟨rfl, rfl⟩) dX8_init_43 (fun _ => rfl) rfl ?_
  refine sw_aload_n (z := a0) (pc' := 47) ok dX8_init_46 rfl rfl ?_
  refine sw_iconst (v := 3) (pc' := 48) ok dX8_init_47 rfl cc_iconst_3 ?_
  refine sw_newA (pc' := 50) ok wd_3 dX8_init_48 rfl (fun o6 => ?_)
  refine sw_setR (pc' := 53) ok fr_X8_25 (fun _ => ⟨rfl, rfl⟩) dX8_init_50 (fun _ => rfl) rfl ?_
  refine sw_aload_n (z := a0) (pc' := 54) ok dX8_init_53 rfl rfl ?_
  refine sw_bipush (v := 6) (pc' := 56) ok dX8_init_54 rfl cc_bipush_6 ?_
  refine sw_newA (pc' := 58) ok wd_3 dX8_init_56 rfl (fun o7 => ?_)
  refine sw_setR (pc' := 61) ok fr_X8_28 (fun _ => ⟨rfl, rfl⟩) dX8_init_58 (fun _ => rfl) rfl ?_
  refine sw_aload_n (z := a0) (pc' := 62) ok dX8_init_61 rfl rfl ?_
  refine sw_bipush (v := 6) (pc' := 64) ok dX8_init_62 rfl cc_bipush_6 ?_
  refine sw_newA (pc' := 66) ok wd_3 dX8_init_64 rfl (fun o8 => ?_)
  refine sw_setR (pc' := 69) ok fr_X8_31 (fun _ => ⟨rfl, rfl⟩) dX8_init_66 (fun _ => rfl) rfl ?_
  refine sw_aload_n (z := a0) (pc' := 70) ok dX8_init_69 rfl rfl ?_
  refine sw_bipush (v := 6) (pc' := 72) ok dX8_init_70 rfl cc_bipush_6 ?_
  refine sw_newA (pc' := 74) ok wd_3 dX8_init_72 rfl (fun o9 => ?_)
  refine sw_setR (pc' := 77) ok fr_X8_34 (fun _ => ⟨rfl, rfl⟩) dX8_init_74 (fun _ => rfl) rfl ?_
  refine sw_aload_n (z := a0) (pc' := 78) ok dX8_init_77 rfl rfl ?_
  refine sw_bipush (v := 6) (pc' := 80) ok dX8_init_78 rfl cc_bipush_6 ?_
  refine sw_newA (pc' := 82) ok wd_3 dX8_init_80 rfl (fun o10 => ?_)
  refine sw_setR (pc' := 85) ok fr_X8_37 (fun _ => ⟨rfl, rfl⟩) dX8_init_82 (fun _ => rfl) rfl ?_
  refine sw_aload_n (z := a0) (pc' := 86) ok dX8_init_85 rfl rfl ?_
  refine sw_bipush (v := 6) (pc' := 88) ok dX8_init_86 rfl cc_bipush_6 ?_
  refine sw_newA (pc' := 90) ok wd_3 dX8_init_88 rfl (fun o11 => ?_)
  refine sw_setR (pc' := 93) ok fr_X8_40 (fun _ => ⟨rfl, rfl⟩) dX8_init_90 (fun _ => rfl) rfl ?_
  refine sw_aload_n (z := a0) (pc' := 94) ok dX8_init_93 rfl rfl ?_
  refine sw_lconst (v := 1) (pc' := 95) ok dX8_init_94 rfl cc_lconst_1 ?_
  refine sw_setL (pc' := 98) ok fr_X8_43 dX8_init_95 (fun h => by cases h) rfl ?_
  refine sw_aload_n (z := a0) (pc' := 99) ok dX8_init_98 rfl rfl ?_
  refine sw_bipush (v := 40) (pc' := 101) ok dX8_init_99 rfl cc_bipush_40 ?_
  refine sw_newA (pc' := 103) ok wd_3 dX8_init_101 rfl (fun o12 => ?_)
  refine sw_setR (pc' := 106) ok fr_X8_47 (fun _ => ⟨rfl, rfl⟩) dX8_init_103 (fun _ => rfl) rfl ?_
  refine sw_aload_n (z := a0) (pc' := 107) ok dX8_init_106 rfl rfl ?_
  refine sw_bipush (v := 6) (pc' := 109) ok dX8_init_107 rfl cc_bipush_6 ?_
  refine sw_newA (pc' := 111) ok wd_3 dX8_init_109 rfl (fun o13 => ?_)
  refine sw_setR (pc' := 114) ok fr_X8_50 (fun _ => ⟨rfl, rfl⟩) dX8_init_111 (fun _ => rfl) rfl ?_
  refine sw_aload_n (z := a0) (pc' := 115) ok dX8_init_114 rfl rfl ?_
  refine sw_bipush (v := 6) (pc' := 117) ok dX8_init_115 rfl cc_bipush_6 ?_
  refine sw_newA (pc' := 119) ok wd_3 dX8_init_117 rfl (fun o14 => ?_)
  refine sw_setR (pc' := 122) ok fr_X8_53 (fun _ => ⟨rfl, rfl⟩) dX8_init_119 (fun _ => rfl) rfl ?_
  refine sw_aload_n (z := a0) (pc' := 123) ok dX8_init_122 rfl rfl ?_
  refine sw_bipush (v := 6) (pc' := 125) ok dX8_init_123 rfl cc_bipush_6 ?_
  refine sw_newA (pc' := 127) ok wd_3 dX8_init_125 rfl (fun o15 => ?_)
  refine sw_setR (pc' := 130) ok fr_X8_56 (fun _ => ⟨rfl, rfl⟩) dX8_init_127 (fun _ => rfl) rfl ?_
  refine sw_aload_n (z := a0) (pc' := 131) ok dX8_init_130 rfl rfl ?_
  refine sw_bipush (v := 6) (pc' := 133) ok dX8_init_131 rfl cc_bipush_6 ?_
  refine sw_newA (pc' := 135) ok wd_3 dX8_init_133 rfl (fun o16 => ?_)
  refine sw_setR (pc' := 138) ok fr_X8_59 (fun _ => ⟨rfl, rfl⟩) dX8_init_135 (fun _ => rfl) rfl ?_
  refine sw_aload_n (z := a0) (pc' := 139) ok dX8_init_138 rfl rfl ?_
  refine sw_bipush (v := 15) (pc' := 141) ok dX8_init_139 rfl cc_bipush_15 ?_
  refine sw_newA (pc' := 143) ok wd_3 dX8_init_141 rfl (fun o17 => ?_)
  refine sw_setR (pc' := 146) ok fr_X8_62 (fun _ => ⟨rfl, rfl⟩) dX8_init_143 (fun _ => rfl) rfl ?_
  refine sw_aload_n (z := a0) (pc' := 147) ok dX8_init_146 rfl rfl ?_
  refine sw_bipush (v := 6) (pc' := 149) ok dX8_init_147 rfl cc_bipush_6 ?_
  refine sw_newA (pc' := 151) ok wd_3 dX8_init_149 rfl (fun o18 => ?_)
  refine sw_setR (pc' := 154) ok fr_X8_65 (fun _ => ⟨rfl, rfl⟩) dX8_init_151 (fun _ => rfl) rfl ?_
  refine sw_aload_n (z := a0) (pc' := 155) ok dX8_init_154 rfl rfl ?_
  refine sw_bipush (v := 6) (pc' := 157) ok dX8_init_155 rfl cc_bipush_6 ?_
  refine sw_newA (pc' := 159) ok wd_3 dX8_init_157 rfl (fun o19 => ?_)
  refine sw_setR (pc' := 162) ok fr_X8_68 (fun _ => ⟨rfl, rfl⟩) dX8_init_159 (fun _ => rfl) rfl ?_
  refine sw_aload_n (z := a0) (pc' := 163) ok dX8_init_162 rfl rfl ?_
  refine sw_sipush (v := 3375) (pc' := 166) ok dX8_init_163 rfl cc_sipush_3375 ?_
  refine sw_newA (pc' := 168) ok wd_3 dX8_init_166 rfl (fun o20 => ?_)
  refine sw_setR (pc' := 171) ok fr_X8_71 (fun _ => ⟨rfl, rfl⟩) dX8_init_168 (fun _ => rfl) rfl ?_
  refine sw_iconst (v := 0) (pc' := 172) ok dX8_init_171 rfl cc_iconst_0 ?_
  refine sw_istore_n (pc' := 173) (l' := [some (.ref a0), some (.int 0)]) ok dX8_init_172 rfl (Nat.le_of_ble_eq_true rfl) rfl ?_
  refine sw_jn (fun k24 : PM Unit => SW Γ iU 192 [some (.ref a0), none] [] (k24)) ?_ (fun k24 hk24 => ?_)
  · refine sw_iconst (v := 0) (pc' := 193) ok dX8_init_192 rfl cc_iconst_0 ?_
    refine sw_istore_n (pc' := 194) (l' := [some (.ref a0), some (.int 0)]) ok dX8_init_193 rfl (Nat.le_of_ble_eq_true rfl) rfl ?_
    refine sw_jn (fun k22 : PM Unit => SW Γ iU 212 [some (.ref a0), none] [] (k22)) ?_ (fun k22 hk22 => ?_)
    · refine sw_iconst (v := 0) (pc' := 213) ok dX8_init_212 rfl cc_iconst_0 ?_
      refine sw_istore_n (pc' := 214) (l' := [some (.ref a0), some (.int 0)]) ok dX8_init_213 rfl (Nat.le_of_ble_eq_true rfl) rfl ?_
      exact W_X8_init_214 ok okr a0 4000 0
    exact W_X8_init_194 ok okr k22 a0 hk22 4000 0
  exact W_X8_init_173 ok okr k24 a0 hk24 4000 0
theorem S_X8_init (a0 : Nat) : Sim 1 yX8_init cX8_init 2 (none) iU [.ref a0] (P_X8_init a0) := Sim.intro wd_1060 (by decide) (by decide +kernel) (Nat.le_of_ble_eq_true rfl) (fun Γ ok okr => W_X8_init ok okr a0)
theorem dX8_in_0 : decode cX8_in 0 = .ok (.lload_n 0, 1) := by decide +kernel
theorem dX8_in_1 : decode cX8_in 1 = .ok (.lload_n 2, 1) := by decide +kernel
theorem dX8_in_2 : decode cX8_in 2 = .ok (.lcmp, 1) := by decide +kernel
theorem dX8_in_3 : decode cX8_in 3 = .ok (.ifCond .lt 14, 3) := by decide +kernel
theorem dX8_in_6 : decode cX8_in 6 = .ok (.lload_n 0, 1) := by decide +kernel
theorem dX8_in_7 : decode cX8_in 7 = .ok (.lload 4, 2) := by decide +kernel
theorem dX8_in_9 : decode cX8_in 9 = .ok (.lcmp, 1) := by decide +kernel
theorem dX8_in_10 : decode cX8_in 10 = .ok (.ifCond .gt 7, 3) := by decide +kernel
theorem dX8_in_13 : decode cX8_in 13 = .ok (.iconst 1, 1) := by decide +kernel
theorem dX8_in_14 : decode cX8_in 14 = .ok (.goto 4, 3) := by decide +kernel
theorem dX8_in_17 : decode cX8_in 17 = .ok (.iconst 0, 1) := by decide +kernel
theorem dX8_in_18 : decode cX8_in 18 = .ok (.ireturn, 1) := by decide +kernel
def P_X8_in (x0 : Int64) (x1 : Int64) (x2 : Int64) : PM Int32 :=
jn (
retZ 0) fun k1 =>
ifB (decide ((lg_cmp x0 x1) < 0)) (
k1) (
ifB (decide (0 < (lg_cmp x0 x2))) (
k1) (
retZ 1))
set_option maxHeartbeats 4000000 in
set_option maxRecDepth 100000 in
theorem W_X8_in {Γ : Cx} (ok : OKc Γ cX8_in RX8 0 "in") (okr : OKr Γ cX8_in (some .boolean)) (x0 : Int64) (x1 : Int64) (x2 : Int64) : SW Γ iI 0 [some (.long x0), none, some (.long x1), none, some (.long x2), none] [] (P_X8_in x0 x1 x2) := by
  unfold P_X8_in
  refine sw_lload_n (z := x0) (pc' := 1) ok dX8_in_0 rfl rfl ?_
  refine sw_lload_n (z := x1) (pc' := 2) ok dX8_in_1 rfl rfl ?_
  refine sw_lcmp (pc' := 3) ok dX8_in_2 rfl ?_
  refine sw_jn (fun k1 : PM Int32 => SW Γ iI 17 [none, none, none, none, none, none] [] (k1)) ?_ (fun k1 hk1 => ?_)
  · refine sw_iconst (v := 0) (pc' := 18) ok dX8_in_17 rfl cc_iconst_0 ?_
    exact sw_retZ ok okr dX8_in_18
  refine sw_if_lt (tgt := 17) (pc' := 6) ok dX8_in_3 (by decide) rfl ?_ ?_
  · refine sw_fg (l' := [none, none, none, none, none, none]) [false, false, false, false, false, false] rfl ?_
    exact hk1
  refine sw_lload_n (z := x0) (pc' := 7) ok dX8_in_6 rfl rfl ?_
  refine sw_lload (z := x2) (pc' := 9) ok dX8_in_7 rfl rfl ?_
  refine sw_lcmp (pc' := 10) ok dX8_in_9 rfl ?_
  refine sw_if_gt (tgt := 17) (pc' := 13) ok dX8_in_10 (by decide) rfl ?_ ?_
  · refine sw_fg (l' := [none, none, none, none, none, none]) [false, false, false, false, false, false] rfl ?_
    exact hk1
  refine sw_iconst (v := 1) (pc' := 14) ok dX8_in_13 rfl cc_iconst_1 ?_
  refine sw_goto (tgt := 18) ok dX8_in_14 (by decide) ?_
  exact sw_retZ ok okr dX8_in_18
theorem S_X8_in (x0 : Int64) (x1 : Int64) (x2 : Int64) : Sim 0 yX8_in cX8_in 6 (some .boolean) iI [.long x0, .long x1, .long x2] (P_X8_in x0 x1 x2) := Sim.intro wd_1061 (by decide) (by decide +kernel) (Nat.le_of_ble_eq_true rfl) (fun Γ ok okr => W_X8_in ok okr x0 x1 x2)
theorem dX8_least_0 : decode cX8_least 0 = .ok (.iload_n 0, 1) := by decide +kernel
theorem dX8_least_1 : decode cX8_least 1 = .ok (.iload_n 1, 1) := by decide +kernel
theorem dX8_least_2 : decode cX8_least 2 = .ok (.if_icmp .ge 7, 3) := by decide +kernel
theorem dX8_least_5 : decode cX8_least 5 = .ok (.iload_n 0, 1) := by decide +kernel
theorem dX8_least_6 : decode cX8_least 6 = .ok (.goto 4, 3) := by decide +kernel
theorem dX8_least_9 : decode cX8_least 9 = .ok (.iload_n 1, 1) := by decide +kernel
theorem dX8_least_10 : decode cX8_least 10 = .ok (.ireturn, 1) := by decide +kernel
def P_X8_least (x0 : Int32) (x1 : Int32) : PM Int32 :=
ifB (decide (x1 ≤ x0)) (
pureM x1) (
pureM x0)
set_option maxHeartbeats 4000000 in
set_option maxRecDepth 100000 in
theorem W_X8_least {Γ : Cx} (ok : OKc Γ cX8_least RX8 0 "least") (okr : OKr Γ cX8_least (some .int)) (x0 : Int32) (x1 : Int32) : SW Γ iI 0 [some (.int x0), some (.int x1)] [] (P_X8_least x0 x1) := by
  unfold P_X8_least
  refine sw_iload_n (z := x0) (pc' := 1) ok dX8_least_0 rfl rfl ?_
  refine sw_iload_n (z := x1) (pc' := 2) ok dX8_least_1 rfl rfl ?_
  refine sw_icmp_ge (tgt := 9) (pc' := 5) ok dX8_least_2 (by decide) rfl ?_ ?_
  · refine sw_iload_n (z := x1) (pc' := 10) ok dX8_least_9 rfl rfl ?_
    exact sw_ret ok okr dX8_least_10 trivial rfl
  refine sw_iload_n (z := x0) (pc' := 6) ok dX8_least_5 rfl rfl ?_
  refine sw_goto (tgt := 10) ok dX8_least_6 (by decide) ?_
  exact sw_ret ok okr dX8_least_10 trivial rfl
theorem S_X8_least (x0 : Int32) (x1 : Int32) : Sim 0 yX8_least cX8_least 2 (some .int) iI [.int x0, .int x1] (P_X8_least x0 x1) := Sim.intro wd_1062 (by decide) (by decide +kernel) (Nat.le_of_ble_eq_true rfl) (fun Γ ok okr => W_X8_least ok okr x0 x1)
theorem dX8_most_0 : decode cX8_most 0 = .ok (.iload_n 0, 1) := by decide +kernel
theorem dX8_most_1 : decode cX8_most 1 = .ok (.iload_n 1, 1) := by decide +kernel
theorem dX8_most_2 : decode cX8_most 2 = .ok (.if_icmp .le 7, 3) := by decide +kernel
theorem dX8_most_5 : decode cX8_most 5 = .ok (.iload_n 0, 1) := by decide +kernel
theorem dX8_most_6 : decode cX8_most 6 = .ok (.goto 4, 3) := by decide +kernel
theorem dX8_most_9 : decode cX8_most 9 = .ok (.iload_n 1, 1) := by decide +kernel
theorem dX8_most_10 : decode cX8_most 10 = .ok (.ireturn, 1) := by decide +kernel
def P_X8_most (x0 : Int32) (x1 : Int32) : PM Int32 :=
ifB (decide (x0 ≤ x1)) (
pureM x1) (
pureM x0)
set_option maxHeartbeats 4000000 in
set_option maxRecDepth 100000 in
theorem W_X8_most {Γ : Cx} (ok : OKc Γ cX8_most RX8 0 "most") (okr : OKr Γ cX8_most (some .int)) (x0 : Int32) (x1 : Int32) : SW Γ iI 0 [some (.int x0), some (.int x1)] [] (P_X8_most x0 x1) := by
  unfold P_X8_most
  refine sw_iload_n (z := x0) (pc' := 1) ok dX8_most_0 rfl rfl ?_
  refine sw_iload_n (z := x1) (pc' := 2) ok dX8_most_1 rfl rfl ?_
  refine sw_icmp_le (tgt := 9) (pc' := 5) ok dX8_most_2 (by decide) rfl ?_ ?_
  · refine sw_iload_n (z := x1) (pc' := 10) ok dX8_most_9 rfl rfl ?_
    exact sw_ret ok okr dX8_most_10 trivial rfl
  refine sw_iload_n (z := x0) (pc' := 6) ok dX8_most_5 rfl rfl ?_
  refine sw_goto (tgt := 10) ok dX8_most_6 (by decide) ?_
  exact sw_ret ok okr dX8_most_10 trivial rfl
theorem S_X8_most (x0 : Int32) (x1 : Int32) : Sim 0 yX8_most cX8_most 2 (some .int) iI [.int x0, .int x1] (P_X8_most x0 x1) := Sim.intro wd_1063 (by decide) (by decide +kernel) (Nat.le_of_ble_eq_true rfl) (fun Γ ok okr => W_X8_most ok okr x0 x1)
theorem dX8_has_0 : decode cX8_has 0 = .ok (.iload_n 0, 1) := by decide +kernel
theorem dX8_has_1 : decode cX8_has 1 = .ok (.iload_n 1, 1) := by decide +kernel
theorem dX8_has_2 : decode cX8_has 2 = .ok (.ishr, 1) := by decide +kernel
theorem dX8_has_3 : decode cX8_has 3 = .ok (.iconst 1, 1) := by decide +kernel
theorem dX8_has_4 : decode cX8_has 4 = .ok (.iand, 1) := by decide +kernel
theorem dX8_has_5 : decode cX8_has 5 = .ok (.iconst 1, 1) := by decide +kernel
theorem dX8_has_6 : decode cX8_has 6 = .ok (.if_icmp .ne 7, 3) := by decide +kernel
theorem dX8_has_9 : decode cX8_has 9 = .ok (.iconst 1, 1) := by decide +kernel
theorem dX8_has_10 : decode cX8_has 10 = .ok (.goto 4, 3) := by decide +kernel
theorem dX8_has_13 : decode cX8_has 13 = .ok (.iconst 0, 1) := by decide +kernel
theorem dX8_has_14 : decode cX8_has 14 = .ok (.ireturn, 1) := by decide +kernel
def P_X8_has (x0 : Int32) (x1 : Int32) : PM Int32 :=
ifB (decide (¬ ((x0 >>> (x1 &&& 31)) &&& 1) = 1)) (
retZ 0) (
retZ 1)
set_option maxHeartbeats 4000000 in
set_option maxRecDepth 100000 in
theorem W_X8_has {Γ : Cx} (ok : OKc Γ cX8_has RX8 0 "has") (okr : OKr Γ cX8_has (some .boolean)) (x0 : Int32) (x1 : Int32) : SW Γ iI 0 [some (.int x0), some (.int x1)] [] (P_X8_has x0 x1) := by
  unfold P_X8_has
  refine sw_iload_n (z := x0) (pc' := 1) ok dX8_has_0 rfl rfl ?_
  refine sw_iload_n (z := x1) (pc' := 2) ok dX8_has_1 rfl rfl ?_
  refine sw_ishr (pc' := 3) ok dX8_has_2 rfl ?_
  refine sw_iconst (v := 1) (pc' := 4) ok dX8_has_3 rfl cc_iconst_1 ?_
  refine sw_iand (pc' := 5) ok dX8_has_4 rfl ?_
  refine sw_iconst (v := 1) (pc' := 6) ok dX8_has_5 rfl cc_iconst_1 ?_
  refine sw_icmp_ne (tgt := 13) (pc' := 9) ok dX8_has_6 (by decide) rfl ?_ ?_
  · refine sw_iconst (v := 0) (pc' := 14) ok dX8_has_13 rfl cc_iconst_0 ?_
    exact sw_retZ ok okr dX8_has_14
  refine sw_iconst (v := 1) (pc' := 10) ok dX8_has_9 rfl cc_iconst_1 ?_
  refine sw_goto (tgt := 14) ok dX8_has_10 (by decide) ?_
  exact sw_retZ ok okr dX8_has_14
theorem S_X8_has (x0 : Int32) (x1 : Int32) : Sim 0 yX8_has cX8_has 2 (some .boolean) iI [.int x0, .int x1] (P_X8_has x0 x1) := Sim.intro wd_1064 (by decide) (by decide +kernel) (Nat.le_of_ble_eq_true rfl) (fun Γ ok okr => W_X8_has ok okr x0 x1)
theorem dX8_refuse_0 : decode cX8_refuse 0 = .ok (.aload_n 0, 1) := by decide +kernel
theorem dX8_refuse_1 : decode cX8_refuse 1 = .ok (.iload_n 1, 1) := by decide +kernel
theorem dX8_refuse_2 : decode cX8_refuse 2 = .ok (.putfield 74, 3) := by decide +kernel
theorem dX8_refuse_5 : decode cX8_refuse 5 = .ok (.aload_n 0, 1) := by decide +kernel
theorem dX8_refuse_6 : decode cX8_refuse 6 = .ok (.getfield 40, 3) := by decide +kernel
theorem dX8_refuse_9 : decode cX8_refuse 9 = .ok (.iload_n 1, 1) := by decide +kernel
theorem dX8_refuse_10 : decode cX8_refuse 10 = .ok (.dup2, 1) := by decide +kernel
theorem dX8_refuse_11 : decode cX8_refuse 11 = .ok (.iaload, 1) := by decide +kernel
theorem dX8_refuse_12 : decode cX8_refuse 12 = .ok (.iconst 1, 1) := by decide +kernel
theorem dX8_refuse_13 : decode cX8_refuse 13 = .ok (.iadd, 1) := by decide +kernel
theorem dX8_refuse_14 : decode cX8_refuse 14 = .ok (.iastore, 1) := by decide +kernel
theorem dX8_refuse_15 : decode cX8_refuse 15 = .ok (.bipush (-3), 2) := by decide +kernel
theorem dX8_refuse_17 : decode cX8_refuse 17 = .ok (.ireturn, 1) := by decide +kernel
def P_X8_refuse (a0 : Nat) (x1 : Int32) : PM Int32 :=
setI 8 12 a0 x1 <|
getR 8 13 a0 fun v1 =>
ald v1 x1 fun v2 =>
ast v1 x1 (v2 + 1) <|
pureM ((-3))
set_option maxHeartbeats 4000000 in
set_option maxRecDepth 100000 in
theorem W_X8_refuse {Γ : Cx} (ok : OKc Γ cX8_refuse RX8 0 "refuse") (okr : OKr Γ cX8_refuse (some .int)) (a0 : Nat) (x1 : Int32) : SW Γ iI 0 [some (.ref a0), some (.int x1)] [] (P_X8_refuse a0 x1) := by
  unfold P_X8_refuse
  refine sw_aload_n (z := a0) (pc' := 1) ok dX8_refuse_0 rfl rfl ?_
  refine sw_iload_n (z := x1) (pc' := 2) ok dX8_refuse_1 rfl rfl ?_
  refine sw_setI (pc' := 5) ok fr_X8_74 dX8_refuse_2 (fun h => by cases h) rfl ?_
  refine sw_aload_n (z := a0) (pc' := 6) ok dX8_refuse_5 rfl rfl ?_
  refine sw_getR (pc' := 9) ok (fr_X8_40.g) dX8_refuse_6 rfl (fun v1 => ?_)
  refine sw_iload_n (z := x1) (pc' := 10) ok dX8_refuse_9 rfl rfl ?_
  refine sw_dup2 (pc' := 11) ok dX8_refuse_10 rfl rfl rfl ?_
  refine sw_ald (pc' := 12) ok dX8_refuse_11 rfl (fun v2 => ?_)
  refine sw_iconst (v := 1) (pc' := 13) ok dX8_refuse_12 rfl cc_iconst_1 ?_
  refine sw_iadd (pc' := 14) ok dX8_refuse_13 rfl ?_
  refine sw_ast (pc' := 15) ok dX8_refuse_14 rfl ?_
  refine sw_bipush (v := (-3)) (pc' := 17) ok dX8_refuse_15 rfl cc_bipush_m3 ?_
  exact sw_ret ok okr dX8_refuse_17 trivial rfl
theorem S_X8_refuse (a0 : Nat) (x1 : Int32) : Sim 0 yX8_refuse cX8_refuse 2 (some .int) iI [.ref a0, .int x1] (P_X8_refuse a0 x1) := Sim.intro wd_1065 (by decide) (by decide +kernel) (Nat.le_of_ble_eq_true rfl) (fun Γ ok okr => W_X8_refuse ok okr a0 x1)
theorem dX8_isRow_0 : decode cX8_isRow 0 = .ok (.iload_n 0, 1) := by decide +kernel
theorem dX8_isRow_1 : decode cX8_isRow 1 = .ok (.i2l, 1) := by decide +kernel
theorem dX8_isRow_2 : decode cX8_isRow 2 = .ok (.lconst 0, 1) := by decide +kernel
theorem dX8_isRow_3 : decode cX8_isRow 3 = .ok (.ldc2_w 78, 3) := by decide +kernel
theorem dX8_isRow_6 : decode cX8_isRow 6 = .ok (.invokestatic 80, 3) := by decide +kernel
theorem dX8_isRow_9 : decode cX8_isRow 9 = .ok (.ireturn, 1) := by decide +kernel
def P_X8_isRow (x0 : Int32) : PM Int32 :=
cll0 (P_X8_in (Int32.toInt64 x0) 0 5) fun v1 =>
retZ v1
set_option maxHeartbeats 4000000 in
set_option maxRecDepth 100000 in
theorem W_X8_isRow {Γ : Cx} (ok : OKc Γ cX8_isRow RX8 1 "isRow") (okr : OKr Γ cX8_isRow (some .boolean)) (x0 : Int32) : SW Γ iI 0 [some (.int x0)] [] (P_X8_isRow x0) := by
  unfold P_X8_isRow
  refine sw_iload_n (z := x0) (pc' := 1) ok dX8_isRow_0 rfl rfl ?_
  refine sw_i2l (pc' := 2) ok dX8_isRow_1 rfl ?_
  refine sw_lconst (v := 0) (pc' := 3) ok dX8_isRow_2 rfl cc_lconst_0 ?_
  refine sw_ldc2 (v := 5) (pc' := 6) ok dX8_isRow_3 rfl wd_475 ?_
  refine sw_cll0_I (st := []) (as := [.long (Int32.toInt64 x0), .long 0, .long 5]) (pc' := 9) ok (S_X8_in (Int32.toInt64 x0) 0 5) (by decide) lk_X8_80 rfl dX8_isRow_6 rfl (Nat.le_of_ble_eq_true rfl) rfl (fun v1 => ?_)
  exact sw_retZ ok okr dX8_isRow_9
theorem S_X8_isRow (x0 : Int32) : Sim 1 yX8_isRow cX8_isRow 1 (some .boolean) iI [.int x0] (P_X8_isRow x0) := Sim.intro wd_1066 (by decide) (by decide +kernel) (Nat.le_of_ble_eq_true rfl) (fun Γ ok okr => W_X8_isRow ok okr x0)
theorem dX8_isText_0 : decode cX8_isText 0 = .ok (.iload_n 0, 1) := by decide +kernel
theorem dX8_isText_1 : decode cX8_isText 1 = .ok (.i2l, 1) := by decide +kernel
theorem dX8_isText_2 : decode cX8_isText 2 = .ok (.lconst 0, 1) := by decide +kernel
theorem dX8_isText_3 : decode cX8_isText 3 = .ok (.ldc2_w 84, 3) := by decide +kernel
theorem dX8_isText_6 : decode cX8_isText 6 = .ok (.invokestatic 80, 3) := by decide +kernel
theorem dX8_isText_9 : decode cX8_isText 9 = .ok (.ireturn, 1) := by decide +kernel
def P_X8_isText (x0 : Int32) : PM Int32 :=
cll0 (P_X8_in (Int32.toInt64 x0) 0 3) fun v1 =>
retZ v1
set_option maxHeartbeats 4000000 in
set_option maxRecDepth 100000 in
theorem W_X8_isText {Γ : Cx} (ok : OKc Γ cX8_isText RX8 1 "isText") (okr : OKr Γ cX8_isText (some .boolean)) (x0 : Int32) : SW Γ iI 0 [some (.int x0)] [] (P_X8_isText x0) := by
  unfold P_X8_isText
  refine sw_iload_n (z := x0) (pc' := 1) ok dX8_isText_0 rfl rfl ?_
  refine sw_i2l (pc' := 2) ok dX8_isText_1 rfl ?_
  refine sw_lconst (v := 0) (pc' := 3) ok dX8_isText_2 rfl cc_lconst_0 ?_
  refine sw_ldc2 (v := 3) (pc' := 6) ok dX8_isText_3 rfl wd_479 ?_
  refine sw_cll0_I (st := []) (as := [.long (Int32.toInt64 x0), .long 0, .long 3]) (pc' := 9) ok (S_X8_in (Int32.toInt64 x0) 0 3) (by decide) lk_X8_80 rfl dX8_isText_6 rfl (Nat.le_of_ble_eq_true rfl) rfl (fun v1 => ?_)
  exact sw_retZ ok okr dX8_isText_9
theorem S_X8_isText (x0 : Int32) : Sim 1 yX8_isText cX8_isText 1 (some .boolean) iI [.int x0] (P_X8_isText x0) := Sim.intro wd_1067 (by decide) (by decide +kernel) (Nat.le_of_ble_eq_true rfl) (fun Γ ok okr => W_X8_isText ok okr x0)
theorem dX8_row_0 : decode cX8_row 0 = .ok (.iload_n 1, 1) := by decide +kernel
theorem dX8_row_1 : decode cX8_row 1 = .ok (.invokestatic 86, 3) := by decide +kernel
theorem dX8_row_4 : decode cX8_row 4 = .ok (.ifCond .eq 9, 3) := by decide +kernel
theorem dX8_row_7 : decode cX8_row 7 = .ok (.iload_n 2, 1) := by decide +kernel
theorem dX8_row_8 : decode cX8_row 8 = .ok (.bipush 40, 2) := by decide +kernel
theorem dX8_row_10 : decode cX8_row 10 = .ok (.if_icmp .le 5, 3) := by decide +kernel
theorem dX8_row_13 : decode cX8_row 13 = .ok (.iconst (-1), 1) := by decide +kernel
theorem dX8_row_14 : decode cX8_row 14 = .ok (.ireturn, 1) := by decide +kernel
theorem dX8_row_15 : decode cX8_row 15 = .ok (.iload_n 2, 1) := by decide +kernel
theorem dX8_row_16 : decode cX8_row 16 = .ok (.ifCond .ge 9, 3) := by decide +kernel
theorem dX8_row_19 : decode cX8_row 19 = .ok (.aload_n 0, 1) := by decide +kernel
theorem dX8_row_20 : decode cX8_row 20 = .ok (.iconst 5, 1) := by decide +kernel
theorem dX8_row_21 : decode cX8_row 21 = .ok (.invokevirtual 90, 3) := by decide +kernel
theorem dX8_row_24 : decode cX8_row 24 = .ok (.ireturn, 1) := by decide +kernel
theorem dX8_row_25 : decode cX8_row 25 = .ok (.iconst 0, 1) := by decide +kernel
theorem dX8_row_26 : decode cX8_row 26 = .ok (.istore_n 3, 1) := by decide +kernel
theorem dX8_row_27 : decode cX8_row 27 = .ok (.iload_n 3, 1) := by decide +kernel
theorem dX8_row_28 : decode cX8_row 28 = .ok (.iload_n 2, 1) := by decide +kernel
theorem dX8_row_29 : decode cX8_row 29 = .ok (.if_icmp .ge 21, 3) := by decide +kernel
theorem dX8_row_32 : decode cX8_row 32 = .ok (.aload_n 0, 1) := by decide +kernel
theorem dX8_row_33 : decode cX8_row 33 = .ok (.getfield 7, 3) := by decide +kernel
theorem dX8_row_36 : decode cX8_row 36 = .ok (.bipush 40, 2) := by decide +kernel
theorem dX8_row_38 : decode cX8_row 38 = .ok (.iload_n 1, 1) := by decide +kernel
theorem dX8_row_39 : decode cX8_row 39 = .ok (.imul, 1) := by decide +kernel
theorem dX8_row_40 : decode cX8_row 40 = .ok (.iload_n 3, 1) := by decide +kernel
theorem dX8_row_41 : decode cX8_row 41 = .ok (.iadd, 1) := by decide +kernel
theorem dX8_row_42 : decode cX8_row 42 = .ok (.iconst 0, 1) := by decide +kernel
theorem dX8_row_43 : decode cX8_row 43 = .ok (.iastore, 1) := by decide +kernel
theorem dX8_row_44 : decode cX8_row 44 = .ok (.iinc 3 1, 3) := by decide +kernel
theorem dX8_row_47 : decode cX8_row 47 = .ok (.goto (-20), 3) := by decide +kernel
theorem dX8_row_50 : decode cX8_row 50 = .ok (.aload_n 0, 1) := by decide +kernel
theorem dX8_row_51 : decode cX8_row 51 = .ok (.getfield 13, 3) := by decide +kernel
theorem dX8_row_54 : decode cX8_row 54 = .ok (.iload_n 1, 1) := by decide +kernel
theorem dX8_row_55 : decode cX8_row 55 = .ok (.iload_n 2, 1) := by decide +kernel
theorem dX8_row_56 : decode cX8_row 56 = .ok (.iastore, 1) := by decide +kernel
theorem dX8_row_57 : decode cX8_row 57 = .ok (.iload_n 2, 1) := by decide +kernel
theorem dX8_row_58 : decode cX8_row 58 = .ok (.ireturn, 1) := by decide +kernel
def P_X8_row_27 (k_50 : PM Int32) (p0 : Nat) (p1 : Int32) (p2 : Int32) : Nat → Int32 → PM Int32
  | 0, _ => failM
  | n + 1, q3 =>
    ifB (decide (p2 ≤ q3)) (
    k_50) (
    getR 8 0 p0 fun v4 =>
    ast v4 ((40 * p1) + q3) 0 <|
    P_X8_row_27 k_50 p0 p1 p2 n (q3 + 1))
def P_X8_row (a0 : Nat) (x1 : Int32) (x2 : Int32) : PM Int32 :=
cll0 (P_X8_isRow x1) fun v1 =>
ifB (decide (v1 = 0)) (
pureM ((-1))) (
ifB (decide (x2 ≤ 40)) (
ifB (decide (0 ≤ x2)) (
jn (
getR 8 1 a0 fun v2 =>
ast v2 x1 x2 <|
pureM x2) fun k3 =>
P_X8_row_27 k3 a0 x1 x2 4000 0) (
cllV 8 a0 (P_X8_refuse a0 5) fun v5 =>
pureM v5)) (
pureM ((-1))))
set_option maxHeartbeats 4000000 in
set_option maxRecDepth 100000 in
theorem W_X8_row_27 {Γ : Cx} (ok : OKc Γ cX8_row RX8 2 "row") (okr : OKr Γ cX8_row (some .int)) (k_50 : PM Int32) (p0 : Nat) (p1 : Int32) (p2 : Int32) (hk_50 : SW Γ iI 50 [some (.ref p0), some (.int p1), some (.int p2), none] [] (k_50)) : ∀ (n : Nat) (q3 : Int32), SW Γ iI 27 [some (.ref p0), some (.int p1), some (.int p2), some (.int q3)] [] (P_X8_row_27 k_50 p0 p1 p2 n q3) := by
  intro n
  induction n with
  | zero =>
    intros
    exact sw_fail
  | succ n ih =>
    intro q3
    unfold P_X8_row_27
    refine sw_iload_n (z := q3) (pc' := 28) ok dX8_row_27 rfl rfl ?_
    refine sw_iload_n (z := p2) (pc' := 29) ok dX8_row_28 rfl rfl ?_
    refine sw_icmp_ge (tgt := 50) (pc' := 32) ok dX8_row_29 (by decide) rfl ?_ ?_
    · refine sw_fg (l' := [some (.ref p0), some (.int p1), some (.int p2), none]) [true, true, true, false] rfl ?_
      exact hk_50
    refine sw_aload_n (z := p0) (pc' := 33) ok dX8_row_32 rfl rfl ?_
    refine sw_getR (pc' := 36) ok (fr_X8_7.g) dX8_row_33 rfl (fun v4 => ?_)
    refine sw_bipush (v := 40) (pc' := 38) ok dX8_row_36 rfl cc_bipush_40 ?_
    refine sw_iload_n (z := p1) (pc' := 39) ok dX8_row_38 rfl rfl ?_
    refine sw_imul (pc' := 40) ok dX8_row_39 rfl ?_
    refine sw_iload_n (z := q3) (pc' := 41) ok dX8_row_40 rfl rfl ?_
    refine sw_iadd (pc' := 42) ok dX8_row_41 rfl ?_
    refine sw_iconst (v := 0) (pc' := 43) ok dX8_row_42 rfl cc_iconst_0 ?_
    refine sw_ast (pc' := 44) ok dX8_row_43 rfl ?_
    refine sw_iinc (z := q3) (v := q3 + 1) (pc' := 47) (l' := [some (.ref p0), some (.int p1), some (.int p2), some (.int (q3 + 1))]) ok dX8_row_44 rfl rfl (by rw [cc_iconst_1]) rfl ?_
    refine sw_goto (tgt := 27) ok dX8_row_47 (by decide) ?_
    exact ih (q3 + 1)
set_option maxHeartbeats 4000000 in
set_option maxRecDepth 100000 in
theorem W_X8_row {Γ : Cx} (ok : OKc Γ cX8_row RX8 2 "row") (okr : OKr Γ cX8_row (some .int)) (a0 : Nat) (x1 : Int32) (x2 : Int32) : SW Γ iI 0 [some (.ref a0), some (.int x1), some (.int x2), none] [] (P_X8_row a0 x1 x2) := by
  unfold P_X8_row
  refine sw_iload_n (z := x1) (pc' := 1) ok dX8_row_0 rfl rfl ?_
  refine sw_cll0_I (st := []) (as := [.int x1]) (pc' := 4) ok (S_X8_isRow x1) (by decide) lk_X8_86 rfl dX8_row_1 rfl (Nat.le_of_ble_eq_true rfl) rfl (fun v1 => ?_)
  refine sw_if_eq (tgt := 13) (pc' := 7) ok dX8_row_4 (by decide) rfl ?_ ?_
  · refine sw_iconst (v := (-1)) (pc' := 14) ok dX8_row_13 rfl cc_iconst_m1 ?_
    exact sw_ret ok okr dX8_row_14 trivial rfl
  refine sw_iload_n (z := x2) (pc' := 8) ok dX8_row_7 rfl rfl ?_
  refine sw_bipush (v := 40) (pc' := 10) ok dX8_row_8 rfl cc_bipush_40 ?_
  refine sw_icmp_le (tgt := 15) (pc' := 13) ok dX8_row_10 (by decide) rfl ?_ ?_
  · refine sw_iload_n (z := x2) (pc' := 16) ok dX8_row_15 rfl rfl ?_
    refine sw_if_ge (tgt := 25) (pc' := 19) ok dX8_row_16 (by decide) rfl ?_ ?_
    · refine sw_iconst (v := 0) (pc' := 26) ok dX8_row_25 rfl cc_iconst_0 ?_
      refine sw_istore_n (pc' := 27) (l' := [some (.ref a0), some (.int x1), some (.int x2), some (.int 0)]) ok dX8_row_26 rfl (Nat.le_of_ble_eq_true rfl) rfl ?_
      refine sw_jn (fun k3 : PM Int32 => SW Γ iI 50 [some (.ref a0), some (.int x1), some (.int x2), none] [] (k3)) ?_ (fun k3 hk3 => ?_)
      · refine sw_aload_n (z := a0) (pc' := 51) ok dX8_row_50 rfl rfl ?_
        refine sw_getR (pc' := 54) ok (fr_X8_13.g) dX8_row_51 rfl (fun v2 => ?_)
        refine sw_iload_n (z := x1) (pc' := 55) ok dX8_row_54 rfl rfl ?_
        refine sw_iload_n (z := x2) (pc' := 56) ok dX8_row_55 rfl rfl ?_
        refine sw_ast (pc' := 57) ok dX8_row_56 rfl ?_
        refine sw_iload_n (z := x2) (pc' := 58) ok dX8_row_57 rfl rfl ?_
        exact sw_ret ok okr dX8_row_58 trivial rfl
      exact W_X8_row_27 ok okr k3 a0 x1 x2 hk3 4000 0
    refine sw_aload_n (z := a0) (pc' := 20) ok dX8_row_19 rfl rfl ?_
    refine sw_iconst (v := 5) (pc' := 21) ok dX8_row_20 rfl cc_iconst_5 ?_
    refine sw_cllV_I (st := []) (as := [.int 5]) (pc' := 24) ok (S_X8_refuse a0 5) (by decide) lk_X8_90 rfl dX8_row_21 rfl (Nat.le_of_ble_eq_true rfl) rfl (fun v5 => ?_)
    exact sw_ret ok okr dX8_row_24 trivial rfl
  refine sw_iconst (v := (-1)) (pc' := 14) ok dX8_row_13 rfl cc_iconst_m1 ?_
  exact sw_ret ok okr dX8_row_14 trivial rfl
theorem S_X8_row (a0 : Nat) (x1 : Int32) (x2 : Int32) : Sim 2 yX8_row cX8_row 4 (some .int) iI [.ref a0, .int x1, .int x2] (P_X8_row a0 x1 x2) := Sim.intro wd_1068 (by decide) (by decide +kernel) (Nat.le_of_ble_eq_true rfl) (fun Γ ok okr => W_X8_row ok okr a0 x1 x2)
theorem dX8_refusedPlace_0 : decode cX8_refusedPlace 0 = .ok (.aload_n 0, 1) := by decide +kernel
theorem dX8_refusedPlace_1 : decode cX8_refusedPlace 1 = .ok (.getfield 13, 3) := by decide +kernel
theorem dX8_refusedPlace_4 : decode cX8_refusedPlace 4 = .ok (.iload_n 1, 1) := by decide +kernel
theorem dX8_refusedPlace_5 : decode cX8_refusedPlace 5 = .ok (.iaload, 1) := by decide +kernel
theorem dX8_refusedPlace_6 : decode cX8_refusedPlace 6 = .ok (.ifCond .ge 7, 3) := by decide +kernel
theorem dX8_refusedPlace_9 : decode cX8_refusedPlace 9 = .ok (.iconst 1, 1) := by decide +kernel
theorem dX8_refusedPlace_10 : decode cX8_refusedPlace 10 = .ok (.goto 26, 3) := by decide +kernel
theorem dX8_refusedPlace_13 : decode cX8_refusedPlace 13 = .ok (.iload_n 2, 1) := by decide +kernel
theorem dX8_refusedPlace_14 : decode cX8_refusedPlace 14 = .ok (.i2l, 1) := by decide +kernel
theorem dX8_refusedPlace_15 : decode cX8_refusedPlace 15 = .ok (.lconst 0, 1) := by decide +kernel
theorem dX8_refusedPlace_16 : decode cX8_refusedPlace 16 = .ok (.aload_n 0, 1) := by decide +kernel
theorem dX8_refusedPlace_17 : decode cX8_refusedPlace 17 = .ok (.getfield 13, 3) := by decide +kernel
theorem dX8_refusedPlace_20 : decode cX8_refusedPlace 20 = .ok (.iload_n 1, 1) := by decide +kernel
theorem dX8_refusedPlace_21 : decode cX8_refusedPlace 21 = .ok (.iaload, 1) := by decide +kernel
theorem dX8_refusedPlace_22 : decode cX8_refusedPlace 22 = .ok (.iconst 1, 1) := by decide +kernel
theorem dX8_refusedPlace_23 : decode cX8_refusedPlace 23 = .ok (.isub, 1) := by decide +kernel
theorem dX8_refusedPlace_24 : decode cX8_refusedPlace 24 = .ok (.i2l, 1) := by decide +kernel
theorem dX8_refusedPlace_25 : decode cX8_refusedPlace 25 = .ok (.invokestatic 80, 3) := by decide +kernel
theorem dX8_refusedPlace_28 : decode cX8_refusedPlace 28 = .ok (.ifCond .ne 7, 3) := by decide +kernel
theorem dX8_refusedPlace_31 : decode cX8_refusedPlace 31 = .ok (.iconst 2, 1) := by decide +kernel
theorem dX8_refusedPlace_32 : decode cX8_refusedPlace 32 = .ok (.goto 4, 3) := by decide +kernel
theorem dX8_refusedPlace_35 : decode cX8_refusedPlace 35 = .ok (.iconst 0, 1) := by decide +kernel
theorem dX8_refusedPlace_36 : decode cX8_refusedPlace 36 = .ok (.ireturn, 1) := by decide +kernel
def P_X8_refusedPlace (a0 : Nat) (x1 : Int32) (x2 : Int32) : PM Int32 :=
getR 8 1 a0 fun v1 =>
ald v1 x1 fun v2 =>
ifB (decide (0 ≤ v2)) (
getR 8 1 a0 fun v3 =>
ald v3 x1 fun v4 =>
cll0 (P_X8_in (Int32.toInt64 x2) 0 (Int32.toInt64 (v4 - 1))) fun v5 =>
ifB (decide (¬ v5 = 0)) (
pureM 0) (
pureM 2)) (
pureM 1)
set_option maxHeartbeats 4000000 in
set_option maxRecDepth 100000 in
theorem W_X8_refusedPlace {Γ : Cx} (ok : OKc Γ cX8_refusedPlace RX8 1 "refusedPlace") (okr : OKr Γ cX8_refusedPlace (some .int)) (a0 : Nat) (x1 : Int32) (x2 : Int32) : SW Γ iI 0 [some (.ref a0), some (.int x1), some (.int x2)] [] (P_X8_refusedPlace a0 x1 x2) := by
  unfold P_X8_refusedPlace
  refine sw_aload_n (z := a0) (pc' := 1) ok dX8_refusedPlace_0 rfl rfl ?_
  refine sw_getR (pc' := 4) ok (fr_X8_13.g) dX8_refusedPlace_1 rfl (fun v1 => ?_)
  refine sw_iload_n (z := x1) (pc' := 5) ok dX8_refusedPlace_4 rfl rfl ?_
  refine sw_ald (pc' := 6) ok dX8_refusedPlace_5 rfl (fun v2 => ?_)
  refine sw_if_ge (tgt := 13) (pc' := 9) ok dX8_refusedPlace_6 (by decide) rfl ?_ ?_
  · refine sw_iload_n (z := x2) (pc' := 14) ok dX8_refusedPlace_13 rfl rfl ?_
    refine sw_i2l (pc' := 15) ok dX8_refusedPlace_14 rfl ?_
    refine sw_lconst (v := 0) (pc' := 16) ok dX8_refusedPlace_15 rfl cc_lconst_0 ?_
    refine sw_aload_n (z := a0) (pc' := 17) ok dX8_refusedPlace_16 rfl rfl ?_
    refine sw_getR (pc' := 20) ok (fr_X8_13.g) dX8_refusedPlace_17 rfl (fun v3 => ?_)
    refine sw_iload_n (z := x1) (pc' := 21) ok dX8_refusedPlace_20 rfl rfl ?_
    refine sw_ald (pc' := 22) ok dX8_refusedPlace_21 rfl (fun v4 => ?_)
    refine sw_iconst (v := 1) (pc' := 23) ok dX8_refusedPlace_22 rfl cc_iconst_1 ?_
    refine sw_isub (pc' := 24) ok dX8_refusedPlace_23 rfl ?_
    refine sw_i2l (pc' := 25) ok dX8_refusedPlace_24 rfl ?_
    refine sw_cll0_I (st := []) (as := [.long (Int32.toInt64 x2), .long 0, .long (Int32.toInt64 (v4 - 1))]) (pc' := 28) ok (S_X8_in (Int32.toInt64 x2) 0 (Int32.toInt64 (v4 - 1))) (by decide) lk_X8_80 rfl dX8_refusedPlace_25 rfl (Nat.le_of_ble_eq_true rfl) rfl (fun v5 => ?_)
    refine sw_if_ne (tgt := 35) (pc' := 31) ok dX8_refusedPlace_28 (by decide) rfl ?_ ?_
    · refine sw_iconst (v := 0) (pc' := 36) ok dX8_refusedPlace_35 rfl cc_iconst_0 ?_
      exact sw_ret ok okr dX8_refusedPlace_36 trivial rfl
    refine sw_iconst (v := 2) (pc' := 32) ok dX8_refusedPlace_31 rfl cc_iconst_2 ?_
    refine sw_goto (tgt := 36) ok dX8_refusedPlace_32 (by decide) ?_
    exact sw_ret ok okr dX8_refusedPlace_36 trivial rfl
  refine sw_iconst (v := 1) (pc' := 10) ok dX8_refusedPlace_9 rfl cc_iconst_1 ?_
  refine sw_goto (tgt := 36) ok dX8_refusedPlace_10 (by decide) ?_
  exact sw_ret ok okr dX8_refusedPlace_36 trivial rfl
theorem S_X8_refusedPlace (a0 : Nat) (x1 : Int32) (x2 : Int32) : Sim 1 yX8_refusedPlace cX8_refusedPlace 3 (some .int) iI [.ref a0, .int x1, .int x2] (P_X8_refusedPlace a0 x1 x2) := Sim.intro wd_1069 (by decide) (by decide +kernel) (Nat.le_of_ble_eq_true rfl) (fun Γ ok okr => W_X8_refusedPlace ok okr a0 x1 x2)
theorem dX8_lay_0 : decode cX8_lay 0 = .ok (.iload_n 1, 1) := by decide +kernel
theorem dX8_lay_1 : decode cX8_lay 1 = .ok (.invokestatic 86, 3) := by decide +kernel
theorem dX8_lay_4 : decode cX8_lay 4 = .ok (.ifCond .ne 5, 3) := by decide +kernel
theorem dX8_lay_7 : decode cX8_lay 7 = .ok (.iconst (-1), 1) := by decide +kernel
theorem dX8_lay_8 : decode cX8_lay 8 = .ok (.ireturn, 1) := by decide +kernel
theorem dX8_lay_9 : decode cX8_lay 9 = .ok (.aload_n 0, 1) := by decide +kernel
theorem dX8_lay_10 : decode cX8_lay 10 = .ok (.iload_n 1, 1) := by decide +kernel
theorem dX8_lay_11 : decode cX8_lay 11 = .ok (.iload_n 2, 1) := by decide +kernel
theorem dX8_lay_12 : decode cX8_lay 12 = .ok (.invokevirtual 94, 3) := by decide +kernel
theorem dX8_lay_15 : decode cX8_lay 15 = .ok (.istore 4, 2) := by decide +kernel
theorem dX8_lay_17 : decode cX8_lay 17 = .ok (.iload 4, 2) := by decide +kernel
theorem dX8_lay_19 : decode cX8_lay 19 = .ok (.ifCond .le 10, 3) := by decide +kernel
theorem dX8_lay_22 : decode cX8_lay 22 = .ok (.aload_n 0, 1) := by decide +kernel
theorem dX8_lay_23 : decode cX8_lay 23 = .ok (.iload 4, 2) := by decide +kernel
theorem dX8_lay_25 : decode cX8_lay 25 = .ok (.invokevirtual 90, 3) := by decide +kernel
theorem dX8_lay_28 : decode cX8_lay 28 = .ok (.ireturn, 1) := by decide +kernel
theorem dX8_lay_29 : decode cX8_lay 29 = .ok (.aload_n 0, 1) := by decide +kernel
theorem dX8_lay_30 : decode cX8_lay 30 = .ok (.aload_n 0, 1) := by decide +kernel
theorem dX8_lay_31 : decode cX8_lay 31 = .ok (.getfield 7, 3) := by decide +kernel
theorem dX8_lay_34 : decode cX8_lay 34 = .ok (.bipush 40, 2) := by decide +kernel
theorem dX8_lay_36 : decode cX8_lay 36 = .ok (.iload_n 1, 1) := by decide +kernel
theorem dX8_lay_37 : decode cX8_lay 37 = .ok (.imul, 1) := by decide +kernel
theorem dX8_lay_38 : decode cX8_lay 38 = .ok (.iload_n 2, 1) := by decide +kernel
theorem dX8_lay_39 : decode cX8_lay 39 = .ok (.iadd, 1) := by decide +kernel
theorem dX8_lay_40 : decode cX8_lay 40 = .ok (.iaload, 1) := by decide +kernel
theorem dX8_lay_41 : decode cX8_lay 41 = .ok (.putfield 98, 3) := by decide +kernel
theorem dX8_lay_44 : decode cX8_lay 44 = .ok (.aload_n 0, 1) := by decide +kernel
theorem dX8_lay_45 : decode cX8_lay 45 = .ok (.getfield 7, 3) := by decide +kernel
theorem dX8_lay_48 : decode cX8_lay 48 = .ok (.bipush 40, 2) := by decide +kernel
theorem dX8_lay_50 : decode cX8_lay 50 = .ok (.iload_n 1, 1) := by decide +kernel
theorem dX8_lay_51 : decode cX8_lay 51 = .ok (.imul, 1) := by decide +kernel
theorem dX8_lay_52 : decode cX8_lay 52 = .ok (.iload_n 2, 1) := by decide +kernel
theorem dX8_lay_53 : decode cX8_lay 53 = .ok (.iadd, 1) := by decide +kernel
theorem dX8_lay_54 : decode cX8_lay 54 = .ok (.iload_n 3, 1) := by decide +kernel
theorem dX8_lay_55 : decode cX8_lay 55 = .ok (.iastore, 1) := by decide +kernel
theorem dX8_lay_56 : decode cX8_lay 56 = .ok (.iconst 1, 1) := by decide +kernel
theorem dX8_lay_57 : decode cX8_lay 57 = .ok (.ireturn, 1) := by decide +kernel
def P_X8_lay (a0 : Nat) (x1 : Int32) (x2 : Int32) (x3 : Int32) : PM Int32 :=
cll0 (P_X8_isRow x1) fun v1 =>
ifB (decide (¬ v1 = 0)) (
cllV 8 a0 (P_X8_refusedPlace a0 x1 x2) fun v2 =>
ifB (decide (v2 ≤ 0)) (
getR 8 0 a0 fun v3 =>
ald v3 ((40 * x1) + x2) fun v4 =>
setI 8 14 a0 v4 <|
getR 8 0 a0 fun v5 =>
ast v5 ((40 * x1) + x2) x3 <|
pureM 1) (
cllV 8 a0 (P_X8_refuse a0 v2) fun v6 =>
pureM v6)) (
pureM ((-1)))
set_option maxHeartbeats 4000000 in
set_option maxRecDepth 100000 in
theorem W_X8_lay {Γ : Cx} (ok : OKc Γ cX8_lay RX8 2 "lay") (okr : OKr Γ cX8_lay (some .int)) (a0 : Nat) (x1 : Int32) (x2 : Int32) (x3 : Int32) : SW Γ iI 0 [some (.ref a0), some (.int x1), some (.int x2), some (.int x3), none] [] (P_X8_lay a0 x1 x2 x3) := by
  unfold P_X8_lay
  refine sw_iload_n (z := x1) (pc' := 1) ok dX8_lay_0 rfl rfl ?_
  refine sw_cll0_I (st := []) (as := [.int x1]) (pc' := 4) ok (S_X8_isRow x1) (by decide) lk_X8_86 rfl dX8_lay_1 rfl (Nat.le_of_ble_eq_true rfl) rfl (fun v1 => ?_)
  refine sw_if_ne (tgt := 9) (pc' := 7) ok dX8_lay_4 (by decide) rfl ?_ ?_
  · refine sw_aload_n (z := a0) (pc' := 10) ok dX8_lay_9 rfl rfl ?_
    refine sw_iload_n (z := x1) (pc' := 11) ok dX8_lay_10 rfl rfl ?_
    refine sw_iload_n (z := x2) (pc' := 12) ok dX8_lay_11 rfl rfl ?_
    refine sw_cllV_I (st := []) (as := [.int x1, .int x2]) (pc' := 15) ok (S_X8_refusedPlace a0 x1 x2) (by decide) lk_X8_94 rfl dX8_lay_12 rfl (Nat.le_of_ble_eq_true rfl) rfl (fun v2 => ?_)
    refine sw_istore (pc' := 17) (l' := [some (.ref a0), some (.int x1), some (.int x2), some (.int x3), some (.int v2)]) ok dX8_lay_15 rfl (Nat.le_of_ble_eq_true rfl) rfl ?_
    refine sw_iload (z := v2) (pc' := 19) ok dX8_lay_17 rfl rfl ?_
    refine sw_if_le (tgt := 29) (pc' := 22) ok dX8_lay_19 (by decide) rfl ?_ ?_
    · refine sw_aload_n (z := a0) (pc' := 30) ok dX8_lay_29 rfl rfl ?_
      refine sw_aload_n (z := a0) (pc' := 31) ok dX8_lay_30 rfl rfl ?_
      refine sw_getR (pc' := 34) ok (fr_X8_7.g) dX8_lay_31 rfl (fun v3 => ?_)
      refine sw_bipush (v := 40) (pc' := 36) ok dX8_lay_34 rfl cc_bipush_40 ?_
      refine sw_iload_n (z := x1) (pc' := 37) ok dX8_lay_36 rfl rfl ?_
      refine sw_imul (pc' := 38) ok dX8_lay_37 rfl ?_
      refine sw_iload_n (z := x2) (pc' := 39) ok dX8_lay_38 rfl rfl ?_
      refine sw_iadd (pc' := 40) ok dX8_lay_39 rfl ?_
      refine sw_ald (pc' := 41) ok dX8_lay_40 rfl (fun v4 => ?_)
      refine sw_setI (pc' := 44) ok fr_X8_98 dX8_lay_41 (fun h => by cases h) rfl ?_
      refine sw_aload_n (z := a0) (pc' := 45) ok dX8_lay_44 rfl rfl ?_
      refine sw_getR (pc' := 48) ok (fr_X8_7.g) dX8_lay_45 rfl (fun v5 => ?_)
      refine sw_bipush (v := 40) (pc' := 50) ok dX8_lay_48 rfl cc_bipush_40 ?_
      refine sw_iload_n (z := x1) (pc' := 51) ok dX8_lay_50 rfl rfl ?_
      refine sw_imul (pc' := 52) ok dX8_lay_51 rfl ?_
      refine sw_iload_n (z := x2) (pc' := 53) ok dX8_lay_52 rfl rfl ?_
      refine sw_iadd (pc' := 54) ok dX8_lay_53 rfl ?_
      refine sw_iload_n (z := x3) (pc' := 55) ok dX8_lay_54 rfl rfl ?_
      refine sw_ast (pc' := 56) ok dX8_lay_55 rfl ?_
      refine sw_iconst (v := 1) (pc' := 57) ok dX8_lay_56 rfl cc_iconst_1 ?_
      exact sw_ret ok okr dX8_lay_57 trivial rfl
    refine sw_aload_n (z := a0) (pc' := 23) ok dX8_lay_22 rfl rfl ?_
    refine sw_iload (z := v2) (pc' := 25) ok dX8_lay_23 rfl rfl ?_
    refine sw_cllV_I (st := []) (as := [.int v2]) (pc' := 28) ok (S_X8_refuse a0 v2) (by decide) lk_X8_90 rfl dX8_lay_25 rfl (Nat.le_of_ble_eq_true rfl) rfl (fun v6 => ?_)
    exact sw_ret ok okr dX8_lay_28 trivial rfl
  refine sw_iconst (v := (-1)) (pc' := 8) ok dX8_lay_7 rfl cc_iconst_m1 ?_
  exact sw_ret ok okr dX8_lay_8 trivial rfl
theorem S_X8_lay (a0 : Nat) (x1 : Int32) (x2 : Int32) (x3 : Int32) : Sim 2 yX8_lay cX8_lay 5 (some .int) iI [.ref a0, .int x1, .int x2, .int x3] (P_X8_lay a0 x1 x2 x3) := Sim.intro wd_1070 (by decide) (by decide +kernel) (Nat.le_of_ble_eq_true rfl) (fun Γ ok okr => W_X8_lay ok okr a0 x1 x2 x3)
theorem dX8_at_0 : decode cX8_at 0 = .ok (.iload_n 1, 1) := by decide +kernel
theorem dX8_at_1 : decode cX8_at 1 = .ok (.invokestatic 86, 3) := by decide +kernel
theorem dX8_at_4 : decode cX8_at 4 = .ok (.ifCond .ne 5, 3) := by decide +kernel
theorem dX8_at_7 : decode cX8_at 7 = .ok (.iconst (-1), 1) := by decide +kernel
theorem dX8_at_8 : decode cX8_at 8 = .ok (.ireturn, 1) := by decide +kernel
theorem dX8_at_9 : decode cX8_at 9 = .ok (.aload_n 0, 1) := by decide +kernel
theorem dX8_at_10 : decode cX8_at 10 = .ok (.iload_n 1, 1) := by decide +kernel
theorem dX8_at_11 : decode cX8_at 11 = .ok (.iload_n 2, 1) := by decide +kernel
theorem dX8_at_12 : decode cX8_at 12 = .ok (.invokevirtual 94, 3) := by decide +kernel
theorem dX8_at_15 : decode cX8_at 15 = .ok (.istore_n 3, 1) := by decide +kernel
theorem dX8_at_16 : decode cX8_at 16 = .ok (.iload_n 3, 1) := by decide +kernel
theorem dX8_at_17 : decode cX8_at 17 = .ok (.ifCond .le 9, 3) := by decide +kernel
theorem dX8_at_20 : decode cX8_at 20 = .ok (.aload_n 0, 1) := by decide +kernel
theorem dX8_at_21 : decode cX8_at 21 = .ok (.iload_n 3, 1) := by decide +kernel
theorem dX8_at_22 : decode cX8_at 22 = .ok (.invokevirtual 90, 3) := by decide +kernel
theorem dX8_at_25 : decode cX8_at 25 = .ok (.ireturn, 1) := by decide +kernel
theorem dX8_at_26 : decode cX8_at 26 = .ok (.aload_n 0, 1) := by decide +kernel
theorem dX8_at_27 : decode cX8_at 27 = .ok (.aload_n 0, 1) := by decide +kernel
theorem dX8_at_28 : decode cX8_at 28 = .ok (.getfield 7, 3) := by decide +kernel
theorem dX8_at_31 : decode cX8_at 31 = .ok (.bipush 40, 2) := by decide +kernel
theorem dX8_at_33 : decode cX8_at 33 = .ok (.iload_n 1, 1) := by decide +kernel
theorem dX8_at_34 : decode cX8_at 34 = .ok (.imul, 1) := by decide +kernel
theorem dX8_at_35 : decode cX8_at 35 = .ok (.iload_n 2, 1) := by decide +kernel
theorem dX8_at_36 : decode cX8_at 36 = .ok (.iadd, 1) := by decide +kernel
theorem dX8_at_37 : decode cX8_at 37 = .ok (.iaload, 1) := by decide +kernel
theorem dX8_at_38 : decode cX8_at 38 = .ok (.putfield 98, 3) := by decide +kernel
theorem dX8_at_41 : decode cX8_at 41 = .ok (.iconst 1, 1) := by decide +kernel
theorem dX8_at_42 : decode cX8_at 42 = .ok (.ireturn, 1) := by decide +kernel
def P_X8_at (a0 : Nat) (x1 : Int32) (x2 : Int32) : PM Int32 :=
cll0 (P_X8_isRow x1) fun v1 =>
ifB (decide (¬ v1 = 0)) (
cllV 8 a0 (P_X8_refusedPlace a0 x1 x2) fun v2 =>
ifB (decide (v2 ≤ 0)) (
getR 8 0 a0 fun v3 =>
ald v3 ((40 * x1) + x2) fun v4 =>
setI 8 14 a0 v4 <|
pureM 1) (
cllV 8 a0 (P_X8_refuse a0 v2) fun v5 =>
pureM v5)) (
pureM ((-1)))
set_option maxHeartbeats 4000000 in
set_option maxRecDepth 100000 in
theorem W_X8_at {Γ : Cx} (ok : OKc Γ cX8_at RX8 2 "at") (okr : OKr Γ cX8_at (some .int)) (a0 : Nat) (x1 : Int32) (x2 : Int32) : SW Γ iI 0 [some (.ref a0), some (.int x1), some (.int x2), none] [] (P_X8_at a0 x1 x2) := by
  unfold P_X8_at
  refine sw_iload_n (z := x1) (pc' := 1) ok dX8_at_0 rfl rfl ?_
  refine sw_cll0_I (st := []) (as := [.int x1]) (pc' := 4) ok (S_X8_isRow x1) (by decide) lk_X8_86 rfl dX8_at_1 rfl (Nat.le_of_ble_eq_true rfl) rfl (fun v1 => ?_)
  refine sw_if_ne (tgt := 9) (pc' := 7) ok dX8_at_4 (by decide) rfl ?_ ?_
  · refine sw_aload_n (z := a0) (pc' := 10) ok dX8_at_9 rfl rfl ?_
    refine sw_iload_n (z := x1) (pc' := 11) ok dX8_at_10 rfl rfl ?_
    refine sw_iload_n (z := x2) (pc' := 12) ok dX8_at_11 rfl rfl ?_
    refine sw_cllV_I (st := []) (as := [.int x1, .int x2]) (pc' := 15) ok (S_X8_refusedPlace a0 x1 x2) (by decide) lk_X8_94 rfl dX8_at_12 rfl (Nat.le_of_ble_eq_true rfl) rfl (fun v2 => ?_)
    refine sw_istore_n (pc' := 16) (l' := [some (.ref a0), some (.int x1), some (.int x2), some (.int v2)]) ok dX8_at_15 rfl (Nat.le_of_ble_eq_true rfl) rfl ?_
    refine sw_iload_n (z := v2) (pc' := 17) ok dX8_at_16 rfl rfl ?_
    refine sw_if_le (tgt := 26) (pc' := 20) ok dX8_at_17 (by decide) rfl ?_ ?_
    · refine sw_aload_n (z := a0) (pc' := 27) ok dX8_at_26 rfl rfl ?_
      refine sw_aload_n (z := a0) (pc' := 28) ok dX8_at_27 rfl rfl ?_
      refine sw_getR (pc' := 31) ok (fr_X8_7.g) dX8_at_28 rfl (fun v3 => ?_)
      refine sw_bipush (v := 40) (pc' := 33) ok dX8_at_31 rfl cc_bipush_40 ?_
      refine sw_iload_n (z := x1) (pc' := 34) ok dX8_at_33 rfl rfl ?_
      refine sw_imul (pc' := 35) ok dX8_at_34 rfl ?_
      refine sw_iload_n (z := x2) (pc' := 36) ok dX8_at_35 rfl rfl ?_
      refine sw_iadd (pc' := 37) ok dX8_at_36 rfl ?_
      refine sw_ald (pc' := 38) ok dX8_at_37 rfl (fun v4 => ?_)
      refine sw_setI (pc' := 41) ok fr_X8_98 dX8_at_38 (fun h => by cases h) rfl ?_
      refine sw_iconst (v := 1) (pc' := 42) ok dX8_at_41 rfl cc_iconst_1 ?_
      exact sw_ret ok okr dX8_at_42 trivial rfl
    refine sw_aload_n (z := a0) (pc' := 21) ok dX8_at_20 rfl rfl ?_
    refine sw_iload_n (z := v2) (pc' := 22) ok dX8_at_21 rfl rfl ?_
    refine sw_cllV_I (st := []) (as := [.int v2]) (pc' := 25) ok (S_X8_refuse a0 v2) (by decide) lk_X8_90 rfl dX8_at_22 rfl (Nat.le_of_ble_eq_true rfl) rfl (fun v5 => ?_)
    exact sw_ret ok okr dX8_at_25 trivial rfl
  refine sw_iconst (v := (-1)) (pc' := 8) ok dX8_at_7 rfl cc_iconst_m1 ?_
  exact sw_ret ok okr dX8_at_8 trivial rfl
theorem S_X8_at (a0 : Nat) (x1 : Int32) (x2 : Int32) : Sim 2 yX8_at cX8_at 4 (some .int) iI [.ref a0, .int x1, .int x2] (P_X8_at a0 x1 x2) := Sim.intro wd_1071 (by decide) (by decide +kernel) (Nat.le_of_ble_eq_true rfl) (fun Γ ok okr => W_X8_at ok okr a0 x1 x2)
theorem dX8_tear_0 : decode cX8_tear 0 = .ok (.iload_n 1, 1) := by decide +kernel
theorem dX8_tear_1 : decode cX8_tear 1 = .ok (.invokestatic 86, 3) := by decide +kernel
theorem dX8_tear_4 : decode cX8_tear 4 = .ok (.ifCond .ne 5, 3) := by decide +kernel
theorem dX8_tear_7 : decode cX8_tear 7 = .ok (.iconst (-1), 1) := by decide +kernel
theorem dX8_tear_8 : decode cX8_tear 8 = .ok (.ireturn, 1) := by decide +kernel
theorem dX8_tear_9 : decode cX8_tear 9 = .ok (.aload_n 0, 1) := by decide +kernel
theorem dX8_tear_10 : decode cX8_tear 10 = .ok (.getfield 13, 3) := by decide +kernel
theorem dX8_tear_13 : decode cX8_tear 13 = .ok (.iload_n 1, 1) := by decide +kernel
theorem dX8_tear_14 : decode cX8_tear 14 = .ok (.iaload, 1) := by decide +kernel
theorem dX8_tear_15 : decode cX8_tear 15 = .ok (.ifCond .ge 9, 3) := by decide +kernel
theorem dX8_tear_18 : decode cX8_tear 18 = .ok (.aload_n 0, 1) := by decide +kernel
theorem dX8_tear_19 : decode cX8_tear 19 = .ok (.iconst 1, 1) := by decide +kernel
theorem dX8_tear_20 : decode cX8_tear 20 = .ok (.invokevirtual 90, 3) := by decide +kernel
theorem dX8_tear_23 : decode cX8_tear 23 = .ok (.ireturn, 1) := by decide +kernel
theorem dX8_tear_24 : decode cX8_tear 24 = .ok (.aload_n 0, 1) := by decide +kernel
theorem dX8_tear_25 : decode cX8_tear 25 = .ok (.getfield 13, 3) := by decide +kernel
theorem dX8_tear_28 : decode cX8_tear 28 = .ok (.iload_n 1, 1) := by decide +kernel
theorem dX8_tear_29 : decode cX8_tear 29 = .ok (.iconst (-1), 1) := by decide +kernel
theorem dX8_tear_30 : decode cX8_tear 30 = .ok (.iastore, 1) := by decide +kernel
theorem dX8_tear_31 : decode cX8_tear 31 = .ok (.iconst 1, 1) := by decide +kernel
theorem dX8_tear_32 : decode cX8_tear 32 = .ok (.ireturn, 1) := by decide +kernel
def P_X8_tear (a0 : Nat) (x1 : Int32) : PM Int32 :=
cll0 (P_X8_isRow x1) fun v1 =>
ifB (decide (¬ v1 = 0)) (
getR 8 1 a0 fun v2 =>
ald v2 x1 fun v3 =>
ifB (decide (0 ≤ v3)) (
getR 8 1 a0 fun v4 =>
ast v4 x1 ((-1)) <|
pureM 1) (
cllV 8 a0 (P_X8_refuse a0 1) fun v5 =>
pureM v5)) (
pureM ((-1)))
set_option maxHeartbeats 4000000 in
set_option maxRecDepth 100000 in
theorem W_X8_tear {Γ : Cx} (ok : OKc Γ cX8_tear RX8 2 "tear") (okr : OKr Γ cX8_tear (some .int)) (a0 : Nat) (x1 : Int32) : SW Γ iI 0 [some (.ref a0), some (.int x1)] [] (P_X8_tear a0 x1) := by
  unfold P_X8_tear
  refine sw_iload_n (z := x1) (pc' := 1) ok dX8_tear_0 rfl rfl ?_
  refine sw_cll0_I (st := []) (as := [.int x1]) (pc' := 4) ok (S_X8_isRow x1) (by decide) lk_X8_86 rfl dX8_tear_1 rfl (Nat.le_of_ble_eq_true rfl) rfl (fun v1 => ?_)
  refine sw_if_ne (tgt := 9) (pc' := 7) ok dX8_tear_4 (by decide) rfl ?_ ?_
  · refine sw_aload_n (z := a0) (pc' := 10) ok dX8_tear_9 rfl rfl ?_
    refine sw_getR (pc' := 13) ok (fr_X8_13.g) dX8_tear_10 rfl (fun v2 => ?_)
    refine sw_iload_n (z := x1) (pc' := 14) ok dX8_tear_13 rfl rfl ?_
    refine sw_ald (pc' := 15) ok dX8_tear_14 rfl (fun v3 => ?_)
    refine sw_if_ge (tgt := 24) (pc' := 18) ok dX8_tear_15 (by decide) rfl ?_ ?_
    · refine sw_aload_n (z := a0) (pc' := 25) ok dX8_tear_24 rfl rfl ?_
      refine sw_getR (pc' := 28) ok (fr_X8_13.g) dX8_tear_25 rfl (fun v4 => ?_)
      refine sw_iload_n (z := x1) (pc' := 29) ok dX8_tear_28 rfl rfl ?_
      refine sw_iconst (v := (-1)) (pc' := 30) ok dX8_tear_29 rfl cc_iconst_m1 ?_
      refine sw_ast (pc' := 31) ok dX8_tear_30 rfl ?_
      refine sw_iconst (v := 1) (pc' := 32) ok dX8_tear_31 rfl cc_iconst_1 ?_
      exact sw_ret ok okr dX8_tear_32 trivial rfl
    refine sw_aload_n (z := a0) (pc' := 19) ok dX8_tear_18 rfl rfl ?_
    refine sw_iconst (v := 1) (pc' := 20) ok dX8_tear_19 rfl cc_iconst_1 ?_
    refine sw_cllV_I (st := []) (as := [.int 1]) (pc' := 23) ok (S_X8_refuse a0 1) (by decide) lk_X8_90 rfl dX8_tear_20 rfl (Nat.le_of_ble_eq_true rfl) rfl (fun v5 => ?_)
    exact sw_ret ok okr dX8_tear_23 trivial rfl
  refine sw_iconst (v := (-1)) (pc' := 8) ok dX8_tear_7 rfl cc_iconst_m1 ?_
  exact sw_ret ok okr dX8_tear_8 trivial rfl
theorem S_X8_tear (a0 : Nat) (x1 : Int32) : Sim 2 yX8_tear cX8_tear 2 (some .int) iI [.ref a0, .int x1] (P_X8_tear a0 x1) := Sim.intro wd_1072 (by decide) (by decide +kernel) (Nat.le_of_ble_eq_true rfl) (fun Γ ok okr => W_X8_tear ok okr a0 x1)
theorem dX8_copy_0 : decode cX8_copy 0 = .ok (.iload_n 1, 1) := by decide +kernel
theorem dX8_copy_1 : decode cX8_copy 1 = .ok (.invokestatic 86, 3) := by decide +kernel
theorem dX8_copy_4 : decode cX8_copy 4 = .ok (.ifCond .eq 10, 3) := by decide +kernel
theorem dX8_copy_7 : decode cX8_copy 7 = .ok (.iload_n 3, 1) := by decide +kernel
theorem dX8_copy_8 : decode cX8_copy 8 = .ok (.invokestatic 86, 3) := by decide +kernel
theorem dX8_copy_11 : decode cX8_copy 11 = .ok (.ifCond .ne 5, 3) := by decide +kernel
theorem dX8_copy_14 : decode cX8_copy 14 = .ok (.iconst (-1), 1) := by decide +kernel
theorem dX8_copy_15 : decode cX8_copy 15 = .ok (.ireturn, 1) := by decide +kernel
theorem dX8_copy_16 : decode cX8_copy 16 = .ok (.iload 5, 2) := by decide +kernel
theorem dX8_copy_18 : decode cX8_copy 18 = .ok (.ifCond .ge 9, 3) := by decide +kernel
theorem dX8_copy_21 : decode cX8_copy 21 = .ok (.aload_n 0, 1) := by decide +kernel
theorem dX8_copy_22 : decode cX8_copy 22 = .ok (.iconst 5, 1) := by decide +kernel
theorem dX8_copy_23 : decode cX8_copy 23 = .ok (.invokevirtual 90, 3) := by decide +kernel
theorem dX8_copy_26 : decode cX8_copy 26 = .ok (.ireturn, 1) := by decide +kernel
theorem dX8_copy_27 : decode cX8_copy 27 = .ok (.aload_n 0, 1) := by decide +kernel
theorem dX8_copy_28 : decode cX8_copy 28 = .ok (.getfield 13, 3) := by decide +kernel
theorem dX8_copy_31 : decode cX8_copy 31 = .ok (.iload_n 1, 1) := by decide +kernel
theorem dX8_copy_32 : decode cX8_copy 32 = .ok (.iaload, 1) := by decide +kernel
theorem dX8_copy_33 : decode cX8_copy 33 = .ok (.ifCond .lt 12, 3) := by decide +kernel
theorem dX8_copy_36 : decode cX8_copy 36 = .ok (.aload_n 0, 1) := by decide +kernel
theorem dX8_copy_37 : decode cX8_copy 37 = .ok (.getfield 13, 3) := by decide +kernel
theorem dX8_copy_40 : decode cX8_copy 40 = .ok (.iload_n 3, 1) := by decide +kernel
theorem dX8_copy_41 : decode cX8_copy 41 = .ok (.iaload, 1) := by decide +kernel
theorem dX8_copy_42 : decode cX8_copy 42 = .ok (.ifCond .ge 9, 3) := by decide +kernel
theorem dX8_copy_45 : decode cX8_copy 45 = .ok (.aload_n 0, 1) := by decide +kernel
theorem dX8_copy_46 : decode cX8_copy 46 = .ok (.iconst 1, 1) := by decide +kernel
theorem dX8_copy_47 : decode cX8_copy 47 = .ok (.invokevirtual 90, 3) := by decide +kernel
theorem dX8_copy_50 : decode cX8_copy 50 = .ok (.ireturn, 1) := by decide +kernel
theorem dX8_copy_51 : decode cX8_copy 51 = .ok (.iload_n 2, 1) := by decide +kernel
theorem dX8_copy_52 : decode cX8_copy 52 = .ok (.ifCond .lt 43, 3) := by decide +kernel
theorem dX8_copy_55 : decode cX8_copy 55 = .ok (.iload 4, 2) := by decide +kernel
theorem dX8_copy_57 : decode cX8_copy 57 = .ok (.ifCond .lt 38, 3) := by decide +kernel
theorem dX8_copy_60 : decode cX8_copy 60 = .ok (.iload_n 2, 1) := by decide +kernel
theorem dX8_copy_61 : decode cX8_copy 61 = .ok (.i2l, 1) := by decide +kernel
theorem dX8_copy_62 : decode cX8_copy 62 = .ok (.iload 5, 2) := by decide +kernel
theorem dX8_copy_64 : decode cX8_copy 64 = .ok (.i2l, 1) := by decide +kernel
theorem dX8_copy_65 : decode cX8_copy 65 = .ok (.ladd, 1) := by decide +kernel
theorem dX8_copy_66 : decode cX8_copy 66 = .ok (.aload_n 0, 1) := by decide +kernel
theorem dX8_copy_67 : decode cX8_copy 67 = .ok (.getfield 13, 3) := by decide +kernel
theorem dX8_copy_70 : decode cX8_copy 70 = .ok (.iload_n 1, 1) := by decide +kernel
theorem dX8_copy_71 : decode cX8_copy 71 = .ok (.iaload, 1) := by decide +kernel
theorem dX8_copy_72 : decode cX8_copy 72 = .ok (.i2l, 1) := by decide +kernel
theorem dX8_copy_73 : decode cX8_copy 73 = .ok (.lcmp, 1) := by decide +kernel
theorem dX8_copy_74 : decode cX8_copy 74 = .ok (.ifCond .gt 21, 3) := by decide +kernel
theorem dX8_copy_77 : decode cX8_copy 77 = .ok (.iload 4, 2) := by decide +kernel
theorem dX8_copy_79 : decode cX8_copy 79 = .ok (.i2l, 1) := by decide +kernel
theorem dX8_copy_80 : decode cX8_copy 80 = .ok (.iload 5, 2) := by decide +kernel
theorem dX8_copy_82 : decode cX8_copy 82 = .ok (.i2l, 1) := by decide +kernel
theorem dX8_copy_83 : decode cX8_copy 83 = .ok (.ladd, 1) := by decide +kernel
theorem dX8_copy_84 : decode cX8_copy 84 = .ok (.aload_n 0, 1) := by decide +kernel
theorem dX8_copy_85 : decode cX8_copy 85 = .ok (.getfield 13, 3) := by decide +kernel
theorem dX8_copy_88 : decode cX8_copy 88 = .ok (.iload_n 3, 1) := by decide +kernel
theorem dX8_copy_89 : decode cX8_copy 89 = .ok (.iaload, 1) := by decide +kernel
theorem dX8_copy_90 : decode cX8_copy 90 = .ok (.i2l, 1) := by decide +kernel
theorem dX8_copy_91 : decode cX8_copy 91 = .ok (.lcmp, 1) := by decide +kernel
theorem dX8_copy_92 : decode cX8_copy 92 = .ok (.ifCond .le 9, 3) := by decide +kernel
theorem dX8_copy_95 : decode cX8_copy 95 = .ok (.aload_n 0, 1) := by decide +kernel
theorem dX8_copy_96 : decode cX8_copy 96 = .ok (.iconst 2, 1) := by decide +kernel
theorem dX8_copy_97 : decode cX8_copy 97 = .ok (.invokevirtual 90, 3) := by decide +kernel
theorem dX8_copy_100 : decode cX8_copy 100 = .ok (.ireturn, 1) := by decide +kernel
theorem dX8_copy_101 : decode cX8_copy 101 = .ok (.iconst 0, 1) := by decide +kernel
theorem dX8_copy_102 : decode cX8_copy 102 = .ok (.istore 6, 2) := by decide +kernel
theorem dX8_copy_104 : decode cX8_copy 104 = .ok (.iload 6, 2) := by decide +kernel
theorem dX8_copy_106 : decode cX8_copy 106 = .ok (.iload 5, 2) := by decide +kernel
theorem dX8_copy_108 : decode cX8_copy 108 = .ok (.if_icmp .ge 30, 3) := by decide +kernel
theorem dX8_copy_111 : decode cX8_copy 111 = .ok (.aload_n 0, 1) := by decide +kernel
theorem dX8_copy_112 : decode cX8_copy 112 = .ok (.getfield 47, 3) := by decide +kernel
theorem dX8_copy_115 : decode cX8_copy 115 = .ok (.iload 6, 2) := by decide +kernel
theorem dX8_copy_117 : decode cX8_copy 117 = .ok (.aload_n 0, 1) := by decide +kernel
theorem dX8_copy_118 : decode cX8_copy 118 = .ok (.getfield 7, 3) := by decide +kernel
theorem dX8_copy_121 : decode cX8_copy 121 = .ok (.bipush 40, 2) := by decide +kernel
theorem dX8_copy_123 : decode cX8_copy 123 = .ok (.iload_n 1, 1) := by decide +kernel
theorem dX8_copy_124 : decode cX8_copy 124 = .ok (.imul, 1) := by decide +kernel
theorem dX8_copy_125 : decode cX8_copy 125 = .ok (.iload_n 2, 1) := by decide +kernel
theorem dX8_copy_126 : decode cX8_copy 126 = .ok (.iadd, 1) := by decide +kernel
theorem dX8_copy_127 : decode cX8_copy 127 = .ok (.iload 6, 2) := by decide +kernel
theorem dX8_copy_129 : decode cX8_copy 129 = .ok (.iadd, 1) := by decide +kernel
theorem dX8_copy_130 : decode cX8_copy 130 = .ok (.iaload, 1) := by decide +kernel
theorem dX8_copy_131 : decode cX8_copy 131 = .ok (.iastore, 1) := by decide +kernel
theorem dX8_copy_132 : decode cX8_copy 132 = .ok (.iinc 6 1, 3) := by decide +kernel
theorem dX8_copy_135 : decode cX8_copy 135 = .ok (.goto (-31), 3) := by decide +kernel
theorem dX8_copy_138 : decode cX8_copy 138 = .ok (.iconst 0, 1) := by decide +kernel
theorem dX8_copy_139 : decode cX8_copy 139 = .ok (.istore 6, 2) := by decide +kernel
theorem dX8_copy_141 : decode cX8_copy 141 = .ok (.iload 6, 2) := by decide +kernel
theorem dX8_copy_143 : decode cX8_copy 143 = .ok (.iload 5, 2) := by decide +kernel
theorem dX8_copy_145 : decode cX8_copy 145 = .ok (.if_icmp .ge 31, 3) := by decide +kernel
theorem dX8_copy_148 : decode cX8_copy 148 = .ok (.aload_n 0, 1) := by decide +kernel
theorem dX8_copy_149 : decode cX8_copy 149 = .ok (.getfield 7, 3) := by decide +kernel
theorem dX8_copy_152 : decode cX8_copy 152 = .ok (.bipush 40, 2) := by decide +kernel
theorem dX8_copy_154 : decode cX8_copy 154 = .ok (.iload_n 3, 1) := by decide +kernel
theorem dX8_copy_155 : decode cX8_copy 155 = .ok (.imul, 1) := by decide +kernel
theorem dX8_copy_156 : decode cX8_copy 156 = .ok (.iload 4, 2) := by decide +kernel
theorem dX8_copy_158 : decode cX8_copy 158 = .ok (.iadd, 1) := by decide +kernel
theorem dX8_copy_159 : decode cX8_copy 159 = .ok (.iload 6, 2) := by decide +kernel
theorem dX8_copy_161 : decode cX8_copy 161 = .ok (.iadd, 1) := by decide +kernel
theorem dX8_copy_162 : decode cX8_copy 162 = .ok (.aload_n 0, 1) := by decide +kernel
theorem dX8_copy_163 : decode cX8_copy 163 = .ok (.getfield 47, 3) := by decide +kernel
theorem dX8_copy_166 : decode cX8_copy 166 = .ok (.iload 6, 2) := by decide +kernel
theorem dX8_copy_168 : decode cX8_copy 168 = .ok (.iaload, 1) := by decide +kernel
theorem dX8_copy_169 : decode cX8_copy 169 = .ok (.iastore, 1) := by decide +kernel
theorem dX8_copy_170 : decode cX8_copy 170 = .ok (.iinc 6 1, 3) := by decide +kernel
theorem dX8_copy_173 : decode cX8_copy 173 = .ok (.goto (-32), 3) := by decide +kernel
theorem dX8_copy_176 : decode cX8_copy 176 = .ok (.iconst 1, 1) := by decide +kernel
theorem dX8_copy_177 : decode cX8_copy 177 = .ok (.ireturn, 1) := by decide +kernel
def P_X8_copy_141 (p0 : Nat) (p3 : Int32) (p4 : Int32) (p5 : Int32) : Nat → Int32 → PM Int32
  | 0, _ => failM
  | n + 1, q6 =>
    ifB (decide (p5 ≤ q6)) (
    pureM 1) (
    getR 8 0 p0 fun v15 =>
    getR 8 17 p0 fun v16 =>
    ald v16 q6 fun v17 =>
    ast v15 (((40 * p3) + p4) + q6) v17 <|
    P_X8_copy_141 p0 p3 p4 p5 n (q6 + 1))
def P_X8_copy_104 (k_138 : PM Int32) (p0 : Nat) (p1 : Int32) (p2 : Int32) (p3 : Int32) (p4 : Int32) (p5 : Int32) : Nat → Int32 → PM Int32
  | 0, _ => failM
  | n + 1, q6 =>
    ifB (decide (p5 ≤ q6)) (
    k_138) (
    getR 8 17 p0 fun v19 =>
    getR 8 0 p0 fun v20 =>
    ald v20 (((40 * p1) + p2) + q6) fun v21 =>
    ast v19 q6 v21 <|
    P_X8_copy_104 k_138 p0 p1 p2 p3 p4 p5 n (q6 + 1))
def P_X8_copy (a0 : Nat) (x1 : Int32) (x2 : Int32) (x3 : Int32) (x4 : Int32) (x5 : Int32) : PM Int32 :=
cll0 (P_X8_isRow x1) fun v1 =>
ifB (decide (v1 = 0)) (
pureM ((-1))) (
cll0 (P_X8_isRow x3) fun v2 =>
ifB (decide (¬ v2 = 0)) (
ifB (decide (0 ≤ x5)) (
getR 8 1 a0 fun v3 =>
ald v3 x1 fun v4 =>
jn (
cllV 8 a0 (P_X8_refuse a0 1) fun v5 =>
pureM v5) fun k6 =>
ifB (decide (v4 < 0)) (
k6) (
getR 8 1 a0 fun v7 =>
ald v7 x3 fun v8 =>
ifB (decide (0 ≤ v8)) (
jn (
cllV 8 a0 (P_X8_refuse a0 2) fun v9 =>
pureM v9) fun k10 =>
ifB (decide (x2 < 0)) (
k10) (
ifB (decide (x4 < 0)) (
k10) (
getR 8 1 a0 fun v11 =>
ald v11 x1 fun v12 =>
ifB (decide (0 < (lg_cmp ((Int32.toInt64 x2) + (Int32.toInt64 x5)) (Int32.toInt64 v12)))) (
k10) (
getR 8 1 a0 fun v13 =>
ald v13 x3 fun v14 =>
ifB (decide ((lg_cmp ((Int32.toInt64 x4) + (Int32.toInt64 x5)) (Int32.toInt64 v14)) ≤ 0)) (
jn (
P_X8_copy_141 a0 x3 x4 x5 4000 0) fun k18 =>
P_X8_copy_104 k18 a0 x1 x2 x3 x4 x5 4000 0) (
k10))))) (
k6))) (
cllV 8 a0 (P_X8_refuse a0 5) fun v22 =>
pureM v22)) (
pureM ((-1))))
set_option maxHeartbeats 4000000 in
set_option maxRecDepth 100000 in
theorem W_X8_copy_141 {Γ : Cx} (ok : OKc Γ cX8_copy RX8 2 "copy") (okr : OKr Γ cX8_copy (some .int)) (p0 : Nat) (p3 : Int32) (p4 : Int32) (p5 : Int32) : ∀ (n : Nat) (q6 : Int32), SW Γ iI 141 [some (.ref p0), none, none, some (.int p3), some (.int p4), some (.int p5), some (.int q6)] [] (P_X8_copy_141 p0 p3 p4 p5 n q6) := by
  intro n
  induction n with
  | zero =>
    intros
    exact sw_fail
  | succ n ih =>
    intro q6
    unfold P_X8_copy_141
    refine sw_iload (z := q6) (pc' := 143) ok dX8_copy_141 rfl rfl ?_
    refine sw_iload (z := p5) (pc' := 145) ok dX8_copy_143 rfl rfl ?_
    refine sw_icmp_ge (tgt := 176) (pc' := 148) ok dX8_copy_145 (by decide) rfl ?_ ?_
    · refine sw_iconst (v := 1) (pc' := 177) ok dX8_copy_176 rfl cc_iconst_1 ?_
      exact sw_ret ok okr dX8_copy_177 trivial rfl
    refine sw_aload_n (z := p0) (pc' := 149) ok dX8_copy_148 rfl rfl ?_
    refine sw_getR (pc' := 152) ok (fr_X8_7.g) dX8_copy_149 rfl (fun v15 => ?_)
    refine sw_bipush (v := 40) (pc' := 154) ok dX8_copy_152 rfl cc_bipush_40 ?_
    refine sw_iload_n (z := p3) (pc' := 155) ok dX8_copy_154 rfl rfl ?_
    refine sw_imul (pc' := 156) ok dX8_copy_155 rfl ?_
    refine sw_iload (z := p4) (pc' := 158) ok dX8_copy_156 rfl rfl ?_
    refine sw_iadd (pc' := 159) ok dX8_copy_158 rfl ?_
    refine sw_iload (z := q6) (pc' := 161) ok dX8_copy_159 rfl rfl ?_
    refine sw_iadd (pc' := 162) ok dX8_copy_161 rfl ?_
    refine sw_aload_n (z := p0) (pc' := 163) ok dX8_copy_162 rfl rfl ?_
    refine sw_getR (pc' := 166) ok (fr_X8_47.g) dX8_copy_163 rfl (fun v16 => ?_)
    refine sw_iload (z := q6) (pc' := 168) ok dX8_copy_166 rfl rfl ?_
    refine sw_ald (pc' := 169) ok dX8_copy_168 rfl (fun v17 => ?_)
    refine sw_ast (pc' := 170) ok dX8_copy_169 rfl ?_
    refine sw_iinc (z := q6) (v := q6 + 1) (pc' := 173) (l' := [some (.ref p0), none, none, some (.int p3), some (.int p4), some (.int p5), some (.int (q6 + 1))]) ok dX8_copy_170 rfl rfl (by rw [cc_iconst_1]) rfl ?_
    refine sw_goto (tgt := 141) ok dX8_copy_173 (by decide) ?_
    exact ih (q6 + 1)
set_option maxHeartbeats 4000000 in
set_option maxRecDepth 100000 in
theorem W_X8_copy_104 {Γ : Cx} (ok : OKc Γ cX8_copy RX8 2 "copy") (okr : OKr Γ cX8_copy (some .int)) (k_138 : PM Int32) (p0 : Nat) (p1 : Int32) (p2 : Int32) (p3 : Int32) (p4 : Int32) (p5 : Int32) (hk_138 : SW Γ iI 138 [some (.ref p0), none, none, some (.int p3), some (.int p4), some (.int p5), none] [] (k_138)) : ∀ (n : Nat) (q6 : Int32), SW Γ iI 104 [some (.ref p0), some (.int p1), some (.int p2), some (.int p3), some (.int p4), some (.int p5), some (.int q6)] [] (P_X8_copy_104 k_138 p0 p1 p2 p3 p4 p5 n q6) := by
  intro n
  induction n with
  | zero =>
    intros
    exact sw_fail
  | succ n ih =>
    intro q6
    unfold P_X8_copy_104
    refine sw_iload (z := q6) (pc' := 106) ok dX8_copy_104 rfl rfl ?_
    refine sw_iload (z := p5) (pc' := 108) ok dX8_copy_106 rfl rfl ?_
    refine sw_icmp_ge (tgt := 138) (pc' := 111) ok dX8_copy_108 (by decide) rfl ?_ ?_
    · refine sw_fg (l' := [some (.ref p0), none, none, some (.int p3), some (.int p4), some (.int p5), none]) [true, false, false, true, true, true, false] rfl ?_
      exact hk_138
    refine sw_aload_n (z := p0) (pc' := 112) ok dX8_copy_111 rfl rfl ?_
    refine sw_getR (pc' := 115) ok (fr_X8_47.g) dX8_copy_112 rfl (fun v19 => ?_)
    refine sw_iload (z := q6) (pc' := 117) ok dX8_copy_115 rfl rfl ?_
    refine sw_aload_n (z := p0) (pc' := 118) ok dX8_copy_117 rfl rfl ?_
    refine sw_getR (pc' := 121) ok (fr_X8_7.g) dX8_copy_118 rfl (fun v20 => ?_)
    refine sw_bipush (v := 40) (pc' := 123) ok dX8_copy_121 rfl cc_bipush_40 ?_
    refine sw_iload_n (z := p1) (pc' := 124) ok dX8_copy_123 rfl rfl ?_
    refine sw_imul (pc' := 125) ok dX8_copy_124 rfl ?_
    refine sw_iload_n (z := p2) (pc' := 126) ok dX8_copy_125 rfl rfl ?_
    refine sw_iadd (pc' := 127) ok dX8_copy_126 rfl ?_
    refine sw_iload (z := q6) (pc' := 129) ok dX8_copy_127 rfl rfl ?_
    refine sw_iadd (pc' := 130) ok dX8_copy_129 rfl ?_
    refine sw_ald (pc' := 131) ok dX8_copy_130 rfl (fun v21 => ?_)
    refine sw_ast (pc' := 132) ok dX8_copy_131 rfl ?_
    refine sw_iinc (z := q6) (v := q6 + 1) (pc' := 135) (l' := [some (.ref p0), some (.int p1), some (.int p2), some (.int p3), some (.int p4), some (.int p5), some (.int (q6 + 1))]) ok dX8_copy_132 rfl rfl (by rw [cc_iconst_1]) rfl ?_
    refine sw_goto (tgt := 104) ok dX8_copy_135 (by decide) ?_
    exact ih (q6 + 1)
set_option maxHeartbeats 4000000 in
set_option maxRecDepth 100000 in
theorem W_X8_copy {Γ : Cx} (ok : OKc Γ cX8_copy RX8 2 "copy") (okr : OKr Γ cX8_copy (some .int)) (a0 : Nat) (x1 : Int32) (x2 : Int32) (x3 : Int32) (x4 : Int32) (x5 : Int32) : SW Γ iI 0 [some (.ref a0), some (.int x1), some (.int x2), some (.int x3), some (.int x4), some (.int x5), none] [] (P_X8_copy a0 x1 x2 x3 x4 x5) := by
  unfold P_X8_copy
  refine sw_iload_n (z := x1) (pc' := 1) ok dX8_copy_0 rfl rfl ?_
  refine sw_cll0_I (st := []) (as := [.int x1]) (pc' := 4) ok (S_X8_isRow x1) (by decide) lk_X8_86 rfl dX8_copy_1 rfl (Nat.le_of_ble_eq_true rfl) rfl (fun v1 => ?_)
  refine sw_if_eq (tgt := 14) (pc' := 7) ok dX8_copy_4 (by decide) rfl ?_ ?_
  · refine sw_iconst (v := (-1)) (pc' := 15) ok dX8_copy_14 rfl cc_iconst_m1 ?_
    exact sw_ret ok okr dX8_copy_15 trivial rfl
  refine sw_iload_n (z := x3) (pc' := 8) ok dX8_copy_7 rfl rfl ?_
  refine sw_cll0_I (st := []) (as := [.int x3]) (pc' := 11) ok (S_X8_isRow x3) (by decide) lk_X8_86 rfl dX8_copy_8 rfl (Nat.le_of_ble_eq_true rfl) rfl (fun v2 => ?_)
  refine sw_if_ne (tgt := 16) (pc' := 14) ok dX8_copy_11 (by decide) rfl ?_ ?_
  · refine sw_iload (z := x5) (pc' := 18) ok dX8_copy_16 rfl rfl ?_
    refine sw_if_ge (tgt := 27) (pc' := 21) ok dX8_copy_18 (by decide) rfl ?_ ?_
    · refine sw_aload_n (z := a0) (pc' := 28) ok dX8_copy_27 rfl rfl ?_
      refine sw_getR (pc' := 31) ok (fr_X8_13.g) dX8_copy_28 rfl (fun v3 => ?_)
      refine sw_iload_n (z := x1) (pc' := 32) ok dX8_copy_31 rfl rfl ?_
      refine sw_ald (pc' := 33) ok dX8_copy_32 rfl (fun v4 => ?_)
      refine sw_jn (fun k6 : PM Int32 => SW Γ iI 45 [some (.ref a0), none, none, none, none, none, none] [] (k6)) ?_ (fun k6 hk6 => ?_)
      · refine sw_aload_n (z := a0) (pc' := 46) ok dX8_copy_45 rfl rfl ?_
        refine sw_iconst (v := 1) (pc' := 47) ok dX8_copy_46 rfl cc_iconst_1 ?_
        refine sw_cllV_I (st := []) (as := [.int 1]) (pc' := 50) ok (S_X8_refuse a0 1) (by decide) lk_X8_90 rfl dX8_copy_47 rfl (Nat.le_of_ble_eq_true rfl) rfl (fun v5 => ?_)
        exact sw_ret ok okr dX8_copy_50 trivial rfl
      refine sw_if_lt (tgt := 45) (pc' := 36) ok dX8_copy_33 (by decide) rfl ?_ ?_
      · refine sw_fg (l' := [some (.ref a0), none, none, none, none, none, none]) [true, false, false, false, false, false, false] rfl ?_
        exact hk6
      refine sw_aload_n (z := a0) (pc' := 37) ok dX8_copy_36 rfl rfl ?_
      refine sw_getR (pc' := 40) ok (fr_X8_13.g) dX8_copy_37 rfl (fun v7 => ?_)
      refine sw_iload_n (z := x3) (pc' := 41) ok dX8_copy_40 rfl rfl ?_
      refine sw_ald (pc' := 42) ok dX8_copy_41 rfl (fun v8 => ?_)
      refine sw_if_ge (tgt := 51) (pc' := 45) ok dX8_copy_42 (by decide) rfl ?_ ?_
      · refine sw_iload_n (z := x2) (pc' := 52) ok dX8_copy_51 rfl rfl ?_
        refine sw_jn (fun k10 : PM Int32 => SW Γ iI 95 [some (.ref a0), none, none, none, none, none, none] [] (k10)) ?_ (fun k10 hk10 => ?_)
        · refine sw_aload_n (z := a0) (pc' := 96) ok dX8_copy_95 rfl rfl ?_
          refine sw_iconst (v := 2) (pc' := 97) ok dX8_copy_96 rfl cc_iconst_2 ?_
          refine sw_cllV_I (st := []) (as := [.int 2]) (pc' := 100) ok (S_X8_refuse a0 2) (by decide) lk_X8_90 rfl dX8_copy_97 rfl (Nat.le_of_ble_eq_true rfl) rfl (fun v9 => ?_)
          exact sw_ret ok okr dX8_copy_100 trivial rfl
        refine sw_if_lt (tgt := 95) (pc' := 55) ok dX8_copy_52 (by decide) rfl ?_ ?_
        · refine sw_fg (l' := [some (.ref a0), none, none, none, none, none, none]) [true, false, false, false, false, false, false] rfl ?_
          exact hk10
        refine sw_iload (z := x4) (pc' := 57) ok dX8_copy_55 rfl rfl ?_
        refine sw_if_lt (tgt := 95) (pc' := 60) ok dX8_copy_57 (by decide) rfl ?_ ?_
        · refine sw_fg (l' := [some (.ref a0), none, none, none, none, none, none]) [true, false, false, false, false, false, false] rfl ?_
          exact hk10
        refine sw_iload_n (z := x2) (pc' := 61) ok dX8_copy_60 rfl rfl ?_
        refine sw_i2l (pc' := 62) ok dX8_copy_61 rfl ?_
        refine sw_iload (z := x5) (pc' := 64) ok dX8_copy_62 rfl rfl ?_
        refine sw_i2l (pc' := 65) ok dX8_copy_64 rfl ?_
        refine sw_ladd (pc' := 66) ok dX8_copy_65 rfl ?_
        refine sw_aload_n (z := a0) (pc' := 67) ok dX8_copy_66 rfl rfl ?_
        refine sw_getR (pc' := 70) ok (fr_X8_13.g) dX8_copy_67 rfl (fun v11 => ?_)
        refine sw_iload_n (z := x1) (pc' := 71) ok dX8_copy_70 rfl rfl ?_
        refine sw_ald (pc' := 72) ok dX8_copy_71 rfl (fun v12 => ?_)
        refine sw_i2l (pc' := 73) ok dX8_copy_72 rfl ?_
        refine sw_lcmp (pc' := 74) ok dX8_copy_73 rfl ?_
        refine sw_if_gt (tgt := 95) (pc' := 77) ok dX8_copy_74 (by decide) rfl ?_ ?_
        · refine sw_fg (l' := [some (.ref a0), none, none, none, none, none, none]) [true, false, false, false, false, false, false] rfl ?_
          exact hk10
        refine sw_iload (z := x4) (pc' := 79) ok dX8_copy_77 rfl rfl ?_
        refine sw_i2l (pc' := 80) ok dX8_copy_79 rfl ?_
        refine sw_iload (z := x5) (pc' := 82) ok dX8_copy_80 rfl rfl ?_
        refine sw_i2l (pc' := 83) ok dX8_copy_82 rfl ?_
        refine sw_ladd (pc' := 84) ok dX8_copy_83 rfl ?_
        refine sw_aload_n (z := a0) (pc' := 85) ok dX8_copy_84 rfl rfl ?_
        refine sw_getR (pc' := 88) ok (fr_X8_13.g) dX8_copy_85 rfl (fun v13 => ?_)
        refine sw_iload_n (z := x3) (pc' := 89) ok dX8_copy_88 rfl rfl ?_
        refine sw_ald (pc' := 90) ok dX8_copy_89 rfl (fun v14 => ?_)
        refine sw_i2l (pc' := 91) ok dX8_copy_90 rfl ?_
        refine sw_lcmp (pc' := 92) ok dX8_copy_91 rfl ?_
        refine sw_if_le (tgt := 101) (pc' := 95) ok dX8_copy_92 (by decide) rfl ?_ ?_
        · refine sw_iconst (v := 0) (pc' := 102) ok dX8_copy_101 rfl cc_iconst_0 ?_
          refine sw_istore (pc' := 104) (l' := [some (.ref a0), some (.int x1), some (.int x2), some (.int x3), some (.int x4), some (.int x5), some (.int 0)]) ok dX8_copy_102 rfl (Nat.le_of_ble_eq_true rfl) rfl ?_
          refine sw_jn (fun k18 : PM Int32 => SW Γ iI 138 [some (.ref a0), none, none, some (.int x3), some (.int x4), some (.int x5), none] [] (k18)) ?_ (fun k18 hk18 => ?_)
          · refine sw_iconst (v := 0) (pc' := 139) ok dX8_copy_138 rfl cc_iconst_0 ?_
            refine sw_istore (pc' := 141) (l' := [some (.ref a0), none, none, some (.int x3), some (.int x4), some (.int x5), some (.int 0)]) ok dX8_copy_139 rfl (Nat.le_of_ble_eq_true rfl) rfl ?_
            exact W_X8_copy_141 ok okr a0 x3 x4 x5 4000 0
          exact W_X8_copy_104 ok okr k18 a0 x1 x2 x3 x4 x5 hk18 4000 0
        refine sw_fg (l' := [some (.ref a0), none, none, none, none, none, none]) [true, false, false, false, false, false, false] rfl ?_
        exact hk10
      refine sw_fg (l' := [some (.ref a0), none, none, none, none, none, none]) [true, false, false, false, false, false, false] rfl ?_
      exact hk6
    refine sw_aload_n (z := a0) (pc' := 22) ok dX8_copy_21 rfl rfl ?_
    refine sw_iconst (v := 5) (pc' := 23) ok dX8_copy_22 rfl cc_iconst_5 ?_
    refine sw_cllV_I (st := []) (as := [.int 5]) (pc' := 26) ok (S_X8_refuse a0 5) (by decide) lk_X8_90 rfl dX8_copy_23 rfl (Nat.le_of_ble_eq_true rfl) rfl (fun v22 => ?_)
    exact sw_ret ok okr dX8_copy_26 trivial rfl
  refine sw_iconst (v := (-1)) (pc' := 15) ok dX8_copy_14 rfl cc_iconst_m1 ?_
  exact sw_ret ok okr dX8_copy_15 trivial rfl
theorem S_X8_copy (a0 : Nat) (x1 : Int32) (x2 : Int32) (x3 : Int32) (x4 : Int32) (x5 : Int32) : Sim 2 yX8_copy cX8_copy 7 (some .int) iI [.ref a0, .int x1, .int x2, .int x3, .int x4, .int x5] (P_X8_copy a0 x1 x2 x3 x4 x5) := Sim.intro wd_1073 (by decide) (by decide +kernel) (Nat.le_of_ble_eq_true rfl) (fun Γ ok okr => W_X8_copy ok okr a0 x1 x2 x3 x4 x5)
theorem dX8_mean_0 : decode cX8_mean 0 = .ok (.iload_n 1, 1) := by decide +kernel
theorem dX8_mean_1 : decode cX8_mean 1 = .ok (.invokestatic 86, 3) := by decide +kernel
theorem dX8_mean_4 : decode cX8_mean 4 = .ok (.ifCond .ne 5, 3) := by decide +kernel
theorem dX8_mean_7 : decode cX8_mean 7 = .ok (.iconst (-1), 1) := by decide +kernel
theorem dX8_mean_8 : decode cX8_mean 8 = .ok (.ireturn, 1) := by decide +kernel
theorem dX8_mean_9 : decode cX8_mean 9 = .ok (.aload_n 0, 1) := by decide +kernel
theorem dX8_mean_10 : decode cX8_mean 10 = .ok (.getfield 13, 3) := by decide +kernel
theorem dX8_mean_13 : decode cX8_mean 13 = .ok (.iload_n 1, 1) := by decide +kernel
theorem dX8_mean_14 : decode cX8_mean 14 = .ok (.iaload, 1) := by decide +kernel
theorem dX8_mean_15 : decode cX8_mean 15 = .ok (.ifCond .ge 9, 3) := by decide +kernel
theorem dX8_mean_18 : decode cX8_mean 18 = .ok (.aload_n 0, 1) := by decide +kernel
theorem dX8_mean_19 : decode cX8_mean 19 = .ok (.iconst 1, 1) := by decide +kernel
theorem dX8_mean_20 : decode cX8_mean 20 = .ok (.invokevirtual 90, 3) := by decide +kernel
theorem dX8_mean_23 : decode cX8_mean 23 = .ok (.ireturn, 1) := by decide +kernel
theorem dX8_mean_24 : decode cX8_mean 24 = .ok (.aload_n 0, 1) := by decide +kernel
theorem dX8_mean_25 : decode cX8_mean 25 = .ok (.getfield 13, 3) := by decide +kernel
theorem dX8_mean_28 : decode cX8_mean 28 = .ok (.iload_n 1, 1) := by decide +kernel
theorem dX8_mean_29 : decode cX8_mean 29 = .ok (.iaload, 1) := by decide +kernel
theorem dX8_mean_30 : decode cX8_mean 30 = .ok (.ifCond .ne 9, 3) := by decide +kernel
theorem dX8_mean_33 : decode cX8_mean 33 = .ok (.aload_n 0, 1) := by decide +kernel
theorem dX8_mean_34 : decode cX8_mean 34 = .ok (.iconst 4, 1) := by decide +kernel
theorem dX8_mean_35 : decode cX8_mean 35 = .ok (.invokevirtual 90, 3) := by decide +kernel
theorem dX8_mean_38 : decode cX8_mean 38 = .ok (.ireturn, 1) := by decide +kernel
theorem dX8_mean_39 : decode cX8_mean 39 = .ok (.lconst 0, 1) := by decide +kernel
theorem dX8_mean_40 : decode cX8_mean 40 = .ok (.lstore_n 2, 1) := by decide +kernel
theorem dX8_mean_41 : decode cX8_mean 41 = .ok (.iconst 0, 1) := by decide +kernel
theorem dX8_mean_42 : decode cX8_mean 42 = .ok (.istore 4, 2) := by decide +kernel
theorem dX8_mean_44 : decode cX8_mean 44 = .ok (.iload 4, 2) := by decide +kernel
theorem dX8_mean_46 : decode cX8_mean 46 = .ok (.aload_n 0, 1) := by decide +kernel
theorem dX8_mean_47 : decode cX8_mean 47 = .ok (.getfield 13, 3) := by decide +kernel
theorem dX8_mean_50 : decode cX8_mean 50 = .ok (.iload_n 1, 1) := by decide +kernel
theorem dX8_mean_51 : decode cX8_mean 51 = .ok (.iaload, 1) := by decide +kernel
theorem dX8_mean_52 : decode cX8_mean 52 = .ok (.if_icmp .ge 25, 3) := by decide +kernel
theorem dX8_mean_55 : decode cX8_mean 55 = .ok (.lload_n 2, 1) := by decide +kernel
theorem dX8_mean_56 : decode cX8_mean 56 = .ok (.aload_n 0, 1) := by decide +kernel
theorem dX8_mean_57 : decode cX8_mean 57 = .ok (.getfield 7, 3) := by decide +kernel
theorem dX8_mean_60 : decode cX8_mean 60 = .ok (.bipush 40, 2) := by decide +kernel
theorem dX8_mean_62 : decode cX8_mean 62 = .ok (.iload_n 1, 1) := by decide +kernel
theorem dX8_mean_63 : decode cX8_mean 63 = .ok (.imul, 1) := by decide +kernel
theorem dX8_mean_64 : decode cX8_mean 64 = .ok (.iload 4, 2) := by decide +kernel
theorem dX8_mean_66 : decode cX8_mean 66 = .ok (.iadd, 1) := by decide +kernel
theorem dX8_mean_67 : decode cX8_mean 67 = .ok (.iaload, 1) := by decide +kernel
theorem dX8_mean_68 : decode cX8_mean 68 = .ok (.i2l, 1) := by decide +kernel
theorem dX8_mean_69 : decode cX8_mean 69 = .ok (.ladd, 1) := by decide +kernel
theorem dX8_mean_70 : decode cX8_mean 70 = .ok (.lstore_n 2, 1) := by decide +kernel
theorem dX8_mean_71 : decode cX8_mean 71 = .ok (.iinc 4 1, 3) := by decide +kernel
theorem dX8_mean_74 : decode cX8_mean 74 = .ok (.goto (-30), 3) := by decide +kernel
theorem dX8_mean_77 : decode cX8_mean 77 = .ok (.aload_n 0, 1) := by decide +kernel
theorem dX8_mean_78 : decode cX8_mean 78 = .ok (.lload_n 2, 1) := by decide +kernel
theorem dX8_mean_79 : decode cX8_mean 79 = .ok (.aload_n 0, 1) := by decide +kernel
theorem dX8_mean_80 : decode cX8_mean 80 = .ok (.getfield 13, 3) := by decide +kernel
theorem dX8_mean_83 : decode cX8_mean 83 = .ok (.iload_n 1, 1) := by decide +kernel
theorem dX8_mean_84 : decode cX8_mean 84 = .ok (.iaload, 1) := by decide +kernel
theorem dX8_mean_85 : decode cX8_mean 85 = .ok (.i2l, 1) := by decide +kernel
theorem dX8_mean_86 : decode cX8_mean 86 = .ok (.ldiv, 1) := by decide +kernel
theorem dX8_mean_87 : decode cX8_mean 87 = .ok (.l2i, 1) := by decide +kernel
theorem dX8_mean_88 : decode cX8_mean 88 = .ok (.putfield 98, 3) := by decide +kernel
theorem dX8_mean_91 : decode cX8_mean 91 = .ok (.iconst 1, 1) := by decide +kernel
theorem dX8_mean_92 : decode cX8_mean 92 = .ok (.ireturn, 1) := by decide +kernel
def P_X8_mean_44 (k_77 : Int64 → PM Int32) (p0 : Nat) (p1 : Int32) : Nat → Int64 → Int32 → PM Int32
  | 0, _, _ => failM
  | n + 1, q2, q4 =>
    getR 8 1 p0 fun v11 =>
    ald v11 p1 fun v12 =>
    ifB (decide (v12 ≤ q4)) (
    k_77 q2) (
    getR 8 0 p0 fun v13 =>
    ald v13 ((40 * p1) + q4) fun v14 =>
    P_X8_mean_44 k_77 p0 p1 n (q2 + (Int32.toInt64 v14)) (q4 + 1))
def P_X8_mean (a0 : Nat) (x1 : Int32) : PM Int32 :=
cll0 (P_X8_isRow x1) fun v1 =>
ifB (decide (¬ v1 = 0)) (
getR 8 1 a0 fun v2 =>
ald v2 x1 fun v3 =>
ifB (decide (0 ≤ v3)) (
getR 8 1 a0 fun v4 =>
ald v4 x1 fun v5 =>
ifB (decide (¬ v5 = 0)) (
jn (fun (e6 : Int64) =>
getR 8 1 a0 fun v7 =>
ald v7 x1 fun v8 =>
divL e6 (Int32.toInt64 v8) fun v9 =>
setI 8 14 a0 (Int64.toInt32 v9) <|
pureM 1) fun k10 =>
P_X8_mean_44 k10 a0 x1 4000 0 0) (
cllV 8 a0 (P_X8_refuse a0 4) fun v15 =>
pureM v15)) (
cllV 8 a0 (P_X8_refuse a0 1) fun v16 =>
pureM v16)) (
pureM ((-1)))
set_option maxHeartbeats 4000000 in
set_option maxRecDepth 100000 in
theorem W_X8_mean_44 {Γ : Cx} (ok : OKc Γ cX8_mean RX8 2 "mean") (okr : OKr Γ cX8_mean (some .int)) (k_77 : Int64 → PM Int32) (p0 : Nat) (p1 : Int32) (hk_77 : ∀ (y2 : Int64), SW Γ iI 77 [some (.ref p0), some (.int p1), some (.long y2), none, none] [] (k_77 y2)) : ∀ (n : Nat) (q2 : Int64) (q4 : Int32), SW Γ iI 44 [some (.ref p0), some (.int p1), some (.long q2), none, some (.int q4)] [] (P_X8_mean_44 k_77 p0 p1 n q2 q4) := by
  intro n
  induction n with
  | zero =>
    intros
    exact sw_fail
  | succ n ih =>
    intro q2 q4
    unfold P_X8_mean_44
    refine sw_iload (z := q4) (pc' := 46) ok dX8_mean_44 rfl rfl ?_
    refine sw_aload_n (z := p0) (pc' := 47) ok dX8_mean_46 rfl rfl ?_
    refine sw_getR (pc' := 50) ok (fr_X8_13.g) dX8_mean_47 rfl (fun v11 => ?_)
    refine sw_iload_n (z := p1) (pc' := 51) ok dX8_mean_50 rfl rfl ?_
    refine sw_ald (pc' := 52) ok dX8_mean_51 rfl (fun v12 => ?_)
    refine sw_icmp_ge (tgt := 77) (pc' := 55) ok dX8_mean_52 (by decide) rfl ?_ ?_
    · refine sw_fg (l' := [some (.ref p0), some (.int p1), some (.long q2), none, none]) [true, true, true, false, false] rfl ?_
      exact hk_77 q2
    refine sw_lload_n (z := q2) (pc' := 56) ok dX8_mean_55 rfl rfl ?_
    refine sw_aload_n (z := p0) (pc' := 57) ok dX8_mean_56 rfl rfl ?_
    refine sw_getR (pc' := 60) ok (fr_X8_7.g) dX8_mean_57 rfl (fun v13 => ?_)
    refine sw_bipush (v := 40) (pc' := 62) ok dX8_mean_60 rfl cc_bipush_40 ?_
    refine sw_iload_n (z := p1) (pc' := 63) ok dX8_mean_62 rfl rfl ?_
    refine sw_imul (pc' := 64) ok dX8_mean_63 rfl ?_
    refine sw_iload (z := q4) (pc' := 66) ok dX8_mean_64 rfl rfl ?_
    refine sw_iadd (pc' := 67) ok dX8_mean_66 rfl ?_
    refine sw_ald (pc' := 68) ok dX8_mean_67 rfl (fun v14 => ?_)
    refine sw_i2l (pc' := 69) ok dX8_mean_68 rfl ?_
    refine sw_ladd (pc' := 70) ok dX8_mean_69 rfl ?_
    refine sw_lstore_n (pc' := 71) (l' := [some (.ref p0), some (.int p1), some (.long (q2 + (Int32.toInt64 v14))), none, some (.int q4)]) ok dX8_mean_70 rfl (Nat.le_of_ble_eq_true rfl) rfl ?_
    refine sw_iinc (z := q4) (v := q4 + 1) (pc' := 74) (l' := [some (.ref p0), some (.int p1), some (.long (q2 + (Int32.toInt64 v14))), none, some (.int (q4 + 1))]) ok dX8_mean_71 rfl rfl (by rw [cc_iconst_1]) rfl ?_
    refine sw_goto (tgt := 44) ok dX8_mean_74 (by decide) ?_
    exact ih (q2 + (Int32.toInt64 v14)) (q4 + 1)
set_option maxHeartbeats 4000000 in
set_option maxRecDepth 100000 in
theorem W_X8_mean {Γ : Cx} (ok : OKc Γ cX8_mean RX8 2 "mean") (okr : OKr Γ cX8_mean (some .int)) (a0 : Nat) (x1 : Int32) : SW Γ iI 0 [some (.ref a0), some (.int x1), none, none, none] [] (P_X8_mean a0 x1) := by
  unfold P_X8_mean
  refine sw_iload_n (z := x1) (pc' := 1) ok dX8_mean_0 rfl rfl ?_
  refine sw_cll0_I (st := []) (as := [.int x1]) (pc' := 4) ok (S_X8_isRow x1) (by decide) lk_X8_86 rfl dX8_mean_1 rfl (Nat.le_of_ble_eq_true rfl) rfl (fun v1 => ?_)
  refine sw_if_ne (tgt := 9) (pc' := 7) ok dX8_mean_4 (by decide) rfl ?_ ?_
  · refine sw_aload_n (z := a0) (pc' := 10) ok dX8_mean_9 rfl rfl ?_
    refine sw_getR (pc' := 13) ok (fr_X8_13.g) dX8_mean_10 rfl (fun v2 => ?_)
    refine sw_iload_n (z := x1) (pc' := 14) ok dX8_mean_13 rfl rfl ?_
    refine sw_ald (pc' := 15) ok dX8_mean_14 rfl (fun v3 => ?_)
    refine sw_if_ge (tgt := 24) (pc' := 18) ok dX8_mean_15 (by decide) rfl ?_ ?_
    · refine sw_aload_n (z := a0) (pc' := 25) ok dX8_mean_24 rfl rfl ?_
      refine sw_getR (pc' := 28) ok (fr_X8_13.g) dX8_mean_25 rfl (fun v4 => ?_)
      refine sw_iload_n (z := x1) (pc' := 29) ok dX8_mean_28 rfl rfl ?_
      refine sw_ald (pc' := 30) ok dX8_mean_29 rfl (fun v5 => ?_)
      refine sw_if_ne (tgt := 39) (pc' := 33) ok dX8_mean_30 (by decide) rfl ?_ ?_
      · refine sw_lconst (v := 0) (pc' := 40) ok dX8_mean_39 rfl cc_lconst_0 ?_
        refine sw_lstore_n (pc' := 41) (l' := [some (.ref a0), some (.int x1), some (.long 0), none, none]) ok dX8_mean_40 rfl (Nat.le_of_ble_eq_true rfl) rfl ?_
        refine sw_iconst (v := 0) (pc' := 42) ok dX8_mean_41 rfl cc_iconst_0 ?_
        refine sw_istore (pc' := 44) (l' := [some (.ref a0), some (.int x1), some (.long 0), none, some (.int 0)]) ok dX8_mean_42 rfl (Nat.le_of_ble_eq_true rfl) rfl ?_
        refine sw_jn (fun k10 : Int64 → PM Int32 => ∀ (e6 : Int64), SW Γ iI 77 [some (.ref a0), some (.int x1), some (.long e6), none, none] [] (k10 e6)) ?_ (fun k10 hk10 => ?_)
        · intro e6
          refine sw_aload_n (z := a0) (pc' := 78) ok dX8_mean_77 rfl rfl ?_
          refine sw_lload_n (z := e6) (pc' := 79) ok dX8_mean_78 rfl rfl ?_
          refine sw_aload_n (z := a0) (pc' := 80) ok dX8_mean_79 rfl rfl ?_
          refine sw_getR (pc' := 83) ok (fr_X8_13.g) dX8_mean_80 rfl (fun v7 => ?_)
          refine sw_iload_n (z := x1) (pc' := 84) ok dX8_mean_83 rfl rfl ?_
          refine sw_ald (pc' := 85) ok dX8_mean_84 rfl (fun v8 => ?_)
          refine sw_i2l (pc' := 86) ok dX8_mean_85 rfl ?_
          refine sw_divL (pc' := 87) ok dX8_mean_86 rfl (fun v9 => ?_)
          refine sw_l2i (pc' := 88) ok dX8_mean_87 rfl ?_
          refine sw_setI (pc' := 91) ok fr_X8_98 dX8_mean_88 (fun h => by cases h) rfl ?_
          refine sw_iconst (v := 1) (pc' := 92) ok dX8_mean_91 rfl cc_iconst_1 ?_
          exact sw_ret ok okr dX8_mean_92 trivial rfl
        exact W_X8_mean_44 ok okr k10 a0 x1 hk10 4000 0 0
      refine sw_aload_n (z := a0) (pc' := 34) ok dX8_mean_33 rfl rfl ?_
      refine sw_iconst (v := 4) (pc' := 35) ok dX8_mean_34 rfl cc_iconst_4 ?_
      refine sw_cllV_I (st := []) (as := [.int 4]) (pc' := 38) ok (S_X8_refuse a0 4) (by decide) lk_X8_90 rfl dX8_mean_35 rfl (Nat.le_of_ble_eq_true rfl) rfl (fun v15 => ?_)
      exact sw_ret ok okr dX8_mean_38 trivial rfl
    refine sw_aload_n (z := a0) (pc' := 19) ok dX8_mean_18 rfl rfl ?_
    refine sw_iconst (v := 1) (pc' := 20) ok dX8_mean_19 rfl cc_iconst_1 ?_
    refine sw_cllV_I (st := []) (as := [.int 1]) (pc' := 23) ok (S_X8_refuse a0 1) (by decide) lk_X8_90 rfl dX8_mean_20 rfl (Nat.le_of_ble_eq_true rfl) rfl (fun v16 => ?_)
    exact sw_ret ok okr dX8_mean_23 trivial rfl
  refine sw_iconst (v := (-1)) (pc' := 8) ok dX8_mean_7 rfl cc_iconst_m1 ?_
  exact sw_ret ok okr dX8_mean_8 trivial rfl
theorem S_X8_mean (a0 : Nat) (x1 : Int32) : Sim 2 yX8_mean cX8_mean 5 (some .int) iI [.ref a0, .int x1] (P_X8_mean a0 x1) := Sim.intro wd_1074 (by decide) (by decide +kernel) (Nat.le_of_ble_eq_true rfl) (fun Γ ok okr => W_X8_mean ok okr a0 x1)
theorem dX8_text_0 : decode cX8_text 0 = .ok (.iload_n 1, 1) := by decide +kernel
theorem dX8_text_1 : decode cX8_text 1 = .ok (.invokestatic 101, 3) := by decide +kernel
theorem dX8_text_4 : decode cX8_text 4 = .ok (.ifCond .eq 9, 3) := by decide +kernel
theorem dX8_text_7 : decode cX8_text 7 = .ok (.iload_n 2, 1) := by decide +kernel
theorem dX8_text_8 : decode cX8_text 8 = .ok (.bipush 60, 2) := by decide +kernel
theorem dX8_text_10 : decode cX8_text 10 = .ok (.if_icmp .le 5, 3) := by decide +kernel
theorem dX8_text_13 : decode cX8_text 13 = .ok (.iconst (-1), 1) := by decide +kernel
theorem dX8_text_14 : decode cX8_text 14 = .ok (.ireturn, 1) := by decide +kernel
theorem dX8_text_15 : decode cX8_text 15 = .ok (.iload_n 2, 1) := by decide +kernel
theorem dX8_text_16 : decode cX8_text 16 = .ok (.ifCond .ge 9, 3) := by decide +kernel
theorem dX8_text_19 : decode cX8_text 19 = .ok (.aload_n 0, 1) := by decide +kernel
theorem dX8_text_20 : decode cX8_text 20 = .ok (.iconst 5, 1) := by decide +kernel
theorem dX8_text_21 : decode cX8_text 21 = .ok (.invokevirtual 90, 3) := by decide +kernel
theorem dX8_text_24 : decode cX8_text 24 = .ok (.ireturn, 1) := by decide +kernel
theorem dX8_text_25 : decode cX8_text 25 = .ok (.iconst 0, 1) := by decide +kernel
theorem dX8_text_26 : decode cX8_text 26 = .ok (.istore_n 3, 1) := by decide +kernel
theorem dX8_text_27 : decode cX8_text 27 = .ok (.iload_n 3, 1) := by decide +kernel
theorem dX8_text_28 : decode cX8_text 28 = .ok (.iload_n 2, 1) := by decide +kernel
theorem dX8_text_29 : decode cX8_text 29 = .ok (.if_icmp .ge 22, 3) := by decide +kernel
theorem dX8_text_32 : decode cX8_text 32 = .ok (.aload_n 0, 1) := by decide +kernel
theorem dX8_text_33 : decode cX8_text 33 = .ok (.getfield 16, 3) := by decide +kernel
theorem dX8_text_36 : decode cX8_text 36 = .ok (.bipush 60, 2) := by decide +kernel
theorem dX8_text_38 : decode cX8_text 38 = .ok (.iload_n 1, 1) := by decide +kernel
theorem dX8_text_39 : decode cX8_text 39 = .ok (.imul, 1) := by decide +kernel
theorem dX8_text_40 : decode cX8_text 40 = .ok (.iload_n 3, 1) := by decide +kernel
theorem dX8_text_41 : decode cX8_text 41 = .ok (.iadd, 1) := by decide +kernel
theorem dX8_text_42 : decode cX8_text 42 = .ok (.bipush 32, 2) := by decide +kernel
theorem dX8_text_44 : decode cX8_text 44 = .ok (.iastore, 1) := by decide +kernel
theorem dX8_text_45 : decode cX8_text 45 = .ok (.iinc 3 1, 3) := by decide +kernel
theorem dX8_text_48 : decode cX8_text 48 = .ok (.goto (-21), 3) := by decide +kernel
theorem dX8_text_51 : decode cX8_text 51 = .ok (.aload_n 0, 1) := by decide +kernel
theorem dX8_text_52 : decode cX8_text 52 = .ok (.getfield 19, 3) := by decide +kernel
theorem dX8_text_55 : decode cX8_text 55 = .ok (.iload_n 1, 1) := by decide +kernel
theorem dX8_text_56 : decode cX8_text 56 = .ok (.iload_n 2, 1) := by decide +kernel
theorem dX8_text_57 : decode cX8_text 57 = .ok (.iastore, 1) := by decide +kernel
theorem dX8_text_58 : decode cX8_text 58 = .ok (.iload_n 2, 1) := by decide +kernel
theorem dX8_text_59 : decode cX8_text 59 = .ok (.ireturn, 1) := by decide +kernel
def P_X8_text_27 (k_51 : PM Int32) (p0 : Nat) (p1 : Int32) (p2 : Int32) : Nat → Int32 → PM Int32
  | 0, _ => failM
  | n + 1, q3 =>
    ifB (decide (p2 ≤ q3)) (
    k_51) (
    getR 8 2 p0 fun v4 =>
    ast v4 ((60 * p1) + q3) 32 <|
    P_X8_text_27 k_51 p0 p1 p2 n (q3 + 1))
def P_X8_text (a0 : Nat) (x1 : Int32) (x2 : Int32) : PM Int32 :=
cll0 (P_X8_isText x1) fun v1 =>
ifB (decide (v1 = 0)) (
pureM ((-1))) (
ifB (decide (x2 ≤ 60)) (
ifB (decide (0 ≤ x2)) (
jn (
getR 8 3 a0 fun v2 =>
ast v2 x1 x2 <|
pureM x2) fun k3 =>
P_X8_text_27 k3 a0 x1 x2 4000 0) (
cllV 8 a0 (P_X8_refuse a0 5) fun v5 =>
pureM v5)) (
pureM ((-1))))
set_option maxHeartbeats 4000000 in
set_option maxRecDepth 100000 in
theorem W_X8_text_27 {Γ : Cx} (ok : OKc Γ cX8_text RX8 2 "text") (okr : OKr Γ cX8_text (some .int)) (k_51 : PM Int32) (p0 : Nat) (p1 : Int32) (p2 : Int32) (hk_51 : SW Γ iI 51 [some (.ref p0), some (.int p1), some (.int p2), none] [] (k_51)) : ∀ (n : Nat) (q3 : Int32), SW Γ iI 27 [some (.ref p0), some (.int p1), some (.int p2), some (.int q3)] [] (P_X8_text_27 k_51 p0 p1 p2 n q3) := by
  intro n
  induction n with
  | zero =>
    intros
    exact sw_fail
  | succ n ih =>
    intro q3
    unfold P_X8_text_27
    refine sw_iload_n (z := q3) (pc' := 28) ok dX8_text_27 rfl rfl ?_
    refine sw_iload_n (z := p2) (pc' := 29) ok dX8_text_28 rfl rfl ?_
    refine sw_icmp_ge (tgt := 51) (pc' := 32) ok dX8_text_29 (by decide) rfl ?_ ?_
    · refine sw_fg (l' := [some (.ref p0), some (.int p1), some (.int p2), none]) [true, true, true, false] rfl ?_
      exact hk_51
    refine sw_aload_n (z := p0) (pc' := 33) ok dX8_text_32 rfl rfl ?_
    refine sw_getR (pc' := 36) ok (fr_X8_16.g) dX8_text_33 rfl (fun v4 => ?_)
    refine sw_bipush (v := 60) (pc' := 38) ok dX8_text_36 rfl cc_bipush_60 ?_
    refine sw_iload_n (z := p1) (pc' := 39) ok dX8_text_38 rfl rfl ?_
    refine sw_imul (pc' := 40) ok dX8_text_39 rfl ?_
    refine sw_iload_n (z := q3) (pc' := 41) ok dX8_text_40 rfl rfl ?_
    refine sw_iadd (pc' := 42) ok dX8_text_41 rfl ?_
    refine sw_bipush (v := 32) (pc' := 44) ok dX8_text_42 rfl cc_bipush_32 ?_
    refine sw_ast (pc' := 45) ok dX8_text_44 rfl ?_
    refine sw_iinc (z := q3) (v := q3 + 1) (pc' := 48) (l' := [some (.ref p0), some (.int p1), some (.int p2), some (.int (q3 + 1))]) ok dX8_text_45 rfl rfl (by rw [cc_iconst_1]) rfl ?_
    refine sw_goto (tgt := 27) ok dX8_text_48 (by decide) ?_
    exact ih (q3 + 1)
set_option maxHeartbeats 4000000 in
set_option maxRecDepth 100000 in
theorem W_X8_text {Γ : Cx} (ok : OKc Γ cX8_text RX8 2 "text") (okr : OKr Γ cX8_text (some .int)) (a0 : Nat) (x1 : Int32) (x2 : Int32) : SW Γ iI 0 [some (.ref a0), some (.int x1), some (.int x2), none] [] (P_X8_text a0 x1 x2) := by
  unfold P_X8_text
  refine sw_iload_n (z := x1) (pc' := 1) ok dX8_text_0 rfl rfl ?_
  refine sw_cll0_I (st := []) (as := [.int x1]) (pc' := 4) ok (S_X8_isText x1) (by decide) lk_X8_101 rfl dX8_text_1 rfl (Nat.le_of_ble_eq_true rfl) rfl (fun v1 => ?_)
  refine sw_if_eq (tgt := 13) (pc' := 7) ok dX8_text_4 (by decide) rfl ?_ ?_
  · refine sw_iconst (v := (-1)) (pc' := 14) ok dX8_text_13 rfl cc_iconst_m1 ?_
    exact sw_ret ok okr dX8_text_14 trivial rfl
  refine sw_iload_n (z := x2) (pc' := 8) ok dX8_text_7 rfl rfl ?_
  refine sw_bipush (v := 60) (pc' := 10) ok dX8_text_8 rfl cc_bipush_60 ?_
  refine sw_icmp_le (tgt := 15) (pc' := 13) ok dX8_text_10 (by decide) rfl ?_ ?_
  · refine sw_iload_n (z := x2) (pc' := 16) ok dX8_text_15 rfl rfl ?_
    refine sw_if_ge (tgt := 25) (pc' := 19) ok dX8_text_16 (by decide) rfl ?_ ?_
    · refine sw_iconst (v := 0) (pc' := 26) ok dX8_text_25 rfl cc_iconst_0 ?_
      refine sw_istore_n (pc' := 27) (l' := [some (.ref a0), some (.int x1), some (.int x2), some (.int 0)]) ok dX8_text_26 rfl (Nat.le_of_ble_eq_true rfl) rfl ?_
      refine sw_jn (fun k3 : PM Int32 => SW Γ iI 51 [some (.ref a0), some (.int x1), some (.int x2), none] [] (k3)) ?_ (fun k3 hk3 => ?_)
      · refine sw_aload_n (z := a0) (pc' := 52) ok dX8_text_51 rfl rfl ?_
        refine sw_getR (pc' := 55) ok (fr_X8_19.g) dX8_text_52 rfl (fun v2 => ?_)
        refine sw_iload_n (z := x1) (pc' := 56) ok dX8_text_55 rfl rfl ?_
        refine sw_iload_n (z := x2) (pc' := 57) ok dX8_text_56 rfl rfl ?_
        refine sw_ast (pc' := 58) ok dX8_text_57 rfl ?_
        refine sw_iload_n (z := x2) (pc' := 59) ok dX8_text_58 rfl rfl ?_
        exact sw_ret ok okr dX8_text_59 trivial rfl
      exact W_X8_text_27 ok okr k3 a0 x1 x2 hk3 4000 0
    refine sw_aload_n (z := a0) (pc' := 20) ok dX8_text_19 rfl rfl ?_
    refine sw_iconst (v := 5) (pc' := 21) ok dX8_text_20 rfl cc_iconst_5 ?_
    refine sw_cllV_I (st := []) (as := [.int 5]) (pc' := 24) ok (S_X8_refuse a0 5) (by decide) lk_X8_90 rfl dX8_text_21 rfl (Nat.le_of_ble_eq_true rfl) rfl (fun v5 => ?_)
    exact sw_ret ok okr dX8_text_24 trivial rfl
  refine sw_iconst (v := (-1)) (pc' := 14) ok dX8_text_13 rfl cc_iconst_m1 ?_
  exact sw_ret ok okr dX8_text_14 trivial rfl
theorem S_X8_text (a0 : Nat) (x1 : Int32) (x2 : Int32) : Sim 2 yX8_text cX8_text 4 (some .int) iI [.ref a0, .int x1, .int x2] (P_X8_text a0 x1 x2) := Sim.intro wd_1075 (by decide) (by decide +kernel) (Nat.le_of_ble_eq_true rfl) (fun Γ ok okr => W_X8_text ok okr a0 x1 x2)
