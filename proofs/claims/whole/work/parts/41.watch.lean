/-! Watches: the class. -/
section WATCHX
variable {B : BT}
/-- numbers within their bounds -/
def HV (m : Nat) (H : HT) : Prop := (∃ s, s ≤ 60 ∧ H.1 = nI s) ∧ (∃ h, h < 100 ∧ H.2.1 = nI h) ∧ (∀ k, ∃ u, u ≤ 30 ∧ H.2.2 k = nI u) ∧ ∀ k, m ≤ k → H.2.2 k = 0
theorem fm_dec : ∀ n, n < 128 → (0 : Int32) ≤ nI n ^^^ 12 := by decide +kernel
theorem x_floorMod {n : Nat} (h : n < 128) : P_J9_floorMod_7cf53 (nI n) 12 = pureM (nI n % 12) := by
  funext g
  simp only [P_J9_floorMod_7cf53, remI_hp _ _ _ ne12, ifB_hp, fm_dec n h, if_true]
theorem x_hour {D : DT} {a n : Nat} (ha : isHo a) (h : fI D a 3 = nI n) (hn : n < 128) : P_X1_hour a (hp B D) = some (fI D a 3 % 12, hp B D) := by
  simp only [P_X1_hour, pureM_hp, ifB_t, ifB_f, decide_true, decide_false, ifB_hp, jn_hp, retZ_0, retZ_1, thn_some, cll0_w, cllV_w, getI_w, getL_w, getR_w, setI_w, setZ_w0, setZ_w1, setL_w, ald_w, ast_w, alen_w, aldR_2, aldR_3, aldR_4, aldR_22, cll0_pure, ↓reduceIte, if_true, if_false, Bool.false_eq_true, reduceCtorEq, and_true, true_and, and_false, false_and, ite_self, ha.2.2.2.2.1, h, x_floorMod hn]
theorem x_has {D : DT} {f m : Nat} (hf : isFo f) (hm : fI D f 4 = nI m) (hm6 : m ≤ 6) (x : Int32) : P_X0_has f x (hp B D) = some (b2i (decide (0 ≤ x.toInt ∧ x.toInt < m)), hp B D) := by
  simp only [P_X0_has, pureM_hp, ifB_t, ifB_f, decide_true, decide_false, ifB_hp, jn_hp, retZ_0, retZ_1, thn_some, cll0_w, cllV_w, getI_w, getL_w, getR_w, setI_w, setZ_w0, setZ_w1, setL_w, ald_w, ast_w, alen_w, aldR_2, aldR_3, aldR_4, aldR_22, cll0_pure, ↓reduceIte, if_true, if_false, Bool.false_eq_true, reduceCtorEq, and_true, true_and, and_false, false_and, ite_self, Int32.reduceAdd, Int32.reduceToInt, Int32.reduceToNatClampNeg, Int32.reduceLT, Int32.reduceLE, Int.reduceLE, Int.reduceLT, Int.reduceNeg, Int.reduceAdd, Nat.reduceEqDiff, Nat.reduceAdd, Nat.reduceMul, Nat.reduceLeDiff, not_true_eq_false, not_false_eq_true, le_i, lt_i, b2i_0, lgi_gt, lgi_lt, lgi_le, lgi_ge, lq_m9_m6, lq_m9_m4, lq_m9_m3, lq_m9_m2, lq_m9_m1, lq_m9_0, lq_m9_1, lq_m9_2, lq_m9_3, lq_m9_4, lq_m9_5, lq_m6_m9, lq_m6_m4, lq_m6_m3, lq_m6_m2, lq_m6_m1, lq_m6_0, lq_m6_1, lq_m6_2, lq_m6_3, lq_m6_4, lq_m6_5, lq_m4_m9, lq_m4_m6, lq_m4_m3, lq_m4_m2, lq_m4_m1, lq_m4_0, lq_m4_1, lq_m4_2, lq_m4_3, lq_m4_4, lq_m4_5, lq_m3_m9, lq_m3_m6, lq_m3_m4, lq_m3_m2, lq_m3_m1, lq_m3_0, lq_m3_1, lq_m3_2, lq_m3_3, lq_m3_4, lq_m3_5, lq_m2_m9, lq_m2_m6, lq_m2_m4, lq_m2_m3, lq_m2_m1, lq_m2_0, lq_m2_1, lq_m2_2, lq_m2_3, lq_m2_4, lq_m2_5, lq_m1_m9, lq_m1_m6, lq_m1_m4, lq_m1_m3, lq_m1_m2, lq_m1_0, lq_m1_1, lq_m1_2, lq_m1_3, lq_m1_4, lq_m1_5, lq_0_m9, lq_0_m6, lq_0_m4, lq_0_m3, lq_0_m2, lq_0_m1, lq_0_1, lq_0_2, lq_0_3, lq_0_4, lq_0_5, lq_1_m9, lq_1_m6, lq_1_m4, lq_1_m3, lq_1_m2, lq_1_m1, lq_1_0, lq_1_2, lq_1_3, lq_1_4, lq_1_5, lq_2_m9, lq_2_m6, lq_2_m4, lq_2_m3, lq_2_m2, lq_2_m1, lq_2_0, lq_2_1, lq_2_3, lq_2_4, lq_2_5, lq_3_m9, lq_3_m6, lq_3_m4, lq_3_m3, lq_3_m2, lq_3_m1, lq_3_0, lq_3_1, lq_3_2, lq_3_4, lq_3_5, lq_4_m9, lq_4_m6, lq_4_m4, lq_4_m3, lq_4_m2, lq_4_m1, lq_4_0, lq_4_1, lq_4_2, lq_4_3, lq_4_5, lq_5_m9, lq_5_m6, lq_5_m4, lq_5_m3, lq_5_m2, lq_5_m1, lq_5_0, lq_5_1, lq_5_2, lq_5_3, lq_5_4, ti_m9, ti_m6, ti_m4, ti_m3, ti_m2, ti_m1, ti_0, ti_1, ti_2, ti_3, ti_4, ti_5, hf.2.2.2.2.2.1, hm, nI_toInt (show m < 2 ^ 31 by omega)]
  by_cases h1 : x.toInt < 0
  · have : ¬ (0 ≤ x.toInt ∧ x.toInt < m) := by omega
    simp [h1, this, b2i]
  · by_cases h2 : (m : Int) ≤ x.toInt
    · have : ¬ (0 ≤ x.toInt ∧ x.toInt < m) := by omega
      simp [h1, h2, this, b2i]
    · have : 0 ≤ x.toInt ∧ x.toInt < m := by omega
      simp [h1, h2, this, b2i]
theorem x_isPair {D : DT} {f m : Nat} (hf : isFo f) (hm : fI D f 4 = nI m) (hm6 : m ≤ 6) (x y : Int32) : P_X0_isPair f x y (hp B D) = some (b2i (decide ((0 ≤ x.toInt ∧ x.toInt < m) ∧ (0 ≤ y.toInt ∧ y.toInt < m) ∧ ¬ x = y)), hp B D) := by
  simp only [P_X0_isPair, pureM_hp, ifB_t, ifB_f, decide_true, decide_false, ifB_hp, jn_hp, retZ_0, retZ_1, thn_some, cll0_w, cllV_w, getI_w, getL_w, getR_w, setI_w, setZ_w0, setZ_w1, setL_w, ald_w, ast_w, alen_w, aldR_2, aldR_3, aldR_4, aldR_22, cll0_pure, ↓reduceIte, if_true, if_false, Bool.false_eq_true, reduceCtorEq, and_true, true_and, and_false, false_and, ite_self, Int32.reduceAdd, Int32.reduceToInt, Int32.reduceToNatClampNeg, Int32.reduceLT, Int32.reduceLE, Int.reduceLE, Int.reduceLT, Int.reduceNeg, Int.reduceAdd, Nat.reduceEqDiff, Nat.reduceAdd, Nat.reduceMul, Nat.reduceLeDiff, not_true_eq_false, not_false_eq_true, le_i, lt_i, b2i_0, lgi_gt, lgi_lt, lgi_le, lgi_ge, lq_m9_m6, lq_m9_m4, lq_m9_m3, lq_m9_m2, lq_m9_m1, lq_m9_0, lq_m9_1, lq_m9_2, lq_m9_3, lq_m9_4, lq_m9_5, lq_m6_m9, lq_m6_m4, lq_m6_m3, lq_m6_m2, lq_m6_m1, lq_m6_0, lq_m6_1, lq_m6_2, lq_m6_3, lq_m6_4, lq_m6_5, lq_m4_m9, lq_m4_m6, lq_m4_m3, lq_m4_m2, lq_m4_m1, lq_m4_0, lq_m4_1, lq_m4_2, lq_m4_3, lq_m4_4, lq_m4_5, lq_m3_m9, lq_m3_m6, lq_m3_m4, lq_m3_m2, lq_m3_m1, lq_m3_0, lq_m3_1, lq_m3_2, lq_m3_3, lq_m3_4, lq_m3_5, lq_m2_m9, lq_m2_m6, lq_m2_m4, lq_m2_m3, lq_m2_m1, lq_m2_0, lq_m2_1, lq_m2_2, lq_m2_3, lq_m2_4, lq_m2_5, lq_m1_m9, lq_m1_m6, lq_m1_m4, lq_m1_m3, lq_m1_m2, lq_m1_0, lq_m1_1, lq_m1_2, lq_m1_3, lq_m1_4, lq_m1_5, lq_0_m9, lq_0_m6, lq_0_m4, lq_0_m3, lq_0_m2, lq_0_m1, lq_0_1, lq_0_2, lq_0_3, lq_0_4, lq_0_5, lq_1_m9, lq_1_m6, lq_1_m4, lq_1_m3, lq_1_m2, lq_1_m1, lq_1_0, lq_1_2, lq_1_3, lq_1_4, lq_1_5, lq_2_m9, lq_2_m6, lq_2_m4, lq_2_m3, lq_2_m2, lq_2_m1, lq_2_0, lq_2_1, lq_2_3, lq_2_4, lq_2_5, lq_3_m9, lq_3_m6, lq_3_m4, lq_3_m3, lq_3_m2, lq_3_m1, lq_3_0, lq_3_1, lq_3_2, lq_3_4, lq_3_5, lq_4_m9, lq_4_m6, lq_4_m4, lq_4_m3, lq_4_m2, lq_4_m1, lq_4_0, lq_4_1, lq_4_2, lq_4_3, lq_4_5, lq_5_m9, lq_5_m6, lq_5_m4, lq_5_m3, lq_5_m2, lq_5_m1, lq_5_0, lq_5_1, lq_5_2, lq_5_3, lq_5_4, ti_m9, ti_m6, ti_m4, ti_m3, ti_m2, ti_m1, ti_0, ti_1, ti_2, ti_3, ti_4, ti_5, hf.1, x_has hf hm hm6]
  by_cases h1 : 0 ≤ x.toInt ∧ x.toInt < m
  · by_cases h2 : 0 ≤ y.toInt ∧ y.toInt < m
    · by_cases h3 : x = y
      · simp [h1, h2, h3, b2i]
      · simp [h1, h2, h3, b2i]
    · simp [h1, h2, b2i]
  · simp [h1, b2i]
theorem div2_toInt (x : Int32) : (x / 2).toInt = x.toInt.tdiv 2 := by
  rw [Int32.toInt_div]
  have e : (2 : Int32).toInt = 2 := rfl
  rw [e]
  have h1 := Int32.le_toInt x
  have h2 := Int32.toInt_lt x
  have h3 : x.toInt.tdiv 2 * 2 + x.toInt.tmod 2 = x.toInt := Int.tdiv_mul_add_tmod _ _
  have h4 := tmod_bounds (a := x.toInt) (M := 2) (by omega)
  exact Int.bmod_eq_of_le_mul_two (by omega) (by omega)
theorem maxI_toInt (a b : Int32) : (maxI a b).toInt = if a.toInt < b.toInt then b.toInt else a.toInt := by
  unfold maxI
  by_cases h : a < b
  · rw [if_pos h, if_pos (Int32.lt_iff_toInt_lt.mp h)]
  · rw [if_neg h, if_neg (fun q => h (Int32.lt_iff_toInt_lt.mpr q))]
theorem minI_toInt (a b : Int32) : (minI a b).toInt = if b.toInt < a.toInt then b.toInt else a.toInt := by
  unfold minI
  by_cases h : b < a
  · rw [if_pos h, if_pos (Int32.lt_iff_toInt_lt.mp h)]
  · rw [if_neg h, if_neg (fun q => h (Int32.lt_iff_toInt_lt.mpr q))]
theorem half_max (x : Int32) : maxI 0 (x / 2) = maxI 0 x / 2 := by
  rw [eq_i, maxI_toInt, div2_toInt, div2_toInt, maxI_toInt]
  have e0 : (0 : Int32).toInt = 0 := rfl
  rw [e0]
  have h3 : x.toInt.tdiv 2 * 2 + x.toInt.tmod 2 = x.toInt := Int.tdiv_mul_add_tmod _ _
  have h4 := tmod_bounds (a := x.toInt) (M := 2) (by omega)
  by_cases h : 0 < x.toInt
  · rw [if_pos h]
    by_cases h5 : 0 < x.toInt.tdiv 2
    · rw [if_pos h5]
    · rw [if_neg h5]
      have h6 : 0 ≤ x.toInt.tmod 2 := Int.tmod_nonneg _ (by omega)
      omega
  · rw [if_neg h, if_neg (by
      have h6 : 0 ≤ (-x.toInt).tmod 2 := Int.tmod_nonneg _ (by omega)
      rw [Int.neg_tmod] at h6
      omega)]
    rfl
theorem ixc {i n : Nat} (h : i < n) (hn : n < 2 ^ 30) : 0 ≤ (nI i).toInt ∧ (nI i).toInt < (n : Int) := by rw [nI_toInt (by omega)]; omega
theorem x_means {D : DT} {a f m : Nat} {q : QT} {H : HT} (ha : isHo a) (hf : isFo f) (hF : XF D f m q) (hH : XH D a m q H) (hm6 : m ≤ 6) {i j : Nat} (hi : i < m) (hj : j < m) : P_X1_pairMeans a f (nI i) (nI j) (hp B D) = some (bth q H i j, hp B D) := by
  have c1 := ixc hi (by omega)
  have c2 := ixc hj (by omega)
  have c3 : 0 ≤ (nI i).toInt ∧ (nI i).toInt < ((6 : Nat) : Int) := ixc (by omega) (by omega)
  have c4 : 0 ≤ (nI j).toInt ∧ (nI j).toInt < ((6 : Nat) : Int) := ixc (by omega) (by omega)
  obtain ⟨a1, a2, a3, a4, a5, a6, a7⟩ := ha
  obtain ⟨f1, f2, f3, f4, f5, f6, f7, f8, f9, f10, f11, f12⟩ := id hf
  simp only [P_X1_pairMeans, pureM_hp, ifB_t, ifB_f, decide_true, decide_false, ifB_hp, jn_hp, retZ_0, retZ_1, thn_some, cll0_w, cllV_w, getI_w, getL_w, getR_w, setI_w, setZ_w0, setZ_w1, setL_w, ald_w, ast_w, alen_w, aldR_2, aldR_3, aldR_4, aldR_22, cll0_pure, ↓reduceIte, if_true, if_false, Bool.false_eq_true, reduceCtorEq, and_true, true_and, and_false, false_and, ite_self, f1, f5, f12, a3, a7, x_has hf hF.1 hm6, c1, c2, c3, c4, nI_clamp (show i < 2 ^ 31 by omega), nI_clamp (show j < 2 ^ 31 by omega), b2i_0, hH.2.2.2 i hi, hH.2.2.2 j hj, (hF.2 i (by omega)).2.2.2, not_true_eq_false, not_false_eq_true, bth, bit]
  by_cases hb : (q.2.2.2 i >>> (nI j &&& 31)) &&& 1 = 1
  · simp [hb]
  · simp [hb]
theorem x_tells_pair {D : DT} {a f m : Nat} {q : QT} {H : HT} (ha : isHo a) (hf : isFo f) (hF : XF D f m q) (hH : XH D a m q H) (hm6 : m ≤ 6) {i j : Nat} (hi : i < m) (hj : j < m) (hij : i ≠ j) : P_X1_pairTells a f (nI i) (nI j) (hp B D) = some (tk q H i j, hp B D) := by
  have c1 := ixc hi (by omega)
  have c2 := ixc hj (by omega)
  have c3 : 0 ≤ (nI i).toInt ∧ (nI i).toInt < ((6 : Nat) : Int) := ixc (by omega) (by omega)
  have c4 : 0 ≤ (nI j).toInt ∧ (nI j).toInt < ((6 : Nat) : Int) := ixc (by omega) (by omega)
  have hM := x_means (B := B) ha hf hF hH hm6 hi hj
  have hne : ¬ nI i = nI j := fun h => hij ((nI_eq (by omega) (by omega)).mp h)
  obtain ⟨a1, a2, a3, a4, a5, a6, a7⟩ := ha
  obtain ⟨f1, f2, f3, f4, f5, f6, f7, f8, f9, f10, f11, f12⟩ := id hf
  simp only [P_X1_pairTells, pureM_hp, ifB_t, ifB_f, decide_true, decide_false, ifB_hp, jn_hp, retZ_0, retZ_1, thn_some, cll0_w, cllV_w, getI_w, getL_w, getR_w, setI_w, setZ_w0, setZ_w1, setL_w, ald_w, ast_w, alen_w, aldR_2, aldR_3, aldR_4, aldR_22, cll0_pure, ↓reduceIte, if_true, if_false, Bool.false_eq_true, reduceCtorEq, and_true, true_and, and_false, false_and, ite_self, f1, f2, f9, a1, x_isPair hf hF.1 hm6, c1, c2, c3, c4, hne, hM, nI_clamp (show i < 2 ^ 31 by omega), nI_clamp (show j < 2 ^ 31 by omega), b2i_0, (hF.2 i (by omega)).1, (hF.2 j (by omega)).1, not_true_eq_false, not_false_eq_true, j_max, divI_hp _ _ _ ne2, lq_1_0, half_max, tk]
  by_cases h1 : q.1 i = 4
  · simp [h1]
  · by_cases h2 : q.1 j = 4
    · simp [h1, h2]
    · simp [h1, h2]
theorem x_strengthWith {D : DT} {a : Nat} (ha : isHo a) (v : Int32) : P_X1_strengthWith a v (hp B D) = some (minI 60 (fI D a 2 / 2 + v), hp B D) := by
  simp only [P_X1_strengthWith, pureM_hp, ifB_t, ifB_f, decide_true, decide_false, ifB_hp, jn_hp, retZ_0, retZ_1, thn_some, cll0_w, cllV_w, getI_w, getL_w, getR_w, setI_w, setZ_w0, setZ_w1, setL_w, ald_w, ast_w, alen_w, aldR_2, aldR_3, aldR_4, aldR_22, cll0_pure, ↓reduceIte, if_true, if_false, Bool.false_eq_true, reduceCtorEq, and_true, true_and, and_false, false_and, ite_self, ha.2.2.2.1, divI_hp _ _ _ ne2, j_min]
theorem x_behind {D : DT} {a f m : Nat} {q : QT} {H : HT} (ha : isHo a) (hf : isFo f) (hF : XF D f m q) (hH : XH D a m q H) (hm6 : m ≤ 6) {i j : Nat} (hi : i < m) (hj : j < m) (hij : i ≠ j) : P_X1_behind a f (nI i) (nI j) (hp B D) = some (wst q H i j, hp B D) := by
  simp only [P_X1_behind, pureM_hp, ifB_t, ifB_f, decide_true, decide_false, ifB_hp, jn_hp, retZ_0, retZ_1, thn_some, cll0_w, cllV_w, getI_w, getL_w, getR_w, setI_w, setZ_w0, setZ_w1, setL_w, ald_w, ast_w, alen_w, aldR_2, aldR_3, aldR_4, aldR_22, cll0_pure, ↓reduceIte, if_true, if_false, Bool.false_eq_true, reduceCtorEq, and_true, true_and, and_false, false_and, ite_self, ha.1, x_tells_pair ha hf hF hH hm6 hi hj hij, x_strengthWith ha, hH.1, wst]
theorem listen_loop {D0 : DT} {a f : Nat} (ha : isHo a) (hf : isFo f) (hfa : f + 4 < a) (hr : Int32) : ∀ (F k : Nat) (D : DT), k ≤ 6 → 6 - k < F → (∀ b, b ≠ a + 2 → fG D b = fG D0 b) → P_X1_listen_7 a f hr F (nI k) (hp B D) = some ((), hp B (uG D (a + 2) (fun t => if k ≤ t ∧ t < 6 then xtls (fG D0 (f + 1) t) (fG D0 (f + 2) t) (fG D0 (f + 3) t) (fG D0 (a + 1) t) hr else fG D (a + 2) t))) := by
  intro F
  obtain ⟨a1, a2, a3, a4, a5, a6, a7⟩ := ha
  obtain ⟨f1, f2, f3, f4, f5, f6, f7, f8, f9, f10, f11, f12⟩ := id hf
  induction F with
  | zero => intro k D h1 h2; omega
  | succ F ih =>
    intro k D h1 h2 h3
    have e6 : (6 : Int32) = nI 6 := rfl
    simp only [P_X1_listen_7, pureM_hp, ifB_t, ifB_f, decide_true, decide_false, ifB_hp, jn_hp, retZ_0, retZ_1, thn_some, cll0_w, cllV_w, getI_w, getL_w, getR_w, setI_w, setZ_w0, setZ_w1, setL_w, ald_w, ast_w, alen_w, aldR_2, aldR_3, aldR_4, aldR_22, cll0_pure, ↓reduceIte, if_true, if_false, Bool.false_eq_true, reduceCtorEq, and_true, true_and, and_false, false_and, ite_self, a2, a3, a6, a7, f2, f3, f4, f9, f10, f11, e6, x_tells]
    by_cases e : k = 6
    · subst e
      rw [if_pos (nI_le (Nat.le_refl _) (by omega))]
      have : (fun t => if 6 ≤ t ∧ t < 6 then xtls (fG D0 (f + 1) t) (fG D0 (f + 2) t) (fG D0 (f + 3) t) (fG D0 (a + 1) t) hr else fG D (a + 2) t) = fG D (a + 2) := by
        funext t
        rw [if_neg (by omega)]
      rw [this, uG_self]
    · have hk : k < 6 := by omega
      have c : 0 ≤ (nI k).toInt ∧ (nI k).toInt < ((6 : Nat) : Int) := ixc hk (by omega)
      rw [if_neg (nI_ge hk (by omega))]
      simp only [c, and_self, if_true, nI_clamp (show k < 2 ^ 31 by omega), nI_1]
      rw [ih (k + 1) _ (by omega) (by omega) (fun b hb => by rw [fG_uG, if_neg hb]; exact h3 b hb), uG_uG, h3 (f + 1) (by omega), h3 (f + 2) (by omega), h3 (f + 3) (by omega), h3 (a + 1) (by omega)]
      congr 4
      funext t
      simp only [fG_uG, if_true, upd]
      by_cases e1 : t = k
      · subst e1
        rw [if_neg (by omega), if_pos rfl, if_pos (by omega)]
      · by_cases e2 : k ≤ t ∧ t < 6
        · rw [if_pos (by omega), if_pos e2]
        · rw [if_neg (by omega), if_neg e1, if_neg e2]
theorem x_listen {D : DT} {a f n : Nat} (ha : isHo a) (hf : isFo f) (hfa : f + 4 < a) (h : fI D a 3 = nI n) (hn : n < 128) : P_X1_listen a f (hp B D) = some ((), hp B (uG D (a + 2) (fun t => if t < 6 then xtls (fG D (f + 1) t) (fG D (f + 2) t) (fG D (f + 3) t) (fG D (a + 1) t) (fI D a 3 % 12) else fG D (a + 2) t))) := by
  have hl := listen_loop (B := B) (D0 := D) ha hf hfa (fI D a 3 % 12) 4000 0 D (by omega) (by omega) (fun _ _ => rfl)
  rw [nI_0] at hl
  simp only [P_X1_listen, pureM_hp, ifB_t, ifB_f, decide_true, decide_false, ifB_hp, jn_hp, retZ_0, retZ_1, thn_some, cll0_w, cllV_w, getI_w, getL_w, getR_w, setI_w, setZ_w0, setZ_w1, setL_w, ald_w, ast_w, alen_w, aldR_2, aldR_3, aldR_4, aldR_22, cll0_pure, ↓reduceIte, if_true, if_false, Bool.false_eq_true, reduceCtorEq, and_true, true_and, and_false, false_and, ite_self, ha.1, x_hour ha h hn, hl]
  simp
theorem pass_loop {a f i j : Nat} (ha : isHo a) (hi : i < 6) (hj : j < 6) (k : PM Unit) : ∀ (F n : Nat) (D : DT), n ≤ 6 → 6 - n < F → P_X1_passWatch_28 k a f (nI i) (nI j) F (nI n) (hp B D) = k (hp B (uG D (a + 1) (fun t => if n ≤ t ∧ t < 6 then (if t = i ∨ t = j then minI 30 (fG D (a + 1) t + 1) else maxI 0 (fG D (a + 1) t - 2)) else fG D (a + 1) t))) := by
  intro F
  obtain ⟨a1, a2, a3, a4, a5, a6, a7⟩ := ha
  induction F with
  | zero => intro n D h1 h2; omega
  | succ F ih =>
    intro n D h1 h2
    have e6 : (6 : Int32) = nI 6 := rfl
    simp only [P_X1_passWatch_28, pureM_hp, ifB_t, ifB_f, decide_true, decide_false, ifB_hp, jn_hp, retZ_0, retZ_1, thn_some, cll0_w, cllV_w, getI_w, getL_w, getR_w, setI_w, setZ_w0, setZ_w1, setL_w, ald_w, ast_w, alen_w, aldR_2, aldR_3, aldR_4, aldR_22, cll0_pure, ↓reduceIte, if_true, if_false, Bool.false_eq_true, reduceCtorEq, and_true, true_and, and_false, false_and, ite_self, a2, a6, e6, j_min, j_max]
    by_cases e : n = 6
    · subst e
      rw [if_pos (nI_le (Nat.le_refl _) (by omega))]
      have : (fun t => if 6 ≤ t ∧ t < 6 then (if t = i ∨ t = j then minI 30 (fG D (a + 1) t + 1) else maxI 0 (fG D (a + 1) t - 2)) else fG D (a + 1) t) = fG D (a + 1) := by
        funext t
        rw [if_neg (by omega)]
      rw [this, uG_self]
    · have hk : n < 6 := by omega
      have c : 0 ≤ (nI n).toInt ∧ (nI n).toInt < ((6 : Nat) : Int) := ixc hk (by omega)
      rw [if_neg (nI_ge hk (by omega))]
      simp only [c, and_self, if_true, nI_clamp (show n < 2 ^ 31 by omega), nI_1, nI_eq (show n < 2 ^ 31 by omega) (show i < 2 ^ 31 by omega), nI_eq (show n < 2 ^ 31 by omega) (show j < 2 ^ 31 by omega)]
      have fin : ∀ v, v = (if n = i ∨ n = j then minI 30 (fG D (a + 1) n + 1) else maxI 0 (fG D (a + 1) n - 2)) → P_X1_passWatch_28 k a f (nI i) (nI j) F (nI (n + 1)) (hp B (uG D (a + 1) (upd (fG D (a + 1)) n v))) = k (hp B (uG D (a + 1) (fun t => if n ≤ t ∧ t < 6 then (if t = i ∨ t = j then minI 30 (fG D (a + 1) t + 1) else maxI 0 (fG D (a + 1) t - 2)) else fG D (a + 1) t))) := by
        intro v hv
        rw [ih (n + 1) _ (by omega) (by omega), uG_uG]
        congr 3
        funext t
        simp only [fG_uG, if_true, upd]
        by_cases e1 : t = n
        · subst e1
          rw [if_neg (by omega), if_pos rfl, if_pos (by omega), hv]
        · by_cases e2 : n ≤ t ∧ t < 6
          · rw [if_pos (by omega), if_pos e2, if_neg e1]
          · rw [if_neg (by omega), if_neg e1, if_neg e2]
      by_cases e1 : n = i
      · rw [if_pos e1]
        exact fin _ (by rw [if_pos (Or.inl e1)])
      · by_cases e2 : n = j
        · rw [if_neg e1, if_neg (fun h => h e2)]
          exact fin _ (by rw [if_pos (Or.inr e2)])
        · rw [if_neg e1, if_pos e2]
          exact fin _ (by rw [if_neg (by omega)])

/-- what one tells, of a hold at another: from ups and the hour -/
theorem tld_x {q : QT} {H : HT} {m k : Nat} (hv : QV m q) (hk : k < m) : xtls (q.1 k) (q.2.1 k) (q.2.2.1 k) (H.2.2 k) (H.2.1 % 12) = tld q H k := by
  obtain ⟨-, ⟨a, ha, e⟩, -⟩ := hv k hk
  exact xtls_eq (by rw [e, nI_toInt (by omega)]; omega)
/-- the cells of a hold -/
def Tho (a : Nat) : Nat → Nat → Prop := fun b k => (b = a ∧ (k = 2 ∨ k = 3)) ∨ (b = a + 1 ∧ k = 63) ∨ (b = a + 2 ∧ k = 63)
theorem x_passWatch {D : DT} {a f m : Nat} {q : QT} {H : HT} (ha : isHo a) (hf : isFo f) (hfa : f + 4 < a) (hF : XF D f m q) (hH : XH D a m q H) (hm6 : m ≤ 6) (hv : QV m q) (hV : HV m H) {i j : Nat} (hi : i < m) (hj : j < m) (hij : i ≠ j) :
    ∃ D', P_X1_passWatch a f (nI i) (nI j) (hp B D) = some ((), hp B D') ∧ XH D' a m q (wat q H i j) ∧ Off (Tho a) D D' := by
  obtain ⟨-, ⟨h, hh, e⟩, -, -⟩ := hV
  have pl := fun k D => pass_loop (B := B) (f := f) ha (show i < 6 by omega) (show j < 6 by omega) k 4000 0 D (by omega) (by omega)
  rw [nI_0] at pl
  have ht := x_tells_pair (B := B) ha hf hF hH hm6 hi hj hij
  have hs := x_strengthWith (B := B) (D := D) ha (tk q H i j)
  generalize hD1 : uI (uI D a 2 (minI 60 (fI D a 2 / 2 + tk q H i j))) a 3 (fI D a 3 + 1) = D1
  have e3 : fI D1 a 3 = nI (h + 1) := by
    rw [← hD1, fI_uI, if_pos ⟨rfl, rfl⟩, hH.2.1, e, nI_1]
  have e2 : fI D1 a 2 = wst q H i j := by
    rw [← hD1, fI_uI, if_neg (by omega), fI_uI, if_pos ⟨rfl, rfl⟩, hH.1]
    rfl
  have g1 : ∀ b, fG D1 b = fG D b := fun b => by rw [← hD1]; rfl
  generalize hD2 : uG D1 (a + 1) (fun t => if 0 ≤ t ∧ t < 6 then (if t = i ∨ t = j then minI 30 (fG D1 (a + 1) t + 1) else maxI 0 (fG D1 (a + 1) t - 2)) else fG D1 (a + 1) t) = D2
  have i2 : ∀ b k, fI D2 b k = fI D1 b k := fun b k => by rw [← hD2]; rfl
  have e3' : fI D2 a 3 = nI (h + 1) := by rw [i2]; exact e3
  have g2 : ∀ b, b ≠ a + 1 → fG D2 b = fG D b := fun b hb => by rw [← hD2, fG_uG, if_neg hb, g1]
  have g3 : ∀ t, t < 6 → fG D2 (a + 1) t = (wat q H i j).2.2 t := by
    intro t h6
    rw [← hD2, fG_uG, if_pos rfl]
    show (if 0 ≤ t ∧ t < 6 then _ else _) = _
    rw [if_pos (by omega), g1, hH.2.2.1 t h6]
    rfl
  have li := x_listen (B := B) ha hf hfa e3' (by omega)
  refine ⟨uG D2 (a + 2) (fun t => if t < 6 then xtls (fG D2 (f + 1) t) (fG D2 (f + 2) t) (fG D2 (f + 3) t) (fG D2 (a + 1) t) (fI D2 a 3 % 12) else fG D2 (a + 2) t), ?_, ?_, ?_⟩
  · simp only [P_X1_passWatch, pureM_hp, ifB_t, ifB_f, decide_true, decide_false, ifB_hp, jn_hp, retZ_0, retZ_1, thn_some, cll0_w, cllV_w, getI_w, getL_w, getR_w, setI_w, setZ_w0, setZ_w1, setL_w, ald_w, ast_w, alen_w, aldR_2, aldR_3, aldR_4, aldR_22, cll0_pure, ↓reduceIte, if_true, if_false, Bool.false_eq_true, reduceCtorEq, and_true, true_and, and_false, false_and, ite_self, ha.1, ha.2.2.2.1, ha.2.2.2.2.1, ht, hs]
    rw [fI_uI, if_neg (by omega), hD1, pl, hD2]
    simp only [pureM_hp, ifB_t, ifB_f, decide_true, decide_false, ifB_hp, jn_hp, retZ_0, retZ_1, thn_some, cll0_w, cllV_w, getI_w, getL_w, getR_w, setI_w, setZ_w0, setZ_w1, setL_w, ald_w, ast_w, alen_w, aldR_2, aldR_3, aldR_4, aldR_22, cll0_pure, ↓reduceIte, if_true, if_false, Bool.false_eq_true, reduceCtorEq, and_true, true_and, and_false, false_and, ite_self, ha.1, li]
  · refine ⟨?_, ?_, fun t h6 => ?_, fun t hm => ?_⟩
    · rw [fI_uG, i2, e2]; rfl
    · rw [fI_uG, e3', ← nI_1, ← e]; rfl
    · rw [fG_uG, if_neg (by omega)]; exact g3 t h6
    · rw [fG_uG, if_pos rfl]
      show (if t < 6 then _ else _) = _
      rw [if_pos (by omega), g2 _ (by omega), g2 _ (by omega), g2 _ (by omega), g3 t (by omega), (hF.2 t (by omega)).1, (hF.2 t (by omega)).2.1, (hF.2 t (by omega)).2.2.1, e3', ← nI_1, ← e]
      exact tld_x (H := wat q H i j) hv hm
  · have o : Off (Tho a) D D1 := by
      rw [← hD1]
      exact ((Off.refl D).uI a 2 _ (Or.inl ⟨rfl, Or.inl rfl⟩)).uI a 3 _ (Or.inl ⟨rfl, Or.inr rfl⟩)
    have o2 : Off (Tho a) D D2 := by
      rw [← hD2]
      exact o.uG _ _ (Or.inr (Or.inl ⟨rfl, rfl⟩))
    exact o2.uG _ _ (Or.inr (Or.inr ⟨rfl, rfl⟩))
end WATCHX
