/-! Numbers. -/
theorem b2i_0 (b : Bool) : (b2i b = 0) ↔ b = false := by cases b <;> simp [b2i]
theorem b2i_t : b2i true = 1 := rfl
theorem b2i_f : b2i false = 0 := rfl
theorem retZ_b (b : Bool) (h : AH) : retZ (b2i b) h = some (b2i b, h) := by cases b <;> rfl
theorem lgc_lt (x y : Int64) : (lg_cmp x y < 0) ↔ x < y := by
  unfold lg_cmp
  by_cases h1 : y < x
  · have : ¬ x < y := fun h => by
      have := Int64.lt_iff_toInt_lt.mp h
      have := Int64.lt_iff_toInt_lt.mp h1
      omega
    simp [h1, this]
  · by_cases h2 : x = y
    · subst h2; simp [h1]
    · have : x < y := Int64.lt_iff_toInt_lt.mpr (by
        have h3 : ¬ y.toInt < x.toInt := fun h => h1 (Int64.lt_iff_toInt_lt.mpr h)
        have h4 : x.toInt ≠ y.toInt := fun h => h2 (Int64.toInt_inj.mp h)
        omega)
      simp [h1, h2, this]
theorem lgc_gt (x y : Int64) : (0 < lg_cmp x y) ↔ y < x := by
  unfold lg_cmp
  by_cases h1 : y < x
  · simp [h1]
  · by_cases h2 : x = y
    · subst h2; simp [h1]
    · simp [h1, h2]
theorem lgc_le (x y : Int64) : (lg_cmp x y ≤ 0) ↔ x ≤ y := by
  rw [← Int32.not_lt, lgc_gt, Int64.not_lt]
theorem lgc_ge (x y : Int64) : (0 ≤ lg_cmp x y) ↔ y ≤ x := by
  rw [← Int32.not_lt, lgc_lt, Int64.not_lt]
theorem lgc_eq (x y : Int64) : (lg_cmp x y = 0) ↔ x = y := by
  unfold lg_cmp
  by_cases h1 : y < x
  · have : ¬ x = y := fun h => by
      subst h
      have := Int64.lt_iff_toInt_lt.mp h1
      omega
    simp [h1, this]
  · by_cases h2 : x = y
    · subst h2; simp [h1]
    · simp [h1, h2]
theorem X8_in_w (x lo hi : Int64) (h : AH) : P_X8_in x lo hi h = some (b2i (decide (lo.toInt ≤ x.toInt ∧ x.toInt ≤ hi.toInt)), h) := by
  simp only [P_X8_in, jn_hp, ifB_hp, retZ_0, retZ_1, lgc_lt, lgc_gt, Int64.lt_iff_toInt_lt]
  by_cases h1 : x.toInt < lo.toInt
  · simp [h1, b2i, Int.not_le.mpr h1]
  · by_cases h2 : hi.toInt < x.toInt
    · simp [h1, h2, b2i, Int.not_le.mpr h2]
    · simp [h1, h2, b2i, Int.not_lt.mp h1, Int.not_lt.mp h2]
theorem X8_in_p (x lo hi : Int64) : P_X8_in x lo hi = pureM (b2i (decide (lo.toInt ≤ x.toInt ∧ x.toInt ≤ hi.toInt))) := funext fun h => X8_in_w x lo hi h
theorem r_isRow (x : Int32) : P_X7_isRow x = pureM (b2i (decide (0 ≤ x.toInt ∧ x.toInt < 6))) := by
  funext h
  simp only [P_X7_isRow, jn_hp, ifB_hp, retZ_0, retZ_1, pureM_hp, Int32.lt_iff_toInt_lt, Int32.le_iff_toInt_le]
  have e6 : (6 : Int32).toInt = 6 := rfl
  have e0 : (0 : Int32).toInt = 0 := rfl
  rw [e6, e0]
  by_cases h1 : x.toInt < 0
  · simp [h1, b2i, Int.not_le.mpr h1]
  · by_cases h2 : 6 ≤ x.toInt
    · simp [h1, h2, b2i, Int.not_lt.mpr h2]
    · simp [h1, h2, b2i, Int.not_lt.mp h1, Int.not_le.mp h2]
theorem m_isRow (x : Int32) : P_X8_isRow x = pureM (b2i (decide (0 ≤ x.toInt ∧ x.toInt < 6))) := by
  funext h
  have e5 : (5 : Int64).toInt = 5 := rfl
  have e0 : (0 : Int64).toInt = 0 := rfl
  have e : (x.toInt ≤ 5) ↔ x.toInt < 6 := by omega
  simp only [P_X8_isRow, X8_in_p, cll0_pure, retZ_b, pureM_hp, Int32.toInt_toInt64, e5, e0, e]
theorem of_ix {x : Int32} {n : Nat} (h : 0 ≤ x.toInt ∧ x.toInt < n) : ∃ j : Nat, x = nI j ∧ j < n := by
  refine ⟨x.toInt.toNat, ?_, by omega⟩
  have h2 := Int32.toInt_lt x
  apply Int32.toInt_inj.mp
  rw [nI_toInt (by omega)]
  omega
theorem ifB_t {τ : Type} (A A2 : PM τ) : ifB true A A2 = A := rfl
theorem ifB_f {τ : Type} (A A2 : PM τ) : ifB false A A2 = A2 := rfl
