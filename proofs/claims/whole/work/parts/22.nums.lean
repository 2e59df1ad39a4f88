/-! Numbers. -/
theorem b2i_0 (b : Bool) : (b2i b = 0) ↔ b = false := by cases b <;> simp [b2i]
theorem b2i_t : b2i true = 1 := rfl
theorem b2i_f : b2i false = 0 := rfl
theorem retZ_b (b : Bool) (h : AH) : retZ (b2i b) h = some (b2i b, h) := by cases b <;> rfl
theorem lgc_lt (x y : Int64) : (lg_cmp x y < 0) ↔ x < y := by
  unfold lg_cmp
  by_cases h1 : y < x
  · have : ¬ x < y := fun h => by
      have := Int64.lt_iff_toInt_lt.mp h
      have := Int64.lt_iff_toInt_lt.mp h1
      omega
    simp [h1, this]
  · by_cases h2 : x = y
    · subst h2; simp [h1]
    · have : x < y := Int64.lt_iff_toInt_lt.mpr (by
        have h3 : ¬ y.toInt < x.toInt := fun h => h1 (Int64.lt_iff_toInt_lt.mpr h)
        have h4 : x.toInt ≠ y.toInt := fun h => h2 (Int64.toInt_inj.mp h)
        omega)
      simp [h1, h2, this]
theorem lgc_gt (x y : Int64) : (0 < lg_cmp x y) ↔ y < x := by
  unfold lg_cmp
  by_cases h1 : y < x
  · simp [h1]
  · by_cases h2 : x = y
    · subst h2; simp [h1]
    · simp [h1, h2]
theorem lgc_le (x y : Int64) : (lg_cmp x y ≤ 0) ↔ x ≤ y := by
  rw [← Int32.not_lt, lgc_gt, Int64.not_lt]
theorem lgc_ge (x y : Int64) : (0 ≤ lg_cmp x y) ↔ y ≤ x := by
  rw [← Int32.not_lt, lgc_lt, Int64.not_lt]
theorem lgc_eq (x y : Int64) : (lg_cmp x y = 0) ↔ x = y := by
  unfold lg_cmp
  by_cases h1 : y < x
  · have : ¬ x = y := fun h => by
      subst h
      have := Int64.lt_iff_toInt_lt.mp h1
      omega
    simp [h1, this]
  · by_cases h2 : x = y
    · subst h2; simp [h1]
    · simp [h1, h2]
theorem X8_in_w (x lo hi : Int64) (h : AH) : P_X8_in x lo hi h = some (b2i (decide (lo.toInt ≤ x.toInt ∧ x.toInt ≤ hi.toInt)), h) := by
  simp only [P_X8_in, jn_hp, ifB_hp, retZ_0, retZ_1, lgc_lt, lgc_gt, Int64.lt_iff_toInt_lt]
  by_cases h1 : x.toInt < lo.toInt
  · simp [h1, b2i, Int.not_le.mpr h1]
  · by_cases h2 : hi.toInt < x.toInt
    · simp [h1, h2, b2i, Int.not_le.mpr h2]
    · simp [h1, h2, b2i, Int.not_lt.mp h1, Int.not_lt.mp h2]
theorem X8_in_p (x lo hi : Int64) : P_X8_in x lo hi = pureM (b2i (decide (lo.toInt ≤ x.toInt ∧ x.toInt ≤ hi.toInt))) := funext fun h => X8_in_w x lo hi h
theorem r_isRow (x : Int32) : P_X7_isRow x = pureM (b2i (decide (0 ≤ x.toInt ∧ x.toInt < 6))) := by
  funext h
  simp only [P_X7_isRow, jn_hp, ifB_hp, retZ_0, retZ_1, pureM_hp, Int32.lt_iff_toInt_lt, Int32.le_iff_toInt_le]
  have e6 : (6 : Int32).toInt = 6 := rfl
  have e0 : (0 : Int32).toInt = 0 := rfl
  rw [e6, e0]
  by_cases h1 : x.toInt < 0
  · simp [h1, b2i, Int.not_le.mpr h1]
  · by_cases h2 : 6 ≤ x.toInt
    · simp [h1, h2, b2i, Int.not_lt.mpr h2]
    · simp [h1, h2, b2i, Int.not_lt.mp h1, Int.not_le.mp h2]
theorem m_isRow (x : Int32) : P_X8_isRow x = pureM (b2i (decide (0 ≤ x.toInt ∧ x.toInt < 6))) := by
  funext h
  have e5 : (5 : Int64).toInt = 5 := rfl
  have e0 : (0 : Int64).toInt = 0 := rfl
  have e : (x.toInt ≤ 5) ↔ x.toInt < 6 := by omega
  simp only [P_X8_isRow, X8_in_p, cll0_pure, retZ_b, pureM_hp, Int32.toInt_toInt64, e5, e0, e]
theorem of_ix {x : Int32} {n : Nat} (h : 0 ≤ x.toInt ∧ x.toInt < n) : ∃ j : Nat, x = nI j ∧ j < n := by
  refine ⟨x.toInt.toNat, ?_, by omega⟩
  have h2 := Int32.toInt_lt x
  apply Int32.toInt_inj.mp
  rw [nI_toInt (by omega)]
  omega
theorem ifB_t {τ : Type} (A A2 : PM τ) : ifB true A A2 = A := rfl
theorem ifB_f {τ : Type} (A A2 : PM τ) : ifB false A A2 = A2 := rfl
theorem le_i (x y : Int32) : (x ≤ y) = (x.toInt ≤ y.toInt) := propext Int32.le_iff_toInt_le
theorem lt_i (x y : Int32) : (x < y) = (x.toInt < y.toInt) := propext Int32.lt_iff_toInt_lt
theorem lq_m9_m6 : (((-9) : Int32) = (-6)) = False := eq_false (by decide)
theorem lq_m9_m4 : (((-9) : Int32) = (-4)) = False := eq_false (by decide)
theorem lq_m9_m3 : (((-9) : Int32) = (-3)) = False := eq_false (by decide)
theorem lq_m9_m2 : (((-9) : Int32) = (-2)) = False := eq_false (by decide)
theorem lq_m9_m1 : (((-9) : Int32) = (-1)) = False := eq_false (by decide)
theorem lq_m9_0 : (((-9) : Int32) = 0) = False := eq_false (by decide)
theorem lq_m9_1 : (((-9) : Int32) = 1) = False := eq_false (by decide)
theorem lq_m9_2 : (((-9) : Int32) = 2) = False := eq_false (by decide)
theorem lq_m9_3 : (((-9) : Int32) = 3) = False := eq_false (by decide)
theorem lq_m9_4 : (((-9) : Int32) = 4) = False := eq_false (by decide)
theorem lq_m9_5 : (((-9) : Int32) = 5) = False := eq_false (by decide)
theorem lq_m6_m9 : (((-6) : Int32) = (-9)) = False := eq_false (by decide)
theorem lq_m6_m4 : (((-6) : Int32) = (-4)) = False := eq_false (by decide)
theorem lq_m6_m3 : (((-6) : Int32) = (-3)) = False := eq_false (by decide)
theorem lq_m6_m2 : (((-6) : Int32) = (-2)) = False := eq_false (by decide)
theorem lq_m6_m1 : (((-6) : Int32) = (-1)) = False := eq_false (by decide)
theorem lq_m6_0 : (((-6) : Int32) = 0) = False := eq_false (by decide)
theorem lq_m6_1 : (((-6) : Int32) = 1) = False := eq_false (by decide)
theorem lq_m6_2 : (((-6) : Int32) = 2) = False := eq_false (by decide)
theorem lq_m6_3 : (((-6) : Int32) = 3) = False := eq_false (by decide)
theorem lq_m6_4 : (((-6) : Int32) = 4) = False := eq_false (by decide)
theorem lq_m6_5 : (((-6) : Int32) = 5) = False := eq_false (by decide)
theorem lq_m4_m9 : (((-4) : Int32) = (-9)) = False := eq_false (by decide)
theorem lq_m4_m6 : (((-4) : Int32) = (-6)) = False := eq_false (by decide)
theorem lq_m4_m3 : (((-4) : Int32) = (-3)) = False := eq_false (by decide)
theorem lq_m4_m2 : (((-4) : Int32) = (-2)) = False := eq_false (by decide)
theorem lq_m4_m1 : (((-4) : Int32) = (-1)) = False := eq_false (by decide)
theorem lq_m4_0 : (((-4) : Int32) = 0) = False := eq_false (by decide)
theorem lq_m4_1 : (((-4) : Int32) = 1) = False := eq_false (by decide)
theorem lq_m4_2 : (((-4) : Int32) = 2) = False := eq_false (by decide)
theorem lq_m4_3 : (((-4) : Int32) = 3) = False := eq_false (by decide)
theorem lq_m4_4 : (((-4) : Int32) = 4) = False := eq_false (by decide)
theorem lq_m4_5 : (((-4) : Int32) = 5) = False := eq_false (by decide)
theorem lq_m3_m9 : (((-3) : Int32) = (-9)) = False := eq_false (by decide)
theorem lq_m3_m6 : (((-3) : Int32) = (-6)) = False := eq_false (by decide)
theorem lq_m3_m4 : (((-3) : Int32) = (-4)) = False := eq_false (by decide)
theorem lq_m3_m2 : (((-3) : Int32) = (-2)) = False := eq_false (by decide)
theorem lq_m3_m1 : (((-3) : Int32) = (-1)) = False := eq_false (by decide)
theorem lq_m3_0 : (((-3) : Int32) = 0) = False := eq_false (by decide)
theorem lq_m3_1 : (((-3) : Int32) = 1) = False := eq_false (by decide)
theorem lq_m3_2 : (((-3) : Int32) = 2) = False := eq_false (by decide)
theorem lq_m3_3 : (((-3) : Int32) = 3) = False := eq_false (by decide)
theorem lq_m3_4 : (((-3) : Int32) = 4) = False := eq_false (by decide)
theorem lq_m3_5 : (((-3) : Int32) = 5) = False := eq_false (by decide)
theorem lq_m2_m9 : (((-2) : Int32) = (-9)) = False := eq_false (by decide)
theorem lq_m2_m6 : (((-2) : Int32) = (-6)) = False := eq_false (by decide)
theorem lq_m2_m4 : (((-2) : Int32) = (-4)) = False := eq_false (by decide)
theorem lq_m2_m3 : (((-2) : Int32) = (-3)) = False := eq_false (by decide)
theorem lq_m2_m1 : (((-2) : Int32) = (-1)) = False := eq_false (by decide)
theorem lq_m2_0 : (((-2) : Int32) = 0) = False := eq_false (by decide)
theorem lq_m2_1 : (((-2) : Int32) = 1) = False := eq_false (by decide)
theorem lq_m2_2 : (((-2) : Int32) = 2) = False := eq_false (by decide)
theorem lq_m2_3 : (((-2) : Int32) = 3) = False := eq_false (by decide)
theorem lq_m2_4 : (((-2) : Int32) = 4) = False := eq_false (by decide)
theorem lq_m2_5 : (((-2) : Int32) = 5) = False := eq_false (by decide)
theorem lq_m1_m9 : (((-1) : Int32) = (-9)) = False := eq_false (by decide)
theorem lq_m1_m6 : (((-1) : Int32) = (-6)) = False := eq_false (by decide)
theorem lq_m1_m4 : (((-1) : Int32) = (-4)) = False := eq_false (by decide)
theorem lq_m1_m3 : (((-1) : Int32) = (-3)) = False := eq_false (by decide)
theorem lq_m1_m2 : (((-1) : Int32) = (-2)) = False := eq_false (by decide)
theorem lq_m1_0 : (((-1) : Int32) = 0) = False := eq_false (by decide)
theorem lq_m1_1 : (((-1) : Int32) = 1) = False := eq_false (by decide)
theorem lq_m1_2 : (((-1) : Int32) = 2) = False := eq_false (by decide)
theorem lq_m1_3 : (((-1) : Int32) = 3) = False := eq_false (by decide)
theorem lq_m1_4 : (((-1) : Int32) = 4) = False := eq_false (by decide)
theorem lq_m1_5 : (((-1) : Int32) = 5) = False := eq_false (by decide)
theorem lq_0_m9 : ((0 : Int32) = (-9)) = False := eq_false (by decide)
theorem lq_0_m6 : ((0 : Int32) = (-6)) = False := eq_false (by decide)
theorem lq_0_m4 : ((0 : Int32) = (-4)) = False := eq_false (by decide)
theorem lq_0_m3 : ((0 : Int32) = (-3)) = False := eq_false (by decide)
theorem lq_0_m2 : ((0 : Int32) = (-2)) = False := eq_false (by decide)
theorem lq_0_m1 : ((0 : Int32) = (-1)) = False := eq_false (by decide)
theorem lq_0_1 : ((0 : Int32) = 1) = False := eq_false (by decide)
theorem lq_0_2 : ((0 : Int32) = 2) = False := eq_false (by decide)
theorem lq_0_3 : ((0 : Int32) = 3) = False := eq_false (by decide)
theorem lq_0_4 : ((0 : Int32) = 4) = False := eq_false (by decide)
theorem lq_0_5 : ((0 : Int32) = 5) = False := eq_false (by decide)
theorem lq_1_m9 : ((1 : Int32) = (-9)) = False := eq_false (by decide)
theorem lq_1_m6 : ((1 : Int32) = (-6)) = False := eq_false (by decide)
theorem lq_1_m4 : ((1 : Int32) = (-4)) = False := eq_false (by decide)
theorem lq_1_m3 : ((1 : Int32) = (-3)) = False := eq_false (by decide)
theorem lq_1_m2 : ((1 : Int32) = (-2)) = False := eq_false (by decide)
theorem lq_1_m1 : ((1 : Int32) = (-1)) = False := eq_false (by decide)
theorem lq_1_0 : ((1 : Int32) = 0) = False := eq_false (by decide)
theorem lq_1_2 : ((1 : Int32) = 2) = False := eq_false (by decide)
theorem lq_1_3 : ((1 : Int32) = 3) = False := eq_false (by decide)
theorem lq_1_4 : ((1 : Int32) = 4) = False := eq_false (by decide)
theorem lq_1_5 : ((1 : Int32) = 5) = False := eq_false (by decide)
theorem lq_2_m9 : ((2 : Int32) = (-9)) = False := eq_false (by decide)
theorem lq_2_m6 : ((2 : Int32) = (-6)) = False := eq_false (by decide)
theorem lq_2_m4 : ((2 : Int32) = (-4)) = False := eq_false (by decide)
theorem lq_2_m3 : ((2 : Int32) = (-3)) = False := eq_false (by decide)
theorem lq_2_m2 : ((2 : Int32) = (-2)) = False := eq_false (by decide)
theorem lq_2_m1 : ((2 : Int32) = (-1)) = False := eq_false (by decide)
theorem lq_2_0 : ((2 : Int32) = 0) = False := eq_false (by decide)
theorem lq_2_1 : ((2 : Int32) = 1) = False := eq_false (by decide)
theorem lq_2_3 : ((2 : Int32) = 3) = False := eq_false (by decide)
theorem lq_2_4 : ((2 : Int32) = 4) = False := eq_false (by decide)
theorem lq_2_5 : ((2 : Int32) = 5) = False := eq_false (by decide)
theorem lq_3_m9 : ((3 : Int32) = (-9)) = False := eq_false (by decide)
theorem lq_3_m6 : ((3 : Int32) = (-6)) = False := eq_false (by decide)
theorem lq_3_m4 : ((3 : Int32) = (-4)) = False := eq_false (by decide)
theorem lq_3_m3 : ((3 : Int32) = (-3)) = False := eq_false (by decide)
theorem lq_3_m2 : ((3 : Int32) = (-2)) = False := eq_false (by decide)
theorem lq_3_m1 : ((3 : Int32) = (-1)) = False := eq_false (by decide)
theorem lq_3_0 : ((3 : Int32) = 0) = False := eq_false (by decide)
theorem lq_3_1 : ((3 : Int32) = 1) = False := eq_false (by decide)
theorem lq_3_2 : ((3 : Int32) = 2) = False := eq_false (by decide)
theorem lq_3_4 : ((3 : Int32) = 4) = False := eq_false (by decide)
theorem lq_3_5 : ((3 : Int32) = 5) = False := eq_false (by decide)
theorem lq_4_m9 : ((4 : Int32) = (-9)) = False := eq_false (by decide)
theorem lq_4_m6 : ((4 : Int32) = (-6)) = False := eq_false (by decide)
theorem lq_4_m4 : ((4 : Int32) = (-4)) = False := eq_false (by decide)
theorem lq_4_m3 : ((4 : Int32) = (-3)) = False := eq_false (by decide)
theorem lq_4_m2 : ((4 : Int32) = (-2)) = False := eq_false (by decide)
theorem lq_4_m1 : ((4 : Int32) = (-1)) = False := eq_false (by decide)
theorem lq_4_0 : ((4 : Int32) = 0) = False := eq_false (by decide)
theorem lq_4_1 : ((4 : Int32) = 1) = False := eq_false (by decide)
theorem lq_4_2 : ((4 : Int32) = 2) = False := eq_false (by decide)
theorem lq_4_3 : ((4 : Int32) = 3) = False := eq_false (by decide)
theorem lq_4_5 : ((4 : Int32) = 5) = False := eq_false (by decide)
theorem lq_5_m9 : ((5 : Int32) = (-9)) = False := eq_false (by decide)
theorem lq_5_m6 : ((5 : Int32) = (-6)) = False := eq_false (by decide)
theorem lq_5_m4 : ((5 : Int32) = (-4)) = False := eq_false (by decide)
theorem lq_5_m3 : ((5 : Int32) = (-3)) = False := eq_false (by decide)
theorem lq_5_m2 : ((5 : Int32) = (-2)) = False := eq_false (by decide)
theorem lq_5_m1 : ((5 : Int32) = (-1)) = False := eq_false (by decide)
theorem lq_5_0 : ((5 : Int32) = 0) = False := eq_false (by decide)
theorem lq_5_1 : ((5 : Int32) = 1) = False := eq_false (by decide)
theorem lq_5_2 : ((5 : Int32) = 2) = False := eq_false (by decide)
theorem lq_5_3 : ((5 : Int32) = 3) = False := eq_false (by decide)
theorem lq_5_4 : ((5 : Int32) = 4) = False := eq_false (by decide)
theorem ti_m9 : ((-9) : Int32).toInt = (-9) := rfl
theorem ti_m6 : ((-6) : Int32).toInt = (-6) := rfl
theorem ti_m4 : ((-4) : Int32).toInt = (-4) := rfl
theorem ti_m3 : ((-3) : Int32).toInt = (-3) := rfl
theorem ti_m2 : ((-2) : Int32).toInt = (-2) := rfl
theorem ti_m1 : ((-1) : Int32).toInt = (-1) := rfl
theorem ti_0 : (0 : Int32).toInt = 0 := rfl
theorem ti_1 : (1 : Int32).toInt = 1 := rfl
theorem ti_2 : (2 : Int32).toInt = 2 := rfl
theorem ti_3 : (3 : Int32).toInt = 3 := rfl
theorem ti_4 : (4 : Int32).toInt = 4 := rfl
theorem ti_5 : (5 : Int32).toInt = 5 := rfl
theorem lgi_gt (x y : Int64) : (0 < (lg_cmp x y).toInt) ↔ y.toInt < x.toInt := by rw [← Int64.lt_iff_toInt_lt, ← lgc_gt, Int32.lt_iff_toInt_lt]; rfl
theorem lgi_lt (x y : Int64) : ((lg_cmp x y).toInt < 0) ↔ x.toInt < y.toInt := by rw [← Int64.lt_iff_toInt_lt, ← lgc_lt, Int32.lt_iff_toInt_lt]; rfl
theorem lgi_le (x y : Int64) : ((lg_cmp x y).toInt ≤ 0) ↔ x.toInt ≤ y.toInt := by rw [← Int64.le_iff_toInt_le, ← lgc_le, Int32.le_iff_toInt_le]; rfl
theorem lgi_ge (x y : Int64) : (0 ≤ (lg_cmp x y).toInt) ↔ y.toInt ≤ x.toInt := by rw [← Int64.le_iff_toInt_le, ← lgc_ge, Int32.le_iff_toInt_le]; rfl
