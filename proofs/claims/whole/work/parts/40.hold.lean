/-! What each one tells, watches: the class's holds, the reference's w. -/
section HOLD
variable {B : BT}
theorem eq_i (x y : Int32) : (x = y) = (x.toInt = y.toInt) := propext ⟨fun h => by rw [h], fun h => Int32.toInt_inj.mp h⟩
theorem m_least (a b : Int32) : P_X8_least a b = pureM (minI a b) := by
  funext h
  simp only [P_X8_least, ifB_hp, pureM_hp, minI]
  by_cases h1 : b < a
  · have : b ≤ a := Int32.le_iff_toInt_le.mpr (by have := Int32.lt_iff_toInt_lt.mp h1; omega)
    simp [h1, this]
  · by_cases h2 : b ≤ a
    · have : a = b := by
        rw [eq_i]
        have := Int32.le_iff_toInt_le.mp h2
        have h3 : ¬ b.toInt < a.toInt := fun q => h1 (Int32.lt_iff_toInt_lt.mpr q)
        omega
      simp [this]
    · simp [h1, h2]
theorem m_most (a b : Int32) : P_X8_most a b = pureM (maxI a b) := by
  funext h
  simp only [P_X8_most, ifB_hp, pureM_hp, maxI]
  by_cases h1 : a < b
  · have : a ≤ b := Int32.le_iff_toInt_le.mpr (by have := Int32.lt_iff_toInt_lt.mp h1; omega)
    simp [h1, this]
  · by_cases h2 : a ≤ b
    · have : a = b := by
        rw [eq_i]
        have := Int32.le_iff_toInt_le.mp h2
        have h3 : ¬ a.toInt < b.toInt := fun q => h1 (Int32.lt_iff_toInt_lt.mpr q)
        omega
      simp [this]
    · simp [h1, h2]
theorem swT_c {τ : Type} (x : Int32) (lo : Int) (A : PM τ) (As : List (PM τ)) (E : PM τ) (h : AH) : swT x lo (A :: As) E h = if x.toInt = lo then A h else if x.toInt < lo then E h else swT x (lo + 1) As E h := by
  unfold swT
  by_cases h1 : x.toInt = lo
  · rw [if_pos h1, if_neg (by omega), h1]
    simp
  · rw [if_neg h1]
    by_cases h2 : x.toInt < lo
    · rw [if_pos h2, if_pos h2]
    · rw [if_neg h2, if_neg h2, if_neg (by omega)]
      rw [show (x.toInt - lo).toNat = (x.toInt - (lo + 1)).toNat + 1 by omega, List.getElem?_cons_succ]
theorem swT_n {τ : Type} (x : Int32) (lo : Int) (E : PM τ) (h : AH) : swT x lo [] E h = E h := by
  unfold swT
  simp
/-- what the class's people tell, whatever stands there -/
def xtls (kd lv ls up hr : Int32) : Int32 :=
  if kd = 5 then (if hr < 4 then maxI 0 lv + 2 else maxI 0 lv) else tls kd lv ls up hr
theorem xtls_eq {kd lv ls up hr : Int32} (h : 0 ≤ lv.toInt) : xtls kd lv ls up hr = tls kd lv ls up hr := by
  have e : maxI 0 lv = lv := by
    unfold maxI
    by_cases h1 : 0 < lv
    · rw [if_pos h1]
    · rw [if_neg h1, eq_i]
      have h2 : ¬ (0 : Int32).toInt < lv.toInt := fun q => h1 (Int32.lt_iff_toInt_lt.mpr q)
      have e0 : (0 : Int32).toInt = 0 := rfl
      omega
  unfold xtls
  by_cases h5 : kd = 5
  · subst h5
    rw [if_pos rfl, e]
    simp [tls]
  · rw [if_neg h5]
theorem m_talker (lv ls up : Int32) : P_X8_talker lv ls up = pureM (tlk lv ls up) := by
  funext h
  simp only [P_X8_talker, m_most, cll0_pure, pureM_hp, tlk]
theorem ne2 : ¬ (2 : Int32) = 0 := by decide
theorem ne12 : ¬ (12 : Int32) = 0 := by decide
theorem ite_flip {α : Type} (x y : Int32) (a b : α) : (if y ≤ x then a else b) = if x < y then b else a := by
  by_cases h : x < y
  · rw [if_pos h, if_neg (fun q => by
      have h1 := Int32.le_iff_toInt_le.mp q
      have h2 := Int32.lt_iff_toInt_lt.mp h
      omega)]
  · rw [if_neg h, if_pos (Int32.not_lt.mp h)]
theorem some_ite {α β : Type} (c : Prop) (i : Decidable c) (a b : α) (h : β) : (if c then some (a, h) else some (b, h)) = some (if c then a else b, h) := by
  by_cases hc : c <;> simp [hc]
theorem m_tells (kd lv ls up hr : Int32) : P_X8_tells kd lv ls up hr = pureM (tls kd lv ls up hr) := by
  funext h
  have t1 : (1 : Int32).toInt = 1 := rfl
  have t2 : (2 : Int32).toInt = 2 := rfl
  have t3 : (3 : Int32).toInt = 3 := rfl
  have t4 : (4 : Int32).toInt = 4 := rfl
  have t5 : (5 : Int32).toInt = 5 := rfl
  simp only [P_X8_tells, m_talker, m_most, cll0_pure, pureM_hp, swT_c, swT_n, divI_hp _ _ _ ne2, ifB_hp, ite_flip, some_ite, tls]
  simp only [eq_i kd, t1, t2, t3, t4, t5]
  by_cases c1 : kd.toInt = 1
  · simp [c1]
  · by_cases c2 : kd.toInt = 2
    · simp [c2]
    · by_cases c3 : kd.toInt = 3
      · simp [c3]
      · by_cases c4 : kd.toInt = 4
        · simp [c4]
        · by_cases c5 : kd.toInt = 5
          · simp [c5]
          · simp [c1, c2, c3, c4, c5]
theorem x_tells (kd lv ls up hr : Int32) : P_X0_tells kd lv ls up hr = pureM (xtls kd lv ls up hr) := by
  funext h
  have t1 : (1 : Int32).toInt = 1 := rfl
  have t2 : (2 : Int32).toInt = 2 := rfl
  have t3 : (3 : Int32).toInt = 3 := rfl
  have t4 : (4 : Int32).toInt = 4 := rfl
  have t5 : (5 : Int32).toInt = 5 := rfl
  have e0 : lv - 2 * 0 = lv := by simp
  simp only [P_X0_tells, jn_hp, j_max, cll0_pure, pureM_hp, swT_c, swT_n, divI_hp _ _ _ ne2, ifB_hp, ite_flip, some_ite, xtls, tls, tlk]
  simp only [eq_i kd, t1, t2, t3, t4, t5, e0]
  by_cases c1 : kd.toInt = 1
  · simp [c1]
  · by_cases c2 : kd.toInt = 2
    · simp [c2]
    · by_cases c3 : kd.toInt = 3
      · simp [c3]
      · by_cases c4 : kd.toInt = 4
        · simp [c4]
        · by_cases c5 : kd.toInt = 5
          · simp [c5]
          · simp [c1, c2, c3, c4, c5]
end HOLD
