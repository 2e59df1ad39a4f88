/-! Rows and texts. -/
section ROWS
variable {τ σ : Type} {B : BT}
theorem j_max (x y : Int32) : P_J9_max_7cf53 x y = pureM (maxI x y) := by
  funext h
  simp only [P_J9_max_7cf53, ifB_hp, jn_hp, pureM_hp, maxI]
  by_cases h1 : x < y <;> simp [h1]
theorem j_min (x y : Int32) : P_J9_min_7cf53 x y = pureM (minI x y) := by
  funext h
  simp only [P_J9_min_7cf53, ifB_hp, jn_hp, pureM_hp, minI]
  by_cases h1 : y < x <;> simp [h1]
theorem uG_uG (D : DT) (a : Nat) (g g' : Nat → Int32) : uG (uG D a g) a g' = uG D a g' := by
  unfold uG
  refine Prod.ext rfl (Prod.ext ?_ rfl)
  funext b
  by_cases e : b = a <;> simp [e]
theorem uG_self (D : DT) (a : Nat) : uG D a (fG D a) = D := by
  unfold uG fG
  refine Prod.ext rfl (Prod.ext ?_ rfl)
  funext b
  by_cases e : b = a <;> simp [e]
theorem fill_loop {p n : Nat} {b : Int32} (hA : kA p = some n) (hn : n ≤ 1000) : ∀ (F k : Nat) (D : DT), k ≤ n → n - k < F → P_J7_fill_53178_5 p b (nI n) F (nI k) (hp B D) = some ((), hp B (uG D p (fun j => if k ≤ j ∧ j < n then b else fG D p j))) := by
  intro F
  induction F with
  | zero => intro k D h1 h2; omega
  | succ F ih =>
    intro k D h1 h2
    simp only [P_J7_fill_53178_5, pureM_hp, ifB_t, ifB_f, decide_true, decide_false, ifB_hp, jn_hp, retZ_0, retZ_1, thn_some, cll0_w, cllV_w, getI_w, getL_w, getR_w, setI_w, setZ_w0, setZ_w1, setL_w, ald_w, ast_w, alen_w, aldR_2, aldR_3, aldR_4, aldR_22, cll0_pure, ↓reduceIte, if_true, if_false, Bool.false_eq_true, reduceCtorEq, and_true, true_and, and_false, false_and, ite_self, hA]
    by_cases e : k = n
    · subst e
      rw [if_pos (nI_le (Nat.le_refl _) (by omega))]
      have : (fun j => if k ≤ j ∧ j < k then b else fG D p j) = fG D p := by
        funext j
        rw [if_neg (by omega)]
      rw [this, uG_self]
    · have hk : k < n := by omega
      rw [if_neg (nI_ge hk (by omega))]
      rw [nI_toInt (by omega), nI_clamp (by omega), if_pos (by omega), nI_1, ih (k + 1) _ (by omega) (by omega)]
      rw [uG_uG]
      congr 4
      funext j
      simp only [fG_uG, if_true, upd]
      by_cases e1 : j = k
      · subst e1
        simp [hk]
      · by_cases e2 : k ≤ j ∧ j < n
        · rw [if_pos (by omega), if_pos e2]
        · rw [if_neg (by omega), if_neg e1, if_neg e2]
theorem fill_hp {p n : Nat} {b : Int32} (hA : kA p = some n) (hn : n ≤ 1000) (D : DT) : P_J7_fill_53178 p b (hp B D) = some ((), hp B (uG D p (fun j => if j < n then b else fG D p j))) := by
  have h0 : (0 : Int32) = nI 0 := rfl
  simp only [P_J7_fill_53178, pureM_hp, ifB_t, ifB_f, decide_true, decide_false, ifB_hp, jn_hp, retZ_0, retZ_1, thn_some, cll0_w, cllV_w, getI_w, getL_w, getR_w, setI_w, setZ_w0, setZ_w1, setL_w, ald_w, ast_w, alen_w, aldR_2, aldR_3, aldR_4, aldR_22, cll0_pure, ↓reduceIte, if_true, if_false, Bool.false_eq_true, reduceCtorEq, and_true, true_and, and_false, false_and, ite_self, hA]
  rw [h0, show Int32.ofNat n = nI n from rfl, fill_loop hA hn 4000 0 D (by omega) (by omega)]
  simp
theorem X5_holds_hp {D : DT} {a p n b : Nat} (hr : isRw a p n b) (i : Int32) : P_X5_holds a i (hp B D) = some (b2i (decide (0 ≤ i.toInt ∧ i.toInt < (fI D a 2).toInt)), hp B D) := by
  obtain ⟨hC, hR, hK, hK1, hI2, hI3, hA⟩ := hr
  simp only [P_X5_holds, pureM_hp, ifB_t, ifB_f, decide_true, decide_false, ifB_hp, jn_hp, retZ_0, retZ_1, thn_some, cll0_w, cllV_w, getI_w, getL_w, getR_w, setI_w, setZ_w0, setZ_w1, setL_w, ald_w, ast_w, alen_w, aldR_2, aldR_3, aldR_4, aldR_22, cll0_pure, ↓reduceIte, if_true, if_false, Bool.false_eq_true, reduceCtorEq, and_true, true_and, and_false, false_and, ite_self, hC, hR, hK, hI2, hI3, hA, Int32.lt_iff_toInt_lt, Int32.le_iff_toInt_le, i0]
  by_cases h1 : i.toInt < 0
  · simp [h1, b2i, Int.not_le.mpr h1]
  · by_cases h2 : (fI D a 2).toInt ≤ i.toInt
    · simp [h1, h2, b2i, Int.not_lt.mpr h2]
    · simp [h1, h2, b2i, Int.not_lt.mp h1, Int.not_le.mp h2]
theorem X5_get_hp {D : DT} {a p n b : Nat} (hr : isRw a p n b) (i : Int32) (hn : (fI D a 2).toInt ≤ n) : P_X5_get a i (hp B D) = some (if 0 ≤ i.toInt ∧ i.toInt < (fI D a 2).toInt then fG D p i.toNatClampNeg else 0, hp B D) := by
  have hh := X5_holds_hp (B := B) (D := D) hr i
  obtain ⟨hC, hR, hK, hK1, hI2, hI3, hA⟩ := hr
  simp only [P_X5_get, pureM_hp, ifB_t, ifB_f, decide_true, decide_false, ifB_hp, jn_hp, retZ_0, retZ_1, thn_some, cll0_w, cllV_w, getI_w, getL_w, getR_w, setI_w, setZ_w0, setZ_w1, setL_w, ald_w, ast_w, alen_w, aldR_2, aldR_3, aldR_4, aldR_22, cll0_pure, ↓reduceIte, if_true, if_false, Bool.false_eq_true, reduceCtorEq, and_true, true_and, and_false, false_and, ite_self, hC, hR, hK, hI2, hI3, hA, hh, b2i_0]
  by_cases h1 : 0 ≤ i.toInt ∧ i.toInt < (fI D a 2).toInt
  · have h2 : 0 ≤ i.toInt ∧ i.toInt < n := by omega
    simp [h1, h2]
  · simp [h1]
theorem X5_swap_hp {D : DT} {a p n b : Nat} (hr : isRw a p n b) (i v : Int32) (hn : (fI D a 2).toInt ≤ n) (hi : 0 ≤ i.toInt ∧ i.toInt < (fI D a 2).toInt) : P_X5_swap a i v (hp B D) = some (fG D p i.toNatClampNeg, hp B (uG D p (upd (fG D p) i.toNatClampNeg v))) := by
  have hh := X5_holds_hp (B := B) (D := D) hr i
  have hg := X5_get_hp (B := B) (D := D) hr i hn
  obtain ⟨hC, hR, hK, hK1, hI2, hI3, hA⟩ := hr
  have h2 : 0 ≤ i.toInt ∧ i.toInt < n := by omega
  simp only [P_X5_swap, pureM_hp, ifB_t, ifB_f, decide_true, decide_false, ifB_hp, jn_hp, retZ_0, retZ_1, thn_some, cll0_w, cllV_w, getI_w, getL_w, getR_w, setI_w, setZ_w0, setZ_w1, setL_w, ald_w, ast_w, alen_w, aldR_2, aldR_3, aldR_4, aldR_22, cll0_pure, ↓reduceIte, if_true, if_false, Bool.false_eq_true, reduceCtorEq, and_true, true_and, and_false, false_and, ite_self, hC, hR, hK, hI2, hI3, hA, hh, hg, b2i_0, hi, h2]
theorem X5_begin_hp {D : DT} {a p n b j : Nat} (hr : isRw a p n b) (hn : n ≤ 1000) (hj : j ≤ n) : P_X5_begin a (nI j) (hp B D) = some ((), hp B (uG (uI (uI D a 3 1) a 2 (nI j)) p (fun k => if k < n then nI b else fG D p k))) := by
  obtain ⟨hC, hR, hK, hK1, hI2, hI3, hA⟩ := hr
  have e1 : minI (nI j) (Int32.ofNat n) = nI j := by
    unfold minI
    rw [show Int32.ofNat n = nI n from rfl]
    by_cases h : nI n < nI j
    · exact absurd ((nI_ltI (by omega) (by omega)).mp h) (by omega)
    · rw [if_neg h]
  have e2 : maxI 0 (nI j) = nI j := by
    unfold maxI
    rw [show (0 : Int32) = nI 0 from rfl]
    by_cases h : nI 0 < nI j
    · rw [if_pos h]
    · rw [if_neg h]
      have : ¬ 0 < j := fun q => h ((nI_ltI (by omega) (by omega)).mpr q)
      rw [show j = 0 by omega]
  simp only [P_X5_begin, pureM_hp, ifB_t, ifB_f, decide_true, decide_false, ifB_hp, jn_hp, retZ_0, retZ_1, thn_some, cll0_w, cllV_w, getI_w, getL_w, getR_w, setI_w, setZ_w0, setZ_w1, setL_w, ald_w, ast_w, alen_w, aldR_2, aldR_3, aldR_4, aldR_22, cll0_pure, ↓reduceIte, if_true, if_false, Bool.false_eq_true, reduceCtorEq, and_true, true_and, and_false, false_and, ite_self, hC, hR, hK, hK1, hI2, hI3, hA, j_min, j_max, e1, e2, fill_hp hA hn, fG_uI]
  rfl
/-! refusals -/
def rfX (D : DT) (f : Nat) : DT := uG (uI D 1 9 (nI f)) 38 (upd (fG D 38) f (fG D 38 f + 1))
def rfM (D : DT) (f : Nat) : DT := uG (uI D 74 12 (nI f)) 85 (upd (fG D 85) f (fG D 85 f + 1))
theorem X7_found_n (D : DT) {f : Nat} (h1 : 1 ≤ f) (h5 : f ≤ 5) : P_X7_found 1 (nI f) (hp B D) = some (-3, hp B (rfX D f)) := by
  have a1 : ¬ nI f < 1 := fun h => by
    have := (nI_ltI (a := f) (b := 1) (by omega) (by omega)).mp h
    omega
  have a5 : ¬ 5 < nI f := fun h => by
    have := (nI_ltI (a := 5) (b := f) (by omega) (by omega)).mp h
    omega
  have hc : 0 ≤ (f : Int) ∧ (f : Int) < ((6 : Nat) : Int) := by omega
  simp only [P_X7_found, pureM_hp, ifB_t, ifB_f, decide_true, decide_false, ifB_hp, jn_hp, retZ_0, retZ_1, thn_some, cll0_w, cllV_w, getI_w, getL_w, getR_w, setI_w, setZ_w0, setZ_w1, setL_w, ald_w, ast_w, alen_w, aldR_2, aldR_3, aldR_4, aldR_22, cll0_pure, ↓reduceIte, if_true, if_false, Bool.false_eq_true, reduceCtorEq, and_true, true_and, and_false, false_and, ite_self, kI_1_9, kI_1_10, kI_5_4, kI_5_5, kI_5_6, kI_10_1, kI_11_4, kI_11_5, kI_11_6, kI_16_2, kI_16_3, kI_16_4, kI_16_5, kI_16_6, kI_17_2, kI_17_3, kI_21_4, kI_21_5, kI_21_6, kI_21_7, kI_21_8, kI_21_9, kI_21_10, kI_21_11, kI_26_2, kI_26_3, kI_29_2, kI_29_3, kI_32_2, kI_32_3, kI_35_2, kI_39_2, kI_39_3, kI_41_2, kI_41_3, kI_43_2, kI_43_3, kI_45_2, kI_45_3, kI_47_2, kI_47_3, kI_49_2, kI_49_3, kI_51_2, kI_51_3, kI_53_2, kI_53_3, kI_55_2, kI_55_3, kI_57_2, kI_57_3, kI_59_2, kI_59_3, kI_59_4, kI_59_5, kI_59_6, kI_60_2, kI_60_3, kI_64_2, kI_64_3, kI_64_4, kI_64_5, kI_64_6, kI_65_2, kI_65_3, kI_69_2, kI_69_3, kI_69_4, kI_69_5, kI_69_6, kI_70_2, kI_70_3, kI_74_10, kI_74_11, kI_74_12, kI_74_14, kI_74_18, kI_74_19, kI_74_20, kI_74_21, kI_74_22, kI_74_23, kI_74_29, kI_74_30, kI_74_31, kI_74_32, kI_74_33, kR_1_0, kR_1_1, kR_1_2, kR_1_3, kR_1_4, kR_1_5, kR_1_6, kR_1_7, kR_1_8, kR_5_0, kR_5_1, kR_5_2, kR_5_3, kR_10_0, kR_11_0, kR_11_1, kR_11_2, kR_11_3, kR_16_0, kR_16_1, kR_17_0, kR_17_1, kR_21_0, kR_21_1, kR_21_2, kR_21_3, kR_26_0, kR_26_1, kR_29_0, kR_29_1, kR_32_0, kR_32_1, kR_35_0, kR_35_1, kR_39_0, kR_41_0, kR_43_0, kR_45_0, kR_47_0, kR_49_0, kR_51_0, kR_53_0, kR_55_0, kR_57_0, kR_59_0, kR_59_1, kR_60_0, kR_60_1, kR_64_0, kR_64_1, kR_65_0, kR_65_1, kR_69_0, kR_69_1, kR_70_0, kR_70_1, kR_74_0, kR_74_1, kR_74_2, kR_74_3, kR_74_4, kR_74_5, kR_74_6, kR_74_7, kR_74_8, kR_74_9, kR_74_13, kR_74_17, kR_74_24, kR_74_25, kR_74_26, kR_74_27, kR_74_28, kR_74_34, kR_74_35, kR_74_36, kL_1_11, kL_1_12, kL_74_15, kL_74_16, kK_39_1, kK_41_1, kK_43_1, kK_45_1, kK_47_1, kK_49_1, kK_51_1, kK_53_1, kK_55_1, kK_57_1, kA_6, kA_7, kA_8, kA_9, kA_12, kA_13, kA_14, kA_15, kA_18, kA_19, kA_20, kA_23, kA_24, kA_25, kA_27, kA_28, kA_30, kA_31, kA_33, kA_34, kA_36, kA_37, kA_38, kA_40, kA_42, kA_44, kA_46, kA_48, kA_50, kA_52, kA_54, kA_56, kA_58, kA_61, kA_62, kA_63, kA_66, kA_67, kA_68, kA_71, kA_72, kA_73, kA_75, kA_76, kA_77, kA_78, kA_79, kA_80, kA_81, kA_82, kA_83, kA_84, kA_85, kA_86, kA_87, kA_88, kA_89, kA_90, kA_91, kA_92, kA_93, kA_94, kQ_2, kQ_3, kQ_4, kQ_22, kC_1, kC_5, kC_10, kC_11, kC_16, kC_17, kC_21, kC_26, kC_29, kC_32, kC_35, kC_39, kC_41, kC_43, kC_45, kC_47, kC_49, kC_51, kC_53, kC_55, kC_57, kC_59, kC_60, kC_64, kC_65, kC_69, kC_70, kC_74, a1, a5, nI_toInt (show f < 2 ^ 31 by omega), nI_clamp (show f < 2 ^ 31 by omega), fG_uI, hc]
  rfl
theorem X8_refuse_n (D : DT) {f : Nat} (h1 : 1 ≤ f) (h5 : f ≤ 5) : P_X8_refuse 74 (nI f) (hp B D) = some (-3, hp B (rfM D f)) := by
  have hc : 0 ≤ (f : Int) ∧ (f : Int) < ((6 : Nat) : Int) := by omega
  simp only [P_X8_refuse, pureM_hp, ifB_t, ifB_f, decide_true, decide_false, ifB_hp, jn_hp, retZ_0, retZ_1, thn_some, cll0_w, cllV_w, getI_w, getL_w, getR_w, setI_w, setZ_w0, setZ_w1, setL_w, ald_w, ast_w, alen_w, aldR_2, aldR_3, aldR_4, aldR_22, cll0_pure, ↓reduceIte, if_true, if_false, Bool.false_eq_true, reduceCtorEq, and_true, true_and, and_false, false_and, ite_self, kI_1_9, kI_1_10, kI_5_4, kI_5_5, kI_5_6, kI_10_1, kI_11_4, kI_11_5, kI_11_6, kI_16_2, kI_16_3, kI_16_4, kI_16_5, kI_16_6, kI_17_2, kI_17_3, kI_21_4, kI_21_5, kI_21_6, kI_21_7, kI_21_8, kI_21_9, kI_21_10, kI_21_11, kI_26_2, kI_26_3, kI_29_2, kI_29_3, kI_32_2, kI_32_3, kI_35_2, kI_39_2, kI_39_3, kI_41_2, kI_41_3, kI_43_2, kI_43_3, kI_45_2, kI_45_3, kI_47_2, kI_47_3, kI_49_2, kI_49_3, kI_51_2, kI_51_3, kI_53_2, kI_53_3, kI_55_2, kI_55_3, kI_57_2, kI_57_3, kI_59_2, kI_59_3, kI_59_4, kI_59_5, kI_59_6, kI_60_2, kI_60_3, kI_64_2, kI_64_3, kI_64_4, kI_64_5, kI_64_6, kI_65_2, kI_65_3, kI_69_2, kI_69_3, kI_69_4, kI_69_5, kI_69_6, kI_70_2, kI_70_3, kI_74_10, kI_74_11, kI_74_12, kI_74_14, kI_74_18, kI_74_19, kI_74_20, kI_74_21, kI_74_22, kI_74_23, kI_74_29, kI_74_30, kI_74_31, kI_74_32, kI_74_33, kR_1_0, kR_1_1, kR_1_2, kR_1_3, kR_1_4, kR_1_5, kR_1_6, kR_1_7, kR_1_8, kR_5_0, kR_5_1, kR_5_2, kR_5_3, kR_10_0, kR_11_0, kR_11_1, kR_11_2, kR_11_3, kR_16_0, kR_16_1, kR_17_0, kR_17_1, kR_21_0, kR_21_1, kR_21_2, kR_21_3, kR_26_0, kR_26_1, kR_29_0, kR_29_1, kR_32_0, kR_32_1, kR_35_0, kR_35_1, kR_39_0, kR_41_0, kR_43_0, kR_45_0, kR_47_0, kR_49_0, kR_51_0, kR_53_0, kR_55_0, kR_57_0, kR_59_0, kR_59_1, kR_60_0, kR_60_1, kR_64_0, kR_64_1, kR_65_0, kR_65_1, kR_69_0, kR_69_1, kR_70_0, kR_70_1, kR_74_0, kR_74_1, kR_74_2, kR_74_3, kR_74_4, kR_74_5, kR_74_6, kR_74_7, kR_74_8, kR_74_9, kR_74_13, kR_74_17, kR_74_24, kR_74_25, kR_74_26, kR_74_27, kR_74_28, kR_74_34, kR_74_35, kR_74_36, kL_1_11, kL_1_12, kL_74_15, kL_74_16, kK_39_1, kK_41_1, kK_43_1, kK_45_1, kK_47_1, kK_49_1, kK_51_1, kK_53_1, kK_55_1, kK_57_1, kA_6, kA_7, kA_8, kA_9, kA_12, kA_13, kA_14, kA_15, kA_18, kA_19, kA_20, kA_23, kA_24, kA_25, kA_27, kA_28, kA_30, kA_31, kA_33, kA_34, kA_36, kA_37, kA_38, kA_40, kA_42, kA_44, kA_46, kA_48, kA_50, kA_52, kA_54, kA_56, kA_58, kA_61, kA_62, kA_63, kA_66, kA_67, kA_68, kA_71, kA_72, kA_73, kA_75, kA_76, kA_77, kA_78, kA_79, kA_80, kA_81, kA_82, kA_83, kA_84, kA_85, kA_86, kA_87, kA_88, kA_89, kA_90, kA_91, kA_92, kA_93, kA_94, kQ_2, kQ_3, kQ_4, kQ_22, kC_1, kC_5, kC_10, kC_11, kC_16, kC_17, kC_21, kC_26, kC_29, kC_32, kC_35, kC_39, kC_41, kC_43, kC_45, kC_47, kC_49, kC_51, kC_53, kC_55, kC_57, kC_59, kC_60, kC_64, kC_65, kC_69, kC_70, kC_74, nI_toInt (show f < 2 ^ 31 by omega), nI_clamp (show f < 2 ^ 31 by omega), fG_uI, hc]
  rfl
theorem X7_found_1 (D : DT) : P_X7_found 1 1 (hp B D) = some (-3, hp B (rfX D 1)) := X7_found_n (f := 1) D (by omega) (by omega)
theorem X7_found_2 (D : DT) : P_X7_found 1 2 (hp B D) = some (-3, hp B (rfX D 2)) := X7_found_n (f := 2) D (by omega) (by omega)
theorem X7_found_3 (D : DT) : P_X7_found 1 3 (hp B D) = some (-3, hp B (rfX D 3)) := X7_found_n (f := 3) D (by omega) (by omega)
theorem X7_found_4 (D : DT) : P_X7_found 1 4 (hp B D) = some (-3, hp B (rfX D 4)) := X7_found_n (f := 4) D (by omega) (by omega)
theorem X7_found_5 (D : DT) : P_X7_found 1 5 (hp B D) = some (-3, hp B (rfX D 5)) := X7_found_n (f := 5) D (by omega) (by omega)
theorem X8_refuse_1 (D : DT) : P_X8_refuse 74 1 (hp B D) = some (-3, hp B (rfM D 1)) := X8_refuse_n (f := 1) D (by omega) (by omega)
theorem X8_refuse_2 (D : DT) : P_X8_refuse 74 2 (hp B D) = some (-3, hp B (rfM D 2)) := X8_refuse_n (f := 2) D (by omega) (by omega)
theorem X8_refuse_3 (D : DT) : P_X8_refuse 74 3 (hp B D) = some (-3, hp B (rfM D 3)) := X8_refuse_n (f := 3) D (by omega) (by omega)
theorem X8_refuse_4 (D : DT) : P_X8_refuse 74 4 (hp B D) = some (-3, hp B (rfM D 4)) := X8_refuse_n (f := 4) D (by omega) (by omega)
theorem X8_refuse_5 (D : DT) : P_X8_refuse 74 5 (hp B D) = some (-3, hp B (rfM D 5)) := X8_refuse_n (f := 5) D (by omega) (by omega)
def RowsAv (T : Nat → Nat → Prop) : Prop := (∀ r, r < 6 → ¬ T (39 + 2 * r) 2 ∧ ¬ T (39 + 2 * r) 3 ∧ ¬ T (40 + 2 * r) 63) ∧ ¬ T 75 63 ∧ ¬ T 76 63
def TxtAv (T : Nat → Nat → Prop) : Prop := (∀ r, r < 4 → ¬ T (51 + 2 * r) 2 ∧ ¬ T (51 + 2 * r) 3 ∧ ¬ T (52 + 2 * r) 63) ∧ ¬ T 77 63 ∧ ¬ T 78 63
def FindAv (T : Nat → Nat → Prop) : Prop := ¬ T 1 9 ∧ ¬ T 74 12 ∧ ¬ T 38 63 ∧ ¬ T 85 63
def AskAv (T : Nat → Nat → Prop) : Prop := ¬ T 1 10 ∧ ¬ T 74 14 ∧ ¬ T 1 11 ∧ ¬ T 74 15 ∧ ¬ T 1 12 ∧ ¬ T 74 16
theorem Inv.by {T : Nat → Nat → Prop} {D D' : DT} (h : Inv D) (o : Off T D D') (h1 : RowsAv T ∨ ∀ r, r < 6 → RowI D' r) (h2 : TxtAv T ∨ ∀ r, r < 4 → TxtI D' r) (h3 : FindAv T ∨ FindI D') (h4 : AskAv T ∨ AskI D') (h5 : NoBri T ∨ ∃ m q s c ds, BriI D' m q s c ds) : Inv D' := by
  obtain ⟨g1, g2, g3, g4, m, q, s, c, ds, g5⟩ := h
  refine ⟨?_, ?_, ?_, ?_, ?_⟩
  · rcases h1 with h | h
    · exact fun r hr => (g1 r hr).off o (h.1 r hr).1 (h.1 r hr).2.1 (h.1 r hr).2.2 h.2.1 h.2.2
    · exact h
  · rcases h2 with h | h
    · exact fun r hr => (g2 r hr).off o (h.1 r hr).1 (h.1 r hr).2.1 (h.1 r hr).2.2 h.2.1 h.2.2
    · exact h
  · rcases h3 with h | h
    · exact g3.off o h.1 h.2.1 h.2.2.1 h.2.2.2
    · exact h
  · rcases h4 with h | h
    · exact g4.off o h.1 h.2.1 h.2.2.1 h.2.2.2.1 h.2.2.2.2.1 h.2.2.2.2.2
    · exact h
  · rcases h5 with h | h
    · exact ⟨m, q, s, c, ds, g5.off o h⟩
    · exact h
theorem inv_rf {D : DT} (h : Inv D) {f : Nat} (h1 : 1 ≤ f) (h5 : f ≤ 5) : Inv (rfM (rfX D f) f) := by
  have o : Off (fun a k => (a = 1 ∧ k = 9) ∨ (a = 38 ∧ k = 63) ∨ (a = 74 ∧ k = 12) ∨ (a = 85 ∧ k = 63)) D (rfM (rfX D f) f) :=
    ((((Off.refl D).uI 1 9 _ (by omega)).uG 38 _ (by omega)).uI 74 12 _ (by omega)).uG 85 _ (by omega)
  refine h.by o (Or.inl ⟨fun r hr => ⟨?_, ?_, ?_⟩, ?_, ?_⟩) (Or.inl ⟨fun r hr => ⟨?_, ?_, ?_⟩, ?_, ?_⟩) (Or.inr ?_) (Or.inl ⟨?_, ?_, ?_, ?_, ?_, ?_⟩) (Or.inl ⟨?_, ?_, ?_, ?_, ?_, ?_⟩) <;> try omega
  refine ⟨?_, fun g g1 g5 => ?_⟩
  · simp [rfM, rfX, fI_uI, fI_uG]
  · simp only [rfM, rfX, fG_uI, fG_uG]
    have := h.2.2.1.2 g g1 g5
    have := h.2.2.1.2 f h1 h5
    by_cases e : g = f
    · subst e; simp [upd, *]
    · simp [upd, e, *]
end ROWS
