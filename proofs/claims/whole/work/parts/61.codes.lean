/-! The reference's codes. -/
section CODES
variable {B : BT}
abbrev pn (m k : Nat) : Nat := (prs m).getD k 0
abbrev pM (m : Nat) : Nat := (prs m).length
abbrev dgm (m n c : Nat) : List Nat := dg (pn m) (pM m) n c
theorem getD_get : ∀ (l : List Nat) (k : Nat) (h : k < l.length), l.getD k 0 = l[k] := by
  intro l
  induction l with
  | nil => intro k h; exact absurd h (by simp)
  | cons a l ih =>
    intro k h
    cases k with
    | zero => rfl
    | succ k => exact ih k (by rw [List.length_cons] at h; omega)
theorem pn_mem {m k : Nat} (h : k < pM m) : pn m k ∈ prs m := by
  show (prs m).getD k 0 ∈ prs m
  rw [getD_get _ _ h]
  exact List.getElem_mem h
theorem dgm_mem {m : Nat} (h0 : 0 < pM m) : ∀ n c, ∀ d ∈ dgm m n c, d ∈ prs m := by
  intro n
  induction n with
  | zero => intro c d hd; cases hd
  | succ n ih =>
    intro c d hd
    rcases List.mem_append.mp hd with h | h
    · exact ih _ d h
    · rw [List.mem_singleton] at h
      rw [h]
      exact pn_mem (Nat.mod_lt _ h0)
/-- the pairs laid -/
def Tlp : Nat → Nat → Prop := fun x k => (x = 74 ∧ k = 29) ∨ (x = 91 ∧ k = 63)
def LPs (D : DT) (L : List Nat) : Prop := fI D 74 29 = nI L.length ∧ ∀ k (h : k < L.length), fG D 91 k = nI L[k]
def LPm (D : DT) (m : Nat) : Prop := fI D 74 29 = nI (pM m) ∧ ∀ k, k < pM m → fG D 91 k = nI (pn m k)
theorem LPm.off {T : Nat → Nat → Prop} {D D' : DT} {m : Nat} (h : LPm D m) (o : Off T D D') (h1 : ¬ T 74 29) (h2 : ¬ T 91 63) : LPm D' m := by
  unfold LPm
  rw [(o.1 _ _ h1).1, o.2 _ h2]
  exact h
theorem lay_in {m i : Nat} (hm6 : m ≤ 6) (hi : i < m) (rest : List Nat) (K : PM Unit) : ∀ (F t : Nat) (D : DT) (L : List Nat), t < F → t ≤ m → L ++ rj i m t ++ rest = prs m → fI D 74 10 = nI m → LPs D L → ∃ D', P_X8_layPairs_19 K 74 (nI i) F (nI (m - t)) (hp B D) = K (hp B D') ∧ LPs D' (L ++ rj i m t) ∧ Off Tlp D D' := by
  intro F
  induction F with
  | zero => intro t D L h1; omega
  | succ F ih =>
    intro t D L h1 h2 h3 hm hL
    cases t with
    | zero =>
      have c1 : nI m ≤ nI (m - 0) := nI_le (by omega) (by omega)
      refine ⟨D, ?_, by rw [show rj i m 0 = [] from rfl, List.append_nil]; exact hL, Off.refl D⟩
      simp only [P_X8_layPairs_19, pureM_hp, ifB_t, ifB_f, decide_true, decide_false, ifB_hp, jn_hp, retZ_0, retZ_1, thn_some, cll0_w, cllV_w, getI_w, getL_w, getR_w, setI_w, setZ_w0, setZ_w1, setL_w, ald_w, ast_w, alen_w, aldR_2, aldR_3, aldR_4, aldR_22, cll0_pure, ↓reduceIte, if_true, if_false, Bool.false_eq_true, reduceCtorEq, and_true, true_and, and_false, false_and, ite_self, kI_1_9, kI_1_10, kI_5_4, kI_5_5, kI_5_6, kI_10_1, kI_11_4, kI_11_5, kI_11_6, kI_16_2, kI_16_3, kI_16_4, kI_16_5, kI_16_6, kI_17_2, kI_17_3, kI_21_4, kI_21_5, kI_21_6, kI_21_7, kI_21_8, kI_21_9, kI_21_10, kI_21_11, kI_26_2, kI_26_3, kI_29_2, kI_29_3, kI_32_2, kI_32_3, kI_35_2, kI_39_2, kI_39_3, kI_41_2, kI_41_3, kI_43_2, kI_43_3, kI_45_2, kI_45_3, kI_47_2, kI_47_3, kI_49_2, kI_49_3, kI_51_2, kI_51_3, kI_53_2, kI_53_3, kI_55_2, kI_55_3, kI_57_2, kI_57_3, kI_59_2, kI_59_3, kI_59_4, kI_59_5, kI_59_6, kI_60_2, kI_60_3, kI_64_2, kI_64_3, kI_64_4, kI_64_5, kI_64_6, kI_65_2, kI_65_3, kI_69_2, kI_69_3, kI_69_4, kI_69_5, kI_69_6, kI_70_2, kI_70_3, kI_74_10, kI_74_11, kI_74_12, kI_74_14, kI_74_18, kI_74_19, kI_74_20, kI_74_21, kI_74_22, kI_74_23, kI_74_29, kI_74_30, kI_74_31, kI_74_32, kI_74_33, kR_1_0, kR_1_1, kR_1_2, kR_1_3, kR_1_4, kR_1_5, kR_1_6, kR_1_7, kR_1_8, kR_5_0, kR_5_1, kR_5_2, kR_5_3, kR_10_0, kR_11_0, kR_11_1, kR_11_2, kR_11_3, kR_16_0, kR_16_1, kR_17_0, kR_17_1, kR_21_0, kR_21_1, kR_21_2, kR_21_3, kR_26_0, kR_26_1, kR_29_0, kR_29_1, kR_32_0, kR_32_1, kR_35_0, kR_35_1, kR_39_0, kR_41_0, kR_43_0, kR_45_0, kR_47_0, kR_49_0, kR_51_0, kR_53_0, kR_55_0, kR_57_0, kR_59_0, kR_59_1, kR_60_0, kR_60_1, kR_64_0, kR_64_1, kR_65_0, kR_65_1, kR_69_0, kR_69_1, kR_70_0, kR_70_1, kR_74_0, kR_74_1, kR_74_2, kR_74_3, kR_74_4, kR_74_5, kR_74_6, kR_74_7, kR_74_8, kR_74_9, kR_74_13, kR_74_17, kR_74_24, kR_74_25, kR_74_26, kR_74_27, kR_74_28, kR_74_34, kR_74_35, kR_74_36, kL_1_11, kL_1_12, kL_74_15, kL_74_16, kK_39_1, kK_41_1, kK_43_1, kK_45_1, kK_47_1, kK_49_1, kK_51_1, kK_53_1, kK_55_1, kK_57_1, kA_6, kA_7, kA_8, kA_9, kA_12, kA_13, kA_14, kA_15, kA_18, kA_19, kA_20, kA_23, kA_24, kA_25, kA_27, kA_28, kA_30, kA_31, kA_33, kA_34, kA_36, kA_37, kA_38, kA_40, kA_42, kA_44, kA_46, kA_48, kA_50, kA_52, kA_54, kA_56, kA_58, kA_61, kA_62, kA_63, kA_66, kA_67, kA_68, kA_71, kA_72, kA_73, kA_75, kA_76, kA_77, kA_78, kA_79, kA_80, kA_81, kA_82, kA_83, kA_84, kA_85, kA_86, kA_87, kA_88, kA_89, kA_90, kA_91, kA_92, kA_93, kA_94, kQ_2, kQ_3, kQ_4, kQ_22, kC_1, kC_5, kC_10, kC_11, kC_16, kC_17, kC_21, kC_26, kC_29, kC_32, kC_35, kC_39, kC_41, kC_43, kC_45, kC_47, kC_49, kC_51, kC_53, kC_55, kC_57, kC_59, kC_60, kC_64, kC_65, kC_69, kC_70, kC_74, hm, c1]
    | succ t =>
      have c1 : ¬ nI m ≤ nI (m - (t + 1)) := nI_ge (by omega) (by omega)
      have hl15 : L.length < 15 := by
        have := congrArg List.length h3
        rw [List.length_append, List.length_append, show rj i m (t + 1) = (10 * i + (m - (t + 1))) :: rj i m t from rfl, List.length_cons] at this
        have h5 := (prs_ok hm6).2.1
        omega
      have cx : 0 ≤ (nI L.length).toInt ∧ (nI L.length).toInt < ((15 : Nat) : Int) := ixc (by omega) (by omega)
      have ix : (10 : Int32) * nI i + nI (m - (t + 1)) = nI (10 * i + (m - (t + 1))) := by rw [show (10 : Int32) = nI 10 from rfl, pk_mul, nI_add]
      have o1 : Off Tlp D (uI (uG D 91 (upd (fG D 91) L.length (nI (10 * i + (m - (t + 1)))))) 74 29 (nI (L.length + 1))) := ((Off.refl D).uG _ _ (Or.inr ⟨rfl, rfl⟩)).uI _ _ _ (Or.inl ⟨rfl, rfl⟩)
      obtain ⟨D', r1, r2, r3⟩ := ih t (uI (uG D 91 (upd (fG D 91) L.length (nI (10 * i + (m - (t + 1)))))) 74 29 (nI (L.length + 1))) (L ++ [10 * i + (m - (t + 1))]) (by omega) (by omega) (by rw [← h3, show rj i m (t + 1) = (10 * i + (m - (t + 1))) :: rj i m t from rfl]; simp) (by rw [fI_uI, if_neg (by omega), fI_uG]; exact hm) ⟨by rw [fI_uI, if_pos ⟨rfl, rfl⟩, List.length_append]; rfl, by rw [fG_uI, fG_uG, if_pos rfl]; exact get_snoc hL.2⟩
      refine ⟨D', ?_, by rw [show L ++ rj i m (t + 1) = (L ++ [10 * i + (m - (t + 1))]) ++ rj i m t by rw [List.append_assoc]; rfl]; exact r2, o1.trans r3⟩
      have em : m - (t + 1) + 1 = m - t := by omega
      have f29 : fI D 74 29 = nI L.length := hL.1
      simp only [P_X8_layPairs_19, pureM_hp, ifB_t, ifB_f, decide_true, decide_false, ifB_hp, jn_hp, retZ_0, retZ_1, thn_some, cll0_w, cllV_w, getI_w, getL_w, getR_w, setI_w, setZ_w0, setZ_w1, setL_w, ald_w, ast_w, alen_w, aldR_2, aldR_3, aldR_4, aldR_22, cll0_pure, ↓reduceIte, if_true, if_false, Bool.false_eq_true, reduceCtorEq, and_true, true_and, and_false, false_and, ite_self, kI_1_9, kI_1_10, kI_5_4, kI_5_5, kI_5_6, kI_10_1, kI_11_4, kI_11_5, kI_11_6, kI_16_2, kI_16_3, kI_16_4, kI_16_5, kI_16_6, kI_17_2, kI_17_3, kI_21_4, kI_21_5, kI_21_6, kI_21_7, kI_21_8, kI_21_9, kI_21_10, kI_21_11, kI_26_2, kI_26_3, kI_29_2, kI_29_3, kI_32_2, kI_32_3, kI_35_2, kI_39_2, kI_39_3, kI_41_2, kI_41_3, kI_43_2, kI_43_3, kI_45_2, kI_45_3, kI_47_2, kI_47_3, kI_49_2, kI_49_3, kI_51_2, kI_51_3, kI_53_2, kI_53_3, kI_55_2, kI_55_3, kI_57_2, kI_57_3, kI_59_2, kI_59_3, kI_59_4, kI_59_5, kI_59_6, kI_60_2, kI_60_3, kI_64_2, kI_64_3, kI_64_4, kI_64_5, kI_64_6, kI_65_2, kI_65_3, kI_69_2, kI_69_3, kI_69_4, kI_69_5, kI_69_6, kI_70_2, kI_70_3, kI_74_10, kI_74_11, kI_74_12, kI_74_14, kI_74_18, kI_74_19, kI_74_20, kI_74_21, kI_74_22, kI_74_23, kI_74_29, kI_74_30, kI_74_31, kI_74_32, kI_74_33, kR_1_0, kR_1_1, kR_1_2, kR_1_3, kR_1_4, kR_1_5, kR_1_6, kR_1_7, kR_1_8, kR_5_0, kR_5_1, kR_5_2, kR_5_3, kR_10_0, kR_11_0, kR_11_1, kR_11_2, kR_11_3, kR_16_0, kR_16_1, kR_17_0, kR_17_1, kR_21_0, kR_21_1, kR_21_2, kR_21_3, kR_26_0, kR_26_1, kR_29_0, kR_29_1, kR_32_0, kR_32_1, kR_35_0, kR_35_1, kR_39_0, kR_41_0, kR_43_0, kR_45_0, kR_47_0, kR_49_0, kR_51_0, kR_53_0, kR_55_0, kR_57_0, kR_59_0, kR_59_1, kR_60_0, kR_60_1, kR_64_0, kR_64_1, kR_65_0, kR_65_1, kR_69_0, kR_69_1, kR_70_0, kR_70_1, kR_74_0, kR_74_1, kR_74_2, kR_74_3, kR_74_4, kR_74_5, kR_74_6, kR_74_7, kR_74_8, kR_74_9, kR_74_13, kR_74_17, kR_74_24, kR_74_25, kR_74_26, kR_74_27, kR_74_28, kR_74_34, kR_74_35, kR_74_36, kL_1_11, kL_1_12, kL_74_15, kL_74_16, kK_39_1, kK_41_1, kK_43_1, kK_45_1, kK_47_1, kK_49_1, kK_51_1, kK_53_1, kK_55_1, kK_57_1, kA_6, kA_7, kA_8, kA_9, kA_12, kA_13, kA_14, kA_15, kA_18, kA_19, kA_20, kA_23, kA_24, kA_25, kA_27, kA_28, kA_30, kA_31, kA_33, kA_34, kA_36, kA_37, kA_38, kA_40, kA_42, kA_44, kA_46, kA_48, kA_50, kA_52, kA_54, kA_56, kA_58, kA_61, kA_62, kA_63, kA_66, kA_67, kA_68, kA_71, kA_72, kA_73, kA_75, kA_76, kA_77, kA_78, kA_79, kA_80, kA_81, kA_82, kA_83, kA_84, kA_85, kA_86, kA_87, kA_88, kA_89, kA_90, kA_91, kA_92, kA_93, kA_94, kQ_2, kQ_3, kQ_4, kQ_22, kC_1, kC_5, kC_10, kC_11, kC_16, kC_17, kC_21, kC_26, kC_29, kC_32, kC_35, kC_39, kC_41, kC_43, kC_45, kC_47, kC_49, kC_51, kC_53, kC_55, kC_57, kC_59, kC_60, kC_64, kC_65, kC_69, kC_70, kC_74, hm, c1, f29, cx, nI_clamp (show L.length < 2 ^ 31 by omega), ix, fI_uG, nI_p1, em, r1]
theorem lay_out {m : Nat} (hm6 : m ≤ 6) : ∀ (F t : Nat) (D : DT) (L : List Nat), t < F → t ≤ m → L ++ ri m t = prs m → fI D 74 10 = nI m → LPs D L → ∃ D', P_X8_layPairs_7 74 F (nI (m - t)) (hp B D) = some ((), hp B D') ∧ LPs D' (L ++ ri m t) ∧ Off Tlp D D' := by
  intro F
  induction F with
  | zero => intro t D L h1; omega
  | succ F ih =>
    intro t D L h1 h2 h3 hm hL
    cases t with
    | zero =>
      have c1 : nI m ≤ nI (m - 0) := nI_le (by omega) (by omega)
      refine ⟨D, ?_, by rw [show ri m 0 = [] from rfl, List.append_nil]; exact hL, Off.refl D⟩
      simp only [P_X8_layPairs_7, pureM_hp, ifB_t, ifB_f, decide_true, decide_false, ifB_hp, jn_hp, retZ_0, retZ_1, thn_some, cll0_w, cllV_w, getI_w, getL_w, getR_w, setI_w, setZ_w0, setZ_w1, setL_w, ald_w, ast_w, alen_w, aldR_2, aldR_3, aldR_4, aldR_22, cll0_pure, ↓reduceIte, if_true, if_false, Bool.false_eq_true, reduceCtorEq, and_true, true_and, and_false, false_and, ite_self, kI_1_9, kI_1_10, kI_5_4, kI_5_5, kI_5_6, kI_10_1, kI_11_4, kI_11_5, kI_11_6, kI_16_2, kI_16_3, kI_16_4, kI_16_5, kI_16_6, kI_17_2, kI_17_3, kI_21_4, kI_21_5, kI_21_6, kI_21_7, kI_21_8, kI_21_9, kI_21_10, kI_21_11, kI_26_2, kI_26_3, kI_29_2, kI_29_3, kI_32_2, kI_32_3, kI_35_2, kI_39_2, kI_39_3, kI_41_2, kI_41_3, kI_43_2, kI_43_3, kI_45_2, kI_45_3, kI_47_2, kI_47_3, kI_49_2, kI_49_3, kI_51_2, kI_51_3, kI_53_2, kI_53_3, kI_55_2, kI_55_3, kI_57_2, kI_57_3, kI_59_2, kI_59_3, kI_59_4, kI_59_5, kI_59_6, kI_60_2, kI_60_3, kI_64_2, kI_64_3, kI_64_4, kI_64_5, kI_64_6, kI_65_2, kI_65_3, kI_69_2, kI_69_3, kI_69_4, kI_69_5, kI_69_6, kI_70_2, kI_70_3, kI_74_10, kI_74_11, kI_74_12, kI_74_14, kI_74_18, kI_74_19, kI_74_20, kI_74_21, kI_74_22, kI_74_23, kI_74_29, kI_74_30, kI_74_31, kI_74_32, kI_74_33, kR_1_0, kR_1_1, kR_1_2, kR_1_3, kR_1_4, kR_1_5, kR_1_6, kR_1_7, kR_1_8, kR_5_0, kR_5_1, kR_5_2, kR_5_3, kR_10_0, kR_11_0, kR_11_1, kR_11_2, kR_11_3, kR_16_0, kR_16_1, kR_17_0, kR_17_1, kR_21_0, kR_21_1, kR_21_2, kR_21_3, kR_26_0, kR_26_1, kR_29_0, kR_29_1, kR_32_0, kR_32_1, kR_35_0, kR_35_1, kR_39_0, kR_41_0, kR_43_0, kR_45_0, kR_47_0, kR_49_0, kR_51_0, kR_53_0, kR_55_0, kR_57_0, kR_59_0, kR_59_1, kR_60_0, kR_60_1, kR_64_0, kR_64_1, kR_65_0, kR_65_1, kR_69_0, kR_69_1, kR_70_0, kR_70_1, kR_74_0, kR_74_1, kR_74_2, kR_74_3, kR_74_4, kR_74_5, kR_74_6, kR_74_7, kR_74_8, kR_74_9, kR_74_13, kR_74_17, kR_74_24, kR_74_25, kR_74_26, kR_74_27, kR_74_28, kR_74_34, kR_74_35, kR_74_36, kL_1_11, kL_1_12, kL_74_15, kL_74_16, kK_39_1, kK_41_1, kK_43_1, kK_45_1, kK_47_1, kK_49_1, kK_51_1, kK_53_1, kK_55_1, kK_57_1, kA_6, kA_7, kA_8, kA_9, kA_12, kA_13, kA_14, kA_15, kA_18, kA_19, kA_20, kA_23, kA_24, kA_25, kA_27, kA_28, kA_30, kA_31, kA_33, kA_34, kA_36, kA_37, kA_38, kA_40, kA_42, kA_44, kA_46, kA_48, kA_50, kA_52, kA_54, kA_56, kA_58, kA_61, kA_62, kA_63, kA_66, kA_67, kA_68, kA_71, kA_72, kA_73, kA_75, kA_76, kA_77, kA_78, kA_79, kA_80, kA_81, kA_82, kA_83, kA_84, kA_85, kA_86, kA_87, kA_88, kA_89, kA_90, kA_91, kA_92, kA_93, kA_94, kQ_2, kQ_3, kQ_4, kQ_22, kC_1, kC_5, kC_10, kC_11, kC_16, kC_17, kC_21, kC_26, kC_29, kC_32, kC_35, kC_39, kC_41, kC_43, kC_45, kC_47, kC_49, kC_51, kC_53, kC_55, kC_57, kC_59, kC_60, kC_64, kC_65, kC_69, kC_70, kC_74, hm, c1]
    | succ t =>
      have c1 : ¬ nI m ≤ nI (m - (t + 1)) := nI_ge (by omega) (by omega)
      have em : m - (t + 1) + 1 = m - t := by omega
      have e3 : L ++ rj (m - (t + 1)) m t ++ ri m t = prs m := by rw [← h3, List.append_assoc]; rfl
      obtain ⟨D1, g1, g2, g3⟩ := lay_in (B := B) (i := m - (t + 1)) hm6 (by omega) (ri m t) (P_X8_layPairs_7 74 F (nI (m - t))) 4000 t D L (by omega) (by omega) e3 hm hL
      obtain ⟨D2, r1, r2, r3⟩ := ih t D1 (L ++ rj (m - (t + 1)) m t) (by omega) (by omega) e3 (by rw [(g3.1 74 10 (by unfold Tlp; omega)).1]; exact hm) g2
      refine ⟨D2, ?_, by rw [show L ++ ri m (t + 1) = L ++ rj (m - (t + 1)) m t ++ ri m t by rw [List.append_assoc]; rfl]; exact r2, g3.trans r3⟩
      simp only [P_X8_layPairs_7, pureM_hp, ifB_t, ifB_f, decide_true, decide_false, ifB_hp, jn_hp, retZ_0, retZ_1, thn_some, cll0_w, cllV_w, getI_w, getL_w, getR_w, setI_w, setZ_w0, setZ_w1, setL_w, ald_w, ast_w, alen_w, aldR_2, aldR_3, aldR_4, aldR_22, cll0_pure, ↓reduceIte, if_true, if_false, Bool.false_eq_true, reduceCtorEq, and_true, true_and, and_false, false_and, ite_self, kI_1_9, kI_1_10, kI_5_4, kI_5_5, kI_5_6, kI_10_1, kI_11_4, kI_11_5, kI_11_6, kI_16_2, kI_16_3, kI_16_4, kI_16_5, kI_16_6, kI_17_2, kI_17_3, kI_21_4, kI_21_5, kI_21_6, kI_21_7, kI_21_8, kI_21_9, kI_21_10, kI_21_11, kI_26_2, kI_26_3, kI_29_2, kI_29_3, kI_32_2, kI_32_3, kI_35_2, kI_39_2, kI_39_3, kI_41_2, kI_41_3, kI_43_2, kI_43_3, kI_45_2, kI_45_3, kI_47_2, kI_47_3, kI_49_2, kI_49_3, kI_51_2, kI_51_3, kI_53_2, kI_53_3, kI_55_2, kI_55_3, kI_57_2, kI_57_3, kI_59_2, kI_59_3, kI_59_4, kI_59_5, kI_59_6, kI_60_2, kI_60_3, kI_64_2, kI_64_3, kI_64_4, kI_64_5, kI_64_6, kI_65_2, kI_65_3, kI_69_2, kI_69_3, kI_69_4, kI_69_5, kI_69_6, kI_70_2, kI_70_3, kI_74_10, kI_74_11, kI_74_12, kI_74_14, kI_74_18, kI_74_19, kI_74_20, kI_74_21, kI_74_22, kI_74_23, kI_74_29, kI_74_30, kI_74_31, kI_74_32, kI_74_33, kR_1_0, kR_1_1, kR_1_2, kR_1_3, kR_1_4, kR_1_5, kR_1_6, kR_1_7, kR_1_8, kR_5_0, kR_5_1, kR_5_2, kR_5_3, kR_10_0, kR_11_0, kR_11_1, kR_11_2, kR_11_3, kR_16_0, kR_16_1, kR_17_0, kR_17_1, kR_21_0, kR_21_1, kR_21_2, kR_21_3, kR_26_0, kR_26_1, kR_29_0, kR_29_1, kR_32_0, kR_32_1, kR_35_0, kR_35_1, kR_39_0, kR_41_0, kR_43_0, kR_45_0, kR_47_0, kR_49_0, kR_51_0, kR_53_0, kR_55_0, kR_57_0, kR_59_0, kR_59_1, kR_60_0, kR_60_1, kR_64_0, kR_64_1, kR_65_0, kR_65_1, kR_69_0, kR_69_1, kR_70_0, kR_70_1, kR_74_0, kR_74_1, kR_74_2, kR_74_3, kR_74_4, kR_74_5, kR_74_6, kR_74_7, kR_74_8, kR_74_9, kR_74_13, kR_74_17, kR_74_24, kR_74_25, kR_74_26, kR_74_27, kR_74_28, kR_74_34, kR_74_35, kR_74_36, kL_1_11, kL_1_12, kL_74_15, kL_74_16, kK_39_1, kK_41_1, kK_43_1, kK_45_1, kK_47_1, kK_49_1, kK_51_1, kK_53_1, kK_55_1, kK_57_1, kA_6, kA_7, kA_8, kA_9, kA_12, kA_13, kA_14, kA_15, kA_18, kA_19, kA_20, kA_23, kA_24, kA_25, kA_27, kA_28, kA_30, kA_31, kA_33, kA_34, kA_36, kA_37, kA_38, kA_40, kA_42, kA_44, kA_46, kA_48, kA_50, kA_52, kA_54, kA_56, kA_58, kA_61, kA_62, kA_63, kA_66, kA_67, kA_68, kA_71, kA_72, kA_73, kA_75, kA_76, kA_77, kA_78, kA_79, kA_80, kA_81, kA_82, kA_83, kA_84, kA_85, kA_86, kA_87, kA_88, kA_89, kA_90, kA_91, kA_92, kA_93, kA_94, kQ_2, kQ_3, kQ_4, kQ_22, kC_1, kC_5, kC_10, kC_11, kC_16, kC_17, kC_21, kC_26, kC_29, kC_32, kC_35, kC_39, kC_41, kC_43, kC_45, kC_47, kC_49, kC_51, kC_53, kC_55, kC_57, kC_59, kC_60, kC_64, kC_65, kC_69, kC_70, kC_74, hm, c1, nI_p1, em, g1, r1]
theorem m_layPairs {D : DT} {m : Nat} (hm6 : m ≤ 6) (hm : fI D 74 10 = nI m) : ∃ D', P_X8_layPairs 74 (hp B D) = some ((), hp B D') ∧ LPm D' m ∧ Off Tlp D D' := by
  have o1 : Off Tlp D (uI D 74 29 0) := (Off.refl D).uI _ _ _ (Or.inl ⟨rfl, rfl⟩)
  obtain ⟨D', g1, g2, g3⟩ := lay_out (B := B) hm6 4000 m (uI D 74 29 0) [] (by omega) (Nat.le_refl _) rfl (by rw [fI_uI, if_neg (by omega)]; exact hm) ⟨by rw [fI_uI, if_pos ⟨rfl, rfl⟩]; rfl, fun k h => absurd h (by simp)⟩
  rw [Nat.sub_self, nI_0] at g1
  refine ⟨D', ?_, ⟨g2.1, fun k hk => ?_⟩, o1.trans g3⟩
  · simp only [P_X8_layPairs, pureM_hp, ifB_t, ifB_f, decide_true, decide_false, ifB_hp, jn_hp, retZ_0, retZ_1, thn_some, cll0_w, cllV_w, getI_w, getL_w, getR_w, setI_w, setZ_w0, setZ_w1, setL_w, ald_w, ast_w, alen_w, aldR_2, aldR_3, aldR_4, aldR_22, cll0_pure, ↓reduceIte, if_true, if_false, Bool.false_eq_true, reduceCtorEq, and_true, true_and, and_false, false_and, ite_self, kI_1_9, kI_1_10, kI_5_4, kI_5_5, kI_5_6, kI_10_1, kI_11_4, kI_11_5, kI_11_6, kI_16_2, kI_16_3, kI_16_4, kI_16_5, kI_16_6, kI_17_2, kI_17_3, kI_21_4, kI_21_5, kI_21_6, kI_21_7, kI_21_8, kI_21_9, kI_21_10, kI_21_11, kI_26_2, kI_26_3, kI_29_2, kI_29_3, kI_32_2, kI_32_3, kI_35_2, kI_39_2, kI_39_3, kI_41_2, kI_41_3, kI_43_2, kI_43_3, kI_45_2, kI_45_3, kI_47_2, kI_47_3, kI_49_2, kI_49_3, kI_51_2, kI_51_3, kI_53_2, kI_53_3, kI_55_2, kI_55_3, kI_57_2, kI_57_3, kI_59_2, kI_59_3, kI_59_4, kI_59_5, kI_59_6, kI_60_2, kI_60_3, kI_64_2, kI_64_3, kI_64_4, kI_64_5, kI_64_6, kI_65_2, kI_65_3, kI_69_2, kI_69_3, kI_69_4, kI_69_5, kI_69_6, kI_70_2, kI_70_3, kI_74_10, kI_74_11, kI_74_12, kI_74_14, kI_74_18, kI_74_19, kI_74_20, kI_74_21, kI_74_22, kI_74_23, kI_74_29, kI_74_30, kI_74_31, kI_74_32, kI_74_33, kR_1_0, kR_1_1, kR_1_2, kR_1_3, kR_1_4, kR_1_5, kR_1_6, kR_1_7, kR_1_8, kR_5_0, kR_5_1, kR_5_2, kR_5_3, kR_10_0, kR_11_0, kR_11_1, kR_11_2, kR_11_3, kR_16_0, kR_16_1, kR_17_0, kR_17_1, kR_21_0, kR_21_1, kR_21_2, kR_21_3, kR_26_0, kR_26_1, kR_29_0, kR_29_1, kR_32_0, kR_32_1, kR_35_0, kR_35_1, kR_39_0, kR_41_0, kR_43_0, kR_45_0, kR_47_0, kR_49_0, kR_51_0, kR_53_0, kR_55_0, kR_57_0, kR_59_0, kR_59_1, kR_60_0, kR_60_1, kR_64_0, kR_64_1, kR_65_0, kR_65_1, kR_69_0, kR_69_1, kR_70_0, kR_70_1, kR_74_0, kR_74_1, kR_74_2, kR_74_3, kR_74_4, kR_74_5, kR_74_6, kR_74_7, kR_74_8, kR_74_9, kR_74_13, kR_74_17, kR_74_24, kR_74_25, kR_74_26, kR_74_27, kR_74_28, kR_74_34, kR_74_35, kR_74_36, kL_1_11, kL_1_12, kL_74_15, kL_74_16, kK_39_1, kK_41_1, kK_43_1, kK_45_1, kK_47_1, kK_49_1, kK_51_1, kK_53_1, kK_55_1, kK_57_1, kA_6, kA_7, kA_8, kA_9, kA_12, kA_13, kA_14, kA_15, kA_18, kA_19, kA_20, kA_23, kA_24, kA_25, kA_27, kA_28, kA_30, kA_31, kA_33, kA_34, kA_36, kA_37, kA_38, kA_40, kA_42, kA_44, kA_46, kA_48, kA_50, kA_52, kA_54, kA_56, kA_58, kA_61, kA_62, kA_63, kA_66, kA_67, kA_68, kA_71, kA_72, kA_73, kA_75, kA_76, kA_77, kA_78, kA_79, kA_80, kA_81, kA_82, kA_83, kA_84, kA_85, kA_86, kA_87, kA_88, kA_89, kA_90, kA_91, kA_92, kA_93, kA_94, kQ_2, kQ_3, kQ_4, kQ_22, kC_1, kC_5, kC_10, kC_11, kC_16, kC_17, kC_21, kC_26, kC_29, kC_32, kC_35, kC_39, kC_41, kC_43, kC_45, kC_47, kC_49, kC_51, kC_53, kC_55, kC_57, kC_59, kC_60, kC_64, kC_65, kC_69, kC_70, kC_74, g1]
  · show _ = nI ((prs m).getD k 0)
    rw [getD_get _ _ hk]
    exact g2.2 k hk
theorem m_ways {D : DT} {M n : Nat} (h : fI D 74 29 = nI M) (hn : n ≤ 3) : P_X8_ways 74 (nI n) (hp B D) = some (nI (M ^ n), hp B D) := by
  have lp : ∀ (F k : Nat), k ≤ n → n - k < F → P_X8_ways_4 74 (nI n) F (nI (M ^ k)) (nI k) (hp B D) = some (nI (M ^ n), hp B D) := by
    intro F
    induction F with
    | zero => intro k h1 h2; omega
    | succ F ih =>
      intro k h1 h2
      by_cases e : k = n
      · have c1 : nI n ≤ nI k := by rw [e]; exact nI_le (Nat.le_refl _) (by omega)
        simp only [P_X8_ways_4, pureM_hp, ifB_t, ifB_f, decide_true, decide_false, ifB_hp, jn_hp, retZ_0, retZ_1, thn_some, cll0_w, cllV_w, getI_w, getL_w, getR_w, setI_w, setZ_w0, setZ_w1, setL_w, ald_w, ast_w, alen_w, aldR_2, aldR_3, aldR_4, aldR_22, cll0_pure, ↓reduceIte, if_true, if_false, Bool.false_eq_true, reduceCtorEq, and_true, true_and, and_false, false_and, ite_self, c1]
        rw [e]
      · have c1 : ¬ nI n ≤ nI k := nI_ge (by omega) (by omega)
        have i1 := ih (k + 1) (by omega) (by omega)
        rw [Nat.pow_succ] at i1
        simp only [P_X8_ways_4, pureM_hp, ifB_t, ifB_f, decide_true, decide_false, ifB_hp, jn_hp, retZ_0, retZ_1, thn_some, cll0_w, cllV_w, getI_w, getL_w, getR_w, setI_w, setZ_w0, setZ_w1, setL_w, ald_w, ast_w, alen_w, aldR_2, aldR_3, aldR_4, aldR_22, cll0_pure, ↓reduceIte, if_true, if_false, Bool.false_eq_true, reduceCtorEq, and_true, true_and, and_false, false_and, ite_self, kI_1_9, kI_1_10, kI_5_4, kI_5_5, kI_5_6, kI_10_1, kI_11_4, kI_11_5, kI_11_6, kI_16_2, kI_16_3, kI_16_4, kI_16_5, kI_16_6, kI_17_2, kI_17_3, kI_21_4, kI_21_5, kI_21_6, kI_21_7, kI_21_8, kI_21_9, kI_21_10, kI_21_11, kI_26_2, kI_26_3, kI_29_2, kI_29_3, kI_32_2, kI_32_3, kI_35_2, kI_39_2, kI_39_3, kI_41_2, kI_41_3, kI_43_2, kI_43_3, kI_45_2, kI_45_3, kI_47_2, kI_47_3, kI_49_2, kI_49_3, kI_51_2, kI_51_3, kI_53_2, kI_53_3, kI_55_2, kI_55_3, kI_57_2, kI_57_3, kI_59_2, kI_59_3, kI_59_4, kI_59_5, kI_59_6, kI_60_2, kI_60_3, kI_64_2, kI_64_3, kI_64_4, kI_64_5, kI_64_6, kI_65_2, kI_65_3, kI_69_2, kI_69_3, kI_69_4, kI_69_5, kI_69_6, kI_70_2, kI_70_3, kI_74_10, kI_74_11, kI_74_12, kI_74_14, kI_74_18, kI_74_19, kI_74_20, kI_74_21, kI_74_22, kI_74_23, kI_74_29, kI_74_30, kI_74_31, kI_74_32, kI_74_33, kR_1_0, kR_1_1, kR_1_2, kR_1_3, kR_1_4, kR_1_5, kR_1_6, kR_1_7, kR_1_8, kR_5_0, kR_5_1, kR_5_2, kR_5_3, kR_10_0, kR_11_0, kR_11_1, kR_11_2, kR_11_3, kR_16_0, kR_16_1, kR_17_0, kR_17_1, kR_21_0, kR_21_1, kR_21_2, kR_21_3, kR_26_0, kR_26_1, kR_29_0, kR_29_1, kR_32_0, kR_32_1, kR_35_0, kR_35_1, kR_39_0, kR_41_0, kR_43_0, kR_45_0, kR_47_0, kR_49_0, kR_51_0, kR_53_0, kR_55_0, kR_57_0, kR_59_0, kR_59_1, kR_60_0, kR_60_1, kR_64_0, kR_64_1, kR_65_0, kR_65_1, kR_69_0, kR_69_1, kR_70_0, kR_70_1, kR_74_0, kR_74_1, kR_74_2, kR_74_3, kR_74_4, kR_74_5, kR_74_6, kR_74_7, kR_74_8, kR_74_9, kR_74_13, kR_74_17, kR_74_24, kR_74_25, kR_74_26, kR_74_27, kR_74_28, kR_74_34, kR_74_35, kR_74_36, kL_1_11, kL_1_12, kL_74_15, kL_74_16, kK_39_1, kK_41_1, kK_43_1, kK_45_1, kK_47_1, kK_49_1, kK_51_1, kK_53_1, kK_55_1, kK_57_1, kA_6, kA_7, kA_8, kA_9, kA_12, kA_13, kA_14, kA_15, kA_18, kA_19, kA_20, kA_23, kA_24, kA_25, kA_27, kA_28, kA_30, kA_31, kA_33, kA_34, kA_36, kA_37, kA_38, kA_40, kA_42, kA_44, kA_46, kA_48, kA_50, kA_52, kA_54, kA_56, kA_58, kA_61, kA_62, kA_63, kA_66, kA_67, kA_68, kA_71, kA_72, kA_73, kA_75, kA_76, kA_77, kA_78, kA_79, kA_80, kA_81, kA_82, kA_83, kA_84, kA_85, kA_86, kA_87, kA_88, kA_89, kA_90, kA_91, kA_92, kA_93, kA_94, kQ_2, kQ_3, kQ_4, kQ_22, kC_1, kC_5, kC_10, kC_11, kC_16, kC_17, kC_21, kC_26, kC_29, kC_32, kC_35, kC_39, kC_41, kC_43, kC_45, kC_47, kC_49, kC_51, kC_53, kC_55, kC_57, kC_59, kC_60, kC_64, kC_65, kC_69, kC_70, kC_74, c1, h, pk_mul, nI_p1, i1]
  have t := lp 4000 0 (by omega) (by omega)
  rw [show nI (M ^ 0) = 1 from rfl, nI_0] at t
  exact t
theorem nI_div {a b : Nat} (ha : a < 2 ^ 31) (hb : b < 2 ^ 31) : nI a / nI b = nI (a / b) := by
  have := Nat.div_le_self a b
  rw [eq_i, Int32.toInt_div, nI_toInt ha, nI_toInt hb, nI_toInt (by omega), ← Int.ofNat_tdiv]
  generalize a / b = e at *
  exact Int.bmod_eq_of_le_mul_two (by omega) (by omega)
theorem nI_m1 {a : Nat} (h : 1 ≤ a) (h2 : a < 2 ^ 29) : nI a + (-1) = nI (a - 1) := by
  have e : ((-1 : Int32)).toInt = -1 := rfl
  have ha := nI_toInt (show a < 2 ^ 31 by omega)
  rw [eq_i, add_s (by rw [ha, e]; omega), ha, e, nI_toInt (by omega)]
  omega
theorem dvn_le (M c : Nat) : ∀ k, dvn M c k ≤ c := by
  intro k
  induction k with
  | zero => exact Nat.le_refl _
  | succ k ih => exact Nat.le_trans (Nat.div_le_self _ _) ih
theorem m_pairOf {D : DT} {m n c k : Nat} (hm6 : m ≤ 6) (h0 : 0 < pM m) (h : LPm D m) (hn : n ≤ 3) (hk : k < n) (hc : c < 2 ^ 28) : P_X8_pairOf 74 (nI c) (nI k) (nI n) (hp B D) = some (nI (pn m (dvn (pM m) c (n - 1 - k) % pM m)), hp B D) := by
  have hM : pM m ≤ 15 := (prs_ok hm6).2.1
  have neM : ¬ nI (pM m) = 0 := by rw [nI_z (by omega)]; omega
  have lp : ∀ (K : Int32 → PM Int32) (F i : Nat), k ≤ i → i ≤ n - 1 → i - k < F → P_X8_pairOf_8 K 74 (nI k) F (nI (dvn (pM m) c (n - 1 - i))) (nI i) (hp B D) = K (nI (dvn (pM m) c (n - 1 - k))) (hp B D) := by
    intro K F
    induction F with
    | zero => intro i h1 h2 h3; omega
    | succ F ih =>
      intro i h1 h2 h3
      by_cases e : i = k
      · have c1 : nI i ≤ nI k := by rw [e]; exact nI_le (Nat.le_refl _) (by omega)
        simp only [P_X8_pairOf_8, pureM_hp, ifB_t, ifB_f, decide_true, decide_false, ifB_hp, jn_hp, retZ_0, retZ_1, thn_some, cll0_w, cllV_w, getI_w, getL_w, getR_w, setI_w, setZ_w0, setZ_w1, setL_w, ald_w, ast_w, alen_w, aldR_2, aldR_3, aldR_4, aldR_22, cll0_pure, ↓reduceIte, if_true, if_false, Bool.false_eq_true, reduceCtorEq, and_true, true_and, and_false, false_and, ite_self, c1]
        rw [e]
      · have c1 : ¬ nI i ≤ nI k := nI_ge (by omega) (by omega)
        have i1 := ih (i - 1) (by omega) (by omega) (by omega)
        have hd := dvn_le (pM m) c (n - 1 - i)
        have ed : dvn (pM m) c (n - 1 - i) / pM m = dvn (pM m) c (n - 1 - (i - 1)) := by
          rw [show n - 1 - (i - 1) = (n - 1 - i) + 1 by omega]
          rfl
        have em : nI i + (-1) = nI (i - 1) := nI_m1 (by omega) (by omega)
        simp only [P_X8_pairOf_8, pureM_hp, ifB_t, ifB_f, decide_true, decide_false, ifB_hp, jn_hp, retZ_0, retZ_1, thn_some, cll0_w, cllV_w, getI_w, getL_w, getR_w, setI_w, setZ_w0, setZ_w1, setL_w, ald_w, ast_w, alen_w, aldR_2, aldR_3, aldR_4, aldR_22, cll0_pure, ↓reduceIte, if_true, if_false, Bool.false_eq_true, reduceCtorEq, and_true, true_and, and_false, false_and, ite_self, kI_1_9, kI_1_10, kI_5_4, kI_5_5, kI_5_6, kI_10_1, kI_11_4, kI_11_5, kI_11_6, kI_16_2, kI_16_3, kI_16_4, kI_16_5, kI_16_6, kI_17_2, kI_17_3, kI_21_4, kI_21_5, kI_21_6, kI_21_7, kI_21_8, kI_21_9, kI_21_10, kI_21_11, kI_26_2, kI_26_3, kI_29_2, kI_29_3, kI_32_2, kI_32_3, kI_35_2, kI_39_2, kI_39_3, kI_41_2, kI_41_3, kI_43_2, kI_43_3, kI_45_2, kI_45_3, kI_47_2, kI_47_3, kI_49_2, kI_49_3, kI_51_2, kI_51_3, kI_53_2, kI_53_3, kI_55_2, kI_55_3, kI_57_2, kI_57_3, kI_59_2, kI_59_3, kI_59_4, kI_59_5, kI_59_6, kI_60_2, kI_60_3, kI_64_2, kI_64_3, kI_64_4, kI_64_5, kI_64_6, kI_65_2, kI_65_3, kI_69_2, kI_69_3, kI_69_4, kI_69_5, kI_69_6, kI_70_2, kI_70_3, kI_74_10, kI_74_11, kI_74_12, kI_74_14, kI_74_18, kI_74_19, kI_74_20, kI_74_21, kI_74_22, kI_74_23, kI_74_29, kI_74_30, kI_74_31, kI_74_32, kI_74_33, kR_1_0, kR_1_1, kR_1_2, kR_1_3, kR_1_4, kR_1_5, kR_1_6, kR_1_7, kR_1_8, kR_5_0, kR_5_1, kR_5_2, kR_5_3, kR_10_0, kR_11_0, kR_11_1, kR_11_2, kR_11_3, kR_16_0, kR_16_1, kR_17_0, kR_17_1, kR_21_0, kR_21_1, kR_21_2, kR_21_3, kR_26_0, kR_26_1, kR_29_0, kR_29_1, kR_32_0, kR_32_1, kR_35_0, kR_35_1, kR_39_0, kR_41_0, kR_43_0, kR_45_0, kR_47_0, kR_49_0, kR_51_0, kR_53_0, kR_55_0, kR_57_0, kR_59_0, kR_59_1, kR_60_0, kR_60_1, kR_64_0, kR_64_1, kR_65_0, kR_65_1, kR_69_0, kR_69_1, kR_70_0, kR_70_1, kR_74_0, kR_74_1, kR_74_2, kR_74_3, kR_74_4, kR_74_5, kR_74_6, kR_74_7, kR_74_8, kR_74_9, kR_74_13, kR_74_17, kR_74_24, kR_74_25, kR_74_26, kR_74_27, kR_74_28, kR_74_34, kR_74_35, kR_74_36, kL_1_11, kL_1_12, kL_74_15, kL_74_16, kK_39_1, kK_41_1, kK_43_1, kK_45_1, kK_47_1, kK_49_1, kK_51_1, kK_53_1, kK_55_1, kK_57_1, kA_6, kA_7, kA_8, kA_9, kA_12, kA_13, kA_14, kA_15, kA_18, kA_19, kA_20, kA_23, kA_24, kA_25, kA_27, kA_28, kA_30, kA_31, kA_33, kA_34, kA_36, kA_37, kA_38, kA_40, kA_42, kA_44, kA_46, kA_48, kA_50, kA_52, kA_54, kA_56, kA_58, kA_61, kA_62, kA_63, kA_66, kA_67, kA_68, kA_71, kA_72, kA_73, kA_75, kA_76, kA_77, kA_78, kA_79, kA_80, kA_81, kA_82, kA_83, kA_84, kA_85, kA_86, kA_87, kA_88, kA_89, kA_90, kA_91, kA_92, kA_93, kA_94, kQ_2, kQ_3, kQ_4, kQ_22, kC_1, kC_5, kC_10, kC_11, kC_16, kC_17, kC_21, kC_26, kC_29, kC_32, kC_35, kC_39, kC_41, kC_43, kC_45, kC_47, kC_49, kC_51, kC_53, kC_55, kC_57, kC_59, kC_60, kC_64, kC_65, kC_69, kC_70, kC_74, c1, h.1, divI_hp _ _ _ neM, nI_div (show dvn (pM m) c (n - 1 - i) < 2 ^ 31 by omega) (show pM m < 2 ^ 31 by omega), ed, em, i1]
  have en : nI n - 1 = nI (n - 1) := pk_sub (b := 1) (by omega)
  have t := fun K => lp K 4000 (n - 1) (by omega) (Nat.le_refl _) (by omega)
  rw [Nat.sub_self, show dvn (pM m) c 0 = c from rfl] at t
  have hd := dvn_le (pM m) c (n - 1 - k)
  have hq := Nat.mod_lt (dvn (pM m) c (n - 1 - k)) h0
  have cx : 0 ≤ (nI (dvn (pM m) c (n - 1 - k) % pM m)).toInt ∧ (nI (dvn (pM m) c (n - 1 - k) % pM m)).toInt < ((15 : Nat) : Int) := ixc (by omega) (by omega)
  simp only [P_X8_pairOf, pureM_hp, ifB_t, ifB_f, decide_true, decide_false, ifB_hp, jn_hp, retZ_0, retZ_1, thn_some, cll0_w, cllV_w, getI_w, getL_w, getR_w, setI_w, setZ_w0, setZ_w1, setL_w, ald_w, ast_w, alen_w, aldR_2, aldR_3, aldR_4, aldR_22, cll0_pure, ↓reduceIte, if_true, if_false, Bool.false_eq_true, reduceCtorEq, and_true, true_and, and_false, false_and, ite_self, kI_1_9, kI_1_10, kI_5_4, kI_5_5, kI_5_6, kI_10_1, kI_11_4, kI_11_5, kI_11_6, kI_16_2, kI_16_3, kI_16_4, kI_16_5, kI_16_6, kI_17_2, kI_17_3, kI_21_4, kI_21_5, kI_21_6, kI_21_7, kI_21_8, kI_21_9, kI_21_10, kI_21_11, kI_26_2, kI_26_3, kI_29_2, kI_29_3, kI_32_2, kI_32_3, kI_35_2, kI_39_2, kI_39_3, kI_41_2, kI_41_3, kI_43_2, kI_43_3, kI_45_2, kI_45_3, kI_47_2, kI_47_3, kI_49_2, kI_49_3, kI_51_2, kI_51_3, kI_53_2, kI_53_3, kI_55_2, kI_55_3, kI_57_2, kI_57_3, kI_59_2, kI_59_3, kI_59_4, kI_59_5, kI_59_6, kI_60_2, kI_60_3, kI_64_2, kI_64_3, kI_64_4, kI_64_5, kI_64_6, kI_65_2, kI_65_3, kI_69_2, kI_69_3, kI_69_4, kI_69_5, kI_69_6, kI_70_2, kI_70_3, kI_74_10, kI_74_11, kI_74_12, kI_74_14, kI_74_18, kI_74_19, kI_74_20, kI_74_21, kI_74_22, kI_74_23, kI_74_29, kI_74_30, kI_74_31, kI_74_32, kI_74_33, kR_1_0, kR_1_1, kR_1_2, kR_1_3, kR_1_4, kR_1_5, kR_1_6, kR_1_7, kR_1_8, kR_5_0, kR_5_1, kR_5_2, kR_5_3, kR_10_0, kR_11_0, kR_11_1, kR_11_2, kR_11_3, kR_16_0, kR_16_1, kR_17_0, kR_17_1, kR_21_0, kR_21_1, kR_21_2, kR_21_3, kR_26_0, kR_26_1, kR_29_0, kR_29_1, kR_32_0, kR_32_1, kR_35_0, kR_35_1, kR_39_0, kR_41_0, kR_43_0, kR_45_0, kR_47_0, kR_49_0, kR_51_0, kR_53_0, kR_55_0, kR_57_0, kR_59_0, kR_59_1, kR_60_0, kR_60_1, kR_64_0, kR_64_1, kR_65_0, kR_65_1, kR_69_0, kR_69_1, kR_70_0, kR_70_1, kR_74_0, kR_74_1, kR_74_2, kR_74_3, kR_74_4, kR_74_5, kR_74_6, kR_74_7, kR_74_8, kR_74_9, kR_74_13, kR_74_17, kR_74_24, kR_74_25, kR_74_26, kR_74_27, kR_74_28, kR_74_34, kR_74_35, kR_74_36, kL_1_11, kL_1_12, kL_74_15, kL_74_16, kK_39_1, kK_41_1, kK_43_1, kK_45_1, kK_47_1, kK_49_1, kK_51_1, kK_53_1, kK_55_1, kK_57_1, kA_6, kA_7, kA_8, kA_9, kA_12, kA_13, kA_14, kA_15, kA_18, kA_19, kA_20, kA_23, kA_24, kA_25, kA_27, kA_28, kA_30, kA_31, kA_33, kA_34, kA_36, kA_37, kA_38, kA_40, kA_42, kA_44, kA_46, kA_48, kA_50, kA_52, kA_54, kA_56, kA_58, kA_61, kA_62, kA_63, kA_66, kA_67, kA_68, kA_71, kA_72, kA_73, kA_75, kA_76, kA_77, kA_78, kA_79, kA_80, kA_81, kA_82, kA_83, kA_84, kA_85, kA_86, kA_87, kA_88, kA_89, kA_90, kA_91, kA_92, kA_93, kA_94, kQ_2, kQ_3, kQ_4, kQ_22, kC_1, kC_5, kC_10, kC_11, kC_16, kC_17, kC_21, kC_26, kC_29, kC_32, kC_35, kC_39, kC_41, kC_43, kC_45, kC_47, kC_49, kC_51, kC_53, kC_55, kC_57, kC_59, kC_60, kC_64, kC_65, kC_69, kC_70, kC_74, en, t, h.1, remI_hp _ _ _ neM, nI_mod (show dvn (pM m) c (n - 1 - k) < 2 ^ 31 by omega) (show pM m < 2 ^ 31 by omega), cx, nI_clamp (show dvn (pM m) c (n - 1 - k) % pM m < 2 ^ 31 by omega), h.2 _ hq]
theorem m_pairOf' {D : DT} {m n c k : Nat} (hm6 : m ≤ 6) (h0 : 0 < pM m) (h : LPm D m) (hn : n ≤ 3) (hk : k < n) (hc : c < 2 ^ 28) : P_X8_pairOf 74 (nI c) (nI k) (nI n) (hp B D) = some (nI ((dgm m n c).getD k 0), hp B D) := by
  rw [m_pairOf hm6 h0 h hn hk hc, dg_get (pn m) (pM m) c hn hk]
/-- watches by a code -/
abbrev eW (m n c : Nat) : Nat → Int32 := fun k => nI ((dgm m n c).getD k 0)
theorem eW_ok {m n c k : Nat} (hm6 : m ≤ 6) (h0 : 0 < pM m) (hk : k < n) : ∃ i j, i < j ∧ j < m ∧ (dgm m n c).getD k 0 = 10 * i + j := by
  have h1 : k < (dgm m n c).length := by rw [dg_len]; exact hk
  rw [getD_get _ _ h1]
  have h2 := dgm_mem h0 n c _ (List.getElem_mem h1)
  generalize (dgm m n c)[k] = d at h2
  obtain ⟨h3, h4, h5⟩ := (prs_ok hm6).1 d h2
  exact ⟨d / 10, d % 10, h3, h4, by omega⟩
theorem eW_W {a m n c : Nat} {q : QT} {H : HT} (hv : QV m q) (hm6 : m ≤ 6) (h0 : 0 < pM m) (hH : HW a m H) : ∀ k, k ≤ n → HW (a + k) m (rnW q H (eW m n c) k) := by
  intro k
  induction k with
  | zero => intro _; exact hH
  | succ k ih =>
    intro h
    obtain ⟨i, j, h1, h2, h3⟩ := eW_ok (c := c) hm6 h0 (show k < n by omega)
    rw [rnW_s (g := eW m n c) (i := i) (j := j) (by show nI _ = _; rw [h3]) (by omega) (by omega)]
    exact wat_W hv (ih (by omega)) (by omega) h2
theorem eW_L {m n c : Nat} (q : QT) (H : HT) (hm6 : m ≤ 6) (h0 : 0 < pM m) (hn : n ≤ 3) : rnW q H (eW m n c) n = rnL q H (dgm m n c) := by
  have := rnW_L q H (dgm m n c) (by rw [dg_len]; exact hn) (fun d hd => ((prs_ok hm6).1 d (dgm_mem h0 n c d hd)).2.2)
  rw [dg_len] at this
  exact this
def T79 : Nat → Nat → Prop := fun a k => a = 79 ∧ k = 63
theorem m_step {D : DT} {m n c k : Nat} {q : QT} {H : HT} (hv : QV m q) (hm6 : m ≤ 6) (h0 : 0 < pM m) (hW : HW 40 m H) (hF : MF D m q) (hn : n ≤ 3) (hk : k < n) (hX : MH D 11 (rnW q H (eW m n c) k)) :
    ∃ gg : Nat → Int32, P_X8_watchBy 74 (nI ((dgm m n c).getD k 0)) (hp B D) = some ((), hp B (uG D 79 gg)) ∧ MH (uG D 79 gg) 11 (rnW q H (eW m n c) (k + 1)) ∧ ∀ t, (t < 11 ∨ 22 ≤ t) → gg t = fG D 79 t := by
  obtain ⟨i, j, h1, h2, h3⟩ := eW_ok (c := c) hm6 h0 hk
  have hV : HV m (rnW q H (eW m n c) k) := (eW_W hv hm6 h0 hW k (by omega)).v (by omega)
  obtain ⟨gg, p1, p2, p3⟩ := m_watchBy (B := B) hF hX hV hm6 (show i < m by omega) h2
  rw [← rnW_s (g := eW m n c) (i := i) (j := j) (by show nI _ = _; rw [h3]) (by omega) (by omega)] at p2
  rw [h3]
  exact ⟨gg, p1, p2, p3⟩
theorem m_behind {D : DT} {m n c : Nat} {q : QT} {H : HT} (hv : QV m q) (hm6 : m ≤ 6) (h0 : 0 < pM m) (hW : HW 40 m H) (hF : MF D m q) (hX : MH D 0 H) (hL : LPm D m) (hn : n ≤ 3) (hc : c < 2 ^ 28) :
    ∃ D', P_X8_behind 74 (nI c) (nI n) (hp B D) = some ((rnL q H (dgm m n c)).1, hp B D') ∧ Off T79 D D' ∧ ∀ t, (t < 11 ∨ 22 ≤ t) → fG D' 79 t = fG D 79 t := by
  have lp : ∀ (K : PM Int32) (F k : Nat) (D : DT), k ≤ n → n - k < F → MF D m q → LPm D m → MH D 11 (rnW q H (eW m n c) k) → ∃ D', P_X8_behind_11 K 74 (nI c) (nI n) F (nI k) (hp B D) = K (hp B D') ∧ MH D' 11 (rnW q H (eW m n c) n) ∧ Off T79 D D' ∧ ∀ t, (t < 11 ∨ 22 ≤ t) → fG D' 79 t = fG D 79 t := by
    intro K F
    induction F with
    | zero => intro k D h1 h2; omega
    | succ F ih =>
      intro k D h1 h2 hF hL hX
      by_cases e : k = n
      · have c1 : nI n ≤ nI k := by rw [e]; exact nI_le (Nat.le_refl _) (by omega)
        refine ⟨D, ?_, by have z := hX; rw [e] at z; exact z, Off.refl D, fun t _ => rfl⟩
        simp only [P_X8_behind_11, pureM_hp, ifB_t, ifB_f, decide_true, decide_false, ifB_hp, jn_hp, retZ_0, retZ_1, thn_some, cll0_w, cllV_w, getI_w, getL_w, getR_w, setI_w, setZ_w0, setZ_w1, setL_w, ald_w, ast_w, alen_w, aldR_2, aldR_3, aldR_4, aldR_22, cll0_pure, ↓reduceIte, if_true, if_false, Bool.false_eq_true, reduceCtorEq, and_true, true_and, and_false, false_and, ite_self, c1]
      · have c1 : ¬ nI n ≤ nI k := nI_ge (by omega) (by omega)
        have hp' := m_pairOf' (B := B) (D := D) (c := c) hm6 h0 hL hn (show k < n by omega) hc
        obtain ⟨gg, p1, p2, p3⟩ := m_step (B := B) hv hm6 h0 hW hF hn (show k < n by omega) hX
        have o1 : Off T79 D (uG D 79 gg) := (Off.refl D).uG _ _ ⟨rfl, rfl⟩
        obtain ⟨D', r1, r2, r3, r4⟩ := ih (k + 1) (uG D 79 gg) (by omega) (by omega) (hF.off o1 (by unfold T79; omega) (fun a q1 q2 => by unfold T79; omega)) (hL.off o1 (by unfold T79; omega) (by unfold T79; omega)) p2
        refine ⟨D', ?_, r2, o1.trans r3, fun t ht => by rw [r4 t ht, fG_uG, if_pos rfl, p3 t ht]⟩
        simp only [P_X8_behind_11, pureM_hp, ifB_t, ifB_f, decide_true, decide_false, ifB_hp, jn_hp, retZ_0, retZ_1, thn_some, cll0_w, cllV_w, getI_w, getL_w, getR_w, setI_w, setZ_w0, setZ_w1, setL_w, ald_w, ast_w, alen_w, aldR_2, aldR_3, aldR_4, aldR_22, cll0_pure, ↓reduceIte, if_true, if_false, Bool.false_eq_true, reduceCtorEq, and_true, true_and, and_false, false_and, ite_self, kI_1_9, kI_1_10, kI_5_4, kI_5_5, kI_5_6, kI_10_1, kI_11_4, kI_11_5, kI_11_6, kI_16_2, kI_16_3, kI_16_4, kI_16_5, kI_16_6, kI_17_2, kI_17_3, kI_21_4, kI_21_5, kI_21_6, kI_21_7, kI_21_8, kI_21_9, kI_21_10, kI_21_11, kI_26_2, kI_26_3, kI_29_2, kI_29_3, kI_32_2, kI_32_3, kI_35_2, kI_39_2, kI_39_3, kI_41_2, kI_41_3, kI_43_2, kI_43_3, kI_45_2, kI_45_3, kI_47_2, kI_47_3, kI_49_2, kI_49_3, kI_51_2, kI_51_3, kI_53_2, kI_53_3, kI_55_2, kI_55_3, kI_57_2, kI_57_3, kI_59_2, kI_59_3, kI_59_4, kI_59_5, kI_59_6, kI_60_2, kI_60_3, kI_64_2, kI_64_3, kI_64_4, kI_64_5, kI_64_6, kI_65_2, kI_65_3, kI_69_2, kI_69_3, kI_69_4, kI_69_5, kI_69_6, kI_70_2, kI_70_3, kI_74_10, kI_74_11, kI_74_12, kI_74_14, kI_74_18, kI_74_19, kI_74_20, kI_74_21, kI_74_22, kI_74_23, kI_74_29, kI_74_30, kI_74_31, kI_74_32, kI_74_33, kR_1_0, kR_1_1, kR_1_2, kR_1_3, kR_1_4, kR_1_5, kR_1_6, kR_1_7, kR_1_8, kR_5_0, kR_5_1, kR_5_2, kR_5_3, kR_10_0, kR_11_0, kR_11_1, kR_11_2, kR_11_3, kR_16_0, kR_16_1, kR_17_0, kR_17_1, kR_21_0, kR_21_1, kR_21_2, kR_21_3, kR_26_0, kR_26_1, kR_29_0, kR_29_1, kR_32_0, kR_32_1, kR_35_0, kR_35_1, kR_39_0, kR_41_0, kR_43_0, kR_45_0, kR_47_0, kR_49_0, kR_51_0, kR_53_0, kR_55_0, kR_57_0, kR_59_0, kR_59_1, kR_60_0, kR_60_1, kR_64_0, kR_64_1, kR_65_0, kR_65_1, kR_69_0, kR_69_1, kR_70_0, kR_70_1, kR_74_0, kR_74_1, kR_74_2, kR_74_3, kR_74_4, kR_74_5, kR_74_6, kR_74_7, kR_74_8, kR_74_9, kR_74_13, kR_74_17, kR_74_24, kR_74_25, kR_74_26, kR_74_27, kR_74_28, kR_74_34, kR_74_35, kR_74_36, kL_1_11, kL_1_12, kL_74_15, kL_74_16, kK_39_1, kK_41_1, kK_43_1, kK_45_1, kK_47_1, kK_49_1, kK_51_1, kK_53_1, kK_55_1, kK_57_1, kA_6, kA_7, kA_8, kA_9, kA_12, kA_13, kA_14, kA_15, kA_18, kA_19, kA_20, kA_23, kA_24, kA_25, kA_27, kA_28, kA_30, kA_31, kA_33, kA_34, kA_36, kA_37, kA_38, kA_40, kA_42, kA_44, kA_46, kA_48, kA_50, kA_52, kA_54, kA_56, kA_58, kA_61, kA_62, kA_63, kA_66, kA_67, kA_68, kA_71, kA_72, kA_73, kA_75, kA_76, kA_77, kA_78, kA_79, kA_80, kA_81, kA_82, kA_83, kA_84, kA_85, kA_86, kA_87, kA_88, kA_89, kA_90, kA_91, kA_92, kA_93, kA_94, kQ_2, kQ_3, kQ_4, kQ_22, kC_1, kC_5, kC_10, kC_11, kC_16, kC_17, kC_21, kC_26, kC_29, kC_32, kC_35, kC_39, kC_41, kC_43, kC_45, kC_47, kC_49, kC_51, kC_53, kC_55, kC_57, kC_59, kC_60, kC_64, kC_65, kC_69, kC_70, kC_74, c1, hp', p1, nI_p1, r1]
  obtain ⟨gg, c1, c2, c3⟩ := m_aside (B := B) hX
  have o1 : Off T79 D (uG D 79 gg) := (Off.refl D).uG _ _ ⟨rfl, rfl⟩
  obtain ⟨D', r1, r2, r3, r4⟩ := lp (getR 8 4 74 fun v1 => ald v1 11 fun v2 => pureM v2) 4000 0 (uG D 79 gg) (by omega) (by omega) (hF.off o1 (by unfold T79; omega) (fun a q1 q2 => by unfold T79; omega)) (hL.off o1 (by unfold T79; omega) (by unfold T79; omega)) c2
  rw [nI_0] at r1
  have st : fG D' 79 11 = (rnL q H (dgm m n c)).1 := by rw [← eW_L q H hm6 h0 hn]; exact r2.1
  have n11 : (11 : Int32).toNatClampNeg = 11 := rfl
  have t11 : (11 : Int32).toInt = 11 := rfl
  have b11 : (0 : Int) ≤ 11 ∧ (11 : Int) < ((1848 : Nat) : Int) := by omega
  refine ⟨D', ?_, o1.trans r3, fun t ht => by rw [r4 t ht, fG_uG, if_pos rfl, c3 t ht]⟩
  simp only [P_X8_behind, pureM_hp, ifB_t, ifB_f, decide_true, decide_false, ifB_hp, jn_hp, retZ_0, retZ_1, thn_some, cll0_w, cllV_w, getI_w, getL_w, getR_w, setI_w, setZ_w0, setZ_w1, setL_w, ald_w, ast_w, alen_w, aldR_2, aldR_3, aldR_4, aldR_22, cll0_pure, ↓reduceIte, if_true, if_false, Bool.false_eq_true, reduceCtorEq, and_true, true_and, and_false, false_and, ite_self, kI_1_9, kI_1_10, kI_5_4, kI_5_5, kI_5_6, kI_10_1, kI_11_4, kI_11_5, kI_11_6, kI_16_2, kI_16_3, kI_16_4, kI_16_5, kI_16_6, kI_17_2, kI_17_3, kI_21_4, kI_21_5, kI_21_6, kI_21_7, kI_21_8, kI_21_9, kI_21_10, kI_21_11, kI_26_2, kI_26_3, kI_29_2, kI_29_3, kI_32_2, kI_32_3, kI_35_2, kI_39_2, kI_39_3, kI_41_2, kI_41_3, kI_43_2, kI_43_3, kI_45_2, kI_45_3, kI_47_2, kI_47_3, kI_49_2, kI_49_3, kI_51_2, kI_51_3, kI_53_2, kI_53_3, kI_55_2, kI_55_3, kI_57_2, kI_57_3, kI_59_2, kI_59_3, kI_59_4, kI_59_5, kI_59_6, kI_60_2, kI_60_3, kI_64_2, kI_64_3, kI_64_4, kI_64_5, kI_64_6, kI_65_2, kI_65_3, kI_69_2, kI_69_3, kI_69_4, kI_69_5, kI_69_6, kI_70_2, kI_70_3, kI_74_10, kI_74_11, kI_74_12, kI_74_14, kI_74_18, kI_74_19, kI_74_20, kI_74_21, kI_74_22, kI_74_23, kI_74_29, kI_74_30, kI_74_31, kI_74_32, kI_74_33, kR_1_0, kR_1_1, kR_1_2, kR_1_3, kR_1_4, kR_1_5, kR_1_6, kR_1_7, kR_1_8, kR_5_0, kR_5_1, kR_5_2, kR_5_3, kR_10_0, kR_11_0, kR_11_1, kR_11_2, kR_11_3, kR_16_0, kR_16_1, kR_17_0, kR_17_1, kR_21_0, kR_21_1, kR_21_2, kR_21_3, kR_26_0, kR_26_1, kR_29_0, kR_29_1, kR_32_0, kR_32_1, kR_35_0, kR_35_1, kR_39_0, kR_41_0, kR_43_0, kR_45_0, kR_47_0, kR_49_0, kR_51_0, kR_53_0, kR_55_0, kR_57_0, kR_59_0, kR_59_1, kR_60_0, kR_60_1, kR_64_0, kR_64_1, kR_65_0, kR_65_1, kR_69_0, kR_69_1, kR_70_0, kR_70_1, kR_74_0, kR_74_1, kR_74_2, kR_74_3, kR_74_4, kR_74_5, kR_74_6, kR_74_7, kR_74_8, kR_74_9, kR_74_13, kR_74_17, kR_74_24, kR_74_25, kR_74_26, kR_74_27, kR_74_28, kR_74_34, kR_74_35, kR_74_36, kL_1_11, kL_1_12, kL_74_15, kL_74_16, kK_39_1, kK_41_1, kK_43_1, kK_45_1, kK_47_1, kK_49_1, kK_51_1, kK_53_1, kK_55_1, kK_57_1, kA_6, kA_7, kA_8, kA_9, kA_12, kA_13, kA_14, kA_15, kA_18, kA_19, kA_20, kA_23, kA_24, kA_25, kA_27, kA_28, kA_30, kA_31, kA_33, kA_34, kA_36, kA_37, kA_38, kA_40, kA_42, kA_44, kA_46, kA_48, kA_50, kA_52, kA_54, kA_56, kA_58, kA_61, kA_62, kA_63, kA_66, kA_67, kA_68, kA_71, kA_72, kA_73, kA_75, kA_76, kA_77, kA_78, kA_79, kA_80, kA_81, kA_82, kA_83, kA_84, kA_85, kA_86, kA_87, kA_88, kA_89, kA_90, kA_91, kA_92, kA_93, kA_94, kQ_2, kQ_3, kQ_4, kQ_22, kC_1, kC_5, kC_10, kC_11, kC_16, kC_17, kC_21, kC_26, kC_29, kC_32, kC_35, kC_39, kC_41, kC_43, kC_45, kC_47, kC_49, kC_51, kC_53, kC_55, kC_57, kC_59, kC_60, kC_64, kC_65, kC_69, kC_70, kC_74, c1, r1, n11, t11, b11, st]
end CODES
