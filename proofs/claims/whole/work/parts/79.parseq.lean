/-! The reference reads: quarrels, all of it. -/
section PARSEQ
variable {B : BT}
/-- what is left behind the first figure -/
def quT (v2 v3 : Int32) : PM Unit := getI 8 19 74 fun v4 => jn (fun (j5 : Nat) (j6 : Int32) => cllV 8 j5 (P_X8_want j5 j6 v2) fun v7 => getI 8 18 74 fun v8 => cllV 8 74 (P_X8_figure 74) fun v9 => getI 8 19 74 fun v10 => jn (fun (j11 : Nat) (j12 : Int32) => cllV 8 j11 (P_X8_want j11 j12 v8) fun v13 => ifB (decide (v13 = 0)) (pureM ()) (getR 8 27 74 fun v14 => ald v14 v3 fun v15 => ast v14 v3 (v15 ||| (1 <<< (v9 &&& 31))) <| getR 8 27 74 fun v16 => ald v16 v9 fun v17 => ast v16 v9 (v17 ||| (1 <<< (v3 &&& 31))) <| pureM ())) fun k18 => jn (fun (j19 : Nat) => k18 j19 1) fun k20 => ifB (decide (¬ v10 = ((-9)))) (k20 74) (getI 8 21 74 fun v21 => jn (fun (j22 : Nat) => k18 j22 0) fun k23 => ifB (decide (v21 ≤ v9)) (k23 74) (ifB (decide (v9 = v3)) (k23 74) (k20 74)))) fun k24 => jn (fun (j25 : Nat) => k24 j25 1) fun k26 => ifB (decide (¬ v4 = ((-9)))) (k26 74) (getI 8 21 74 fun v27 => ifB (decide (v27 ≤ v3)) (k24 74 0) (k26 74))
/-- behind the second -/
def quU (v3 v8 v9 : Int32) : PM Unit := getI 8 19 74 fun v10 => jn (fun (j11 : Nat) (j12 : Int32) => cllV 8 j11 (P_X8_want j11 j12 v8) fun v13 => ifB (decide (v13 = 0)) (pureM ()) (getR 8 27 74 fun v14 => ald v14 v3 fun v15 => ast v14 v3 (v15 ||| (1 <<< (v9 &&& 31))) <| getR 8 27 74 fun v16 => ald v16 v9 fun v17 => ast v16 v9 (v17 ||| (1 <<< (v3 &&& 31))) <| pureM ())) fun k18 => jn (fun (j19 : Nat) => k18 j19 1) fun k20 => ifB (decide (¬ v10 = ((-9)))) (k20 74) (getI 8 21 74 fun v21 => jn (fun (j22 : Nat) => k18 j22 0) fun k23 => ifB (decide (v21 ≤ v9)) (k23 74) (ifB (decide (v9 = v3)) (k23 74) (k20 74)))
theorem quU_no {D : DT} {f : Nat} (hf : f < 1000) (h : fI D 74 19 = nI f) (v3 v8 v9 : Int32) : quU v3 v8 v9 (hp B D) = some ((), hp B D) := by
  unfold quU
  simp only [pureM_hp, ifB_t, ifB_f, decide_true, decide_false, ifB_hp, jn_hp, retZ_0, retZ_1, thn_some, cll0_w, cllV_w, getI_w, getL_w, getR_w, setI_w, setZ_w0, setZ_w1, setL_w, ald_w, ast_w, alen_w, aldR_2, aldR_3, aldR_4, aldR_22, cll0_pure, ↓reduceIte, if_true, if_false, Bool.false_eq_true, reduceCtorEq, and_true, true_and, and_false, false_and, ite_self, kI_1_9, kI_1_10, kI_5_4, kI_5_5, kI_5_6, kI_10_1, kI_11_4, kI_11_5, kI_11_6, kI_16_2, kI_16_3, kI_16_4, kI_16_5, kI_16_6, kI_17_2, kI_17_3, kI_21_4, kI_21_5, kI_21_6, kI_21_7, kI_21_8, kI_21_9, kI_21_10, kI_21_11, kI_26_2, kI_26_3, kI_29_2, kI_29_3, kI_32_2, kI_32_3, kI_35_2, kI_39_2, kI_39_3, kI_41_2, kI_41_3, kI_43_2, kI_43_3, kI_45_2, kI_45_3, kI_47_2, kI_47_3, kI_49_2, kI_49_3, kI_51_2, kI_51_3, kI_53_2, kI_53_3, kI_55_2, kI_55_3, kI_57_2, kI_57_3, kI_59_2, kI_59_3, kI_59_4, kI_59_5, kI_59_6, kI_60_2, kI_60_3, kI_64_2, kI_64_3, kI_64_4, kI_64_5, kI_64_6, kI_65_2, kI_65_3, kI_69_2, kI_69_3, kI_69_4, kI_69_5, kI_69_6, kI_70_2, kI_70_3, kI_74_10, kI_74_11, kI_74_12, kI_74_14, kI_74_18, kI_74_19, kI_74_20, kI_74_21, kI_74_22, kI_74_23, kI_74_29, kI_74_30, kI_74_31, kI_74_32, kI_74_33, kR_1_0, kR_1_1, kR_1_2, kR_1_3, kR_1_4, kR_1_5, kR_1_6, kR_1_7, kR_1_8, kR_5_0, kR_5_1, kR_5_2, kR_5_3, kR_10_0, kR_11_0, kR_11_1, kR_11_2, kR_11_3, kR_16_0, kR_16_1, kR_17_0, kR_17_1, kR_21_0, kR_21_1, kR_21_2, kR_21_3, kR_26_0, kR_26_1, kR_29_0, kR_29_1, kR_32_0, kR_32_1, kR_35_0, kR_35_1, kR_39_0, kR_41_0, kR_43_0, kR_45_0, kR_47_0, kR_49_0, kR_51_0, kR_53_0, kR_55_0, kR_57_0, kR_59_0, kR_59_1, kR_60_0, kR_60_1, kR_64_0, kR_64_1, kR_65_0, kR_65_1, kR_69_0, kR_69_1, kR_70_0, kR_70_1, kR_74_0, kR_74_1, kR_74_2, kR_74_3, kR_74_4, kR_74_5, kR_74_6, kR_74_7, kR_74_8, kR_74_9, kR_74_13, kR_74_17, kR_74_24, kR_74_25, kR_74_26, kR_74_27, kR_74_28, kR_74_34, kR_74_35, kR_74_36, kL_1_11, kL_1_12, kL_74_15, kL_74_16, kK_39_1, kK_41_1, kK_43_1, kK_45_1, kK_47_1, kK_49_1, kK_51_1, kK_53_1, kK_55_1, kK_57_1, kA_6, kA_7, kA_8, kA_9, kA_12, kA_13, kA_14, kA_15, kA_18, kA_19, kA_20, kA_23, kA_24, kA_25, kA_27, kA_28, kA_30, kA_31, kA_33, kA_34, kA_36, kA_37, kA_38, kA_40, kA_42, kA_44, kA_46, kA_48, kA_50, kA_52, kA_54, kA_56, kA_58, kA_61, kA_62, kA_63, kA_66, kA_67, kA_68, kA_71, kA_72, kA_73, kA_75, kA_76, kA_77, kA_78, kA_79, kA_80, kA_81, kA_82, kA_83, kA_84, kA_85, kA_86, kA_87, kA_88, kA_89, kA_90, kA_91, kA_92, kA_93, kA_94, kQ_2, kQ_3, kQ_4, kQ_22, kC_1, kC_5, kC_10, kC_11, kC_16, kC_17, kC_21, kC_26, kC_29, kC_32, kC_35, kC_39, kC_41, kC_43, kC_45, kC_47, kC_49, kC_51, kC_53, kC_55, kC_57, kC_59, kC_60, kC_64, kC_65, kC_69, kC_70, kC_74, h, ne9g hf, not_false_eq_true, w_no hf h]
theorem quT_no {D : DT} {t n p f : Nat} {g : Nat → Int32} (ht : t < 4) (hT : MSt D t n g) (h18 : fI D 74 18 = nI p) (hp64 : p ≤ 100) (hf : f < 1000) (h : fI D 74 19 = nI f) (v2 v3 : Int32) : quT v2 v3 (hp B D) = some ((), hp B D) := by
  unfold quT
  simp only [pureM_hp, ifB_t, ifB_f, decide_true, decide_false, ifB_hp, jn_hp, retZ_0, retZ_1, thn_some, cll0_w, cllV_w, getI_w, getL_w, getR_w, setI_w, setZ_w0, setZ_w1, setL_w, ald_w, ast_w, alen_w, aldR_2, aldR_3, aldR_4, aldR_22, cll0_pure, ↓reduceIte, if_true, if_false, Bool.false_eq_true, reduceCtorEq, and_true, true_and, and_false, false_and, ite_self, kI_1_9, kI_1_10, kI_5_4, kI_5_5, kI_5_6, kI_10_1, kI_11_4, kI_11_5, kI_11_6, kI_16_2, kI_16_3, kI_16_4, kI_16_5, kI_16_6, kI_17_2, kI_17_3, kI_21_4, kI_21_5, kI_21_6, kI_21_7, kI_21_8, kI_21_9, kI_21_10, kI_21_11, kI_26_2, kI_26_3, kI_29_2, kI_29_3, kI_32_2, kI_32_3, kI_35_2, kI_39_2, kI_39_3, kI_41_2, kI_41_3, kI_43_2, kI_43_3, kI_45_2, kI_45_3, kI_47_2, kI_47_3, kI_49_2, kI_49_3, kI_51_2, kI_51_3, kI_53_2, kI_53_3, kI_55_2, kI_55_3, kI_57_2, kI_57_3, kI_59_2, kI_59_3, kI_59_4, kI_59_5, kI_59_6, kI_60_2, kI_60_3, kI_64_2, kI_64_3, kI_64_4, kI_64_5, kI_64_6, kI_65_2, kI_65_3, kI_69_2, kI_69_3, kI_69_4, kI_69_5, kI_69_6, kI_70_2, kI_70_3, kI_74_10, kI_74_11, kI_74_12, kI_74_14, kI_74_18, kI_74_19, kI_74_20, kI_74_21, kI_74_22, kI_74_23, kI_74_29, kI_74_30, kI_74_31, kI_74_32, kI_74_33, kR_1_0, kR_1_1, kR_1_2, kR_1_3, kR_1_4, kR_1_5, kR_1_6, kR_1_7, kR_1_8, kR_5_0, kR_5_1, kR_5_2, kR_5_3, kR_10_0, kR_11_0, kR_11_1, kR_11_2, kR_11_3, kR_16_0, kR_16_1, kR_17_0, kR_17_1, kR_21_0, kR_21_1, kR_21_2, kR_21_3, kR_26_0, kR_26_1, kR_29_0, kR_29_1, kR_32_0, kR_32_1, kR_35_0, kR_35_1, kR_39_0, kR_41_0, kR_43_0, kR_45_0, kR_47_0, kR_49_0, kR_51_0, kR_53_0, kR_55_0, kR_57_0, kR_59_0, kR_59_1, kR_60_0, kR_60_1, kR_64_0, kR_64_1, kR_65_0, kR_65_1, kR_69_0, kR_69_1, kR_70_0, kR_70_1, kR_74_0, kR_74_1, kR_74_2, kR_74_3, kR_74_4, kR_74_5, kR_74_6, kR_74_7, kR_74_8, kR_74_9, kR_74_13, kR_74_17, kR_74_24, kR_74_25, kR_74_26, kR_74_27, kR_74_28, kR_74_34, kR_74_35, kR_74_36, kL_1_11, kL_1_12, kL_74_15, kL_74_16, kK_39_1, kK_41_1, kK_43_1, kK_45_1, kK_47_1, kK_49_1, kK_51_1, kK_53_1, kK_55_1, kK_57_1, kA_6, kA_7, kA_8, kA_9, kA_12, kA_13, kA_14, kA_15, kA_18, kA_19, kA_20, kA_23, kA_24, kA_25, kA_27, kA_28, kA_30, kA_31, kA_33, kA_34, kA_36, kA_37, kA_38, kA_40, kA_42, kA_44, kA_46, kA_48, kA_50, kA_52, kA_54, kA_56, kA_58, kA_61, kA_62, kA_63, kA_66, kA_67, kA_68, kA_71, kA_72, kA_73, kA_75, kA_76, kA_77, kA_78, kA_79, kA_80, kA_81, kA_82, kA_83, kA_84, kA_85, kA_86, kA_87, kA_88, kA_89, kA_90, kA_91, kA_92, kA_93, kA_94, kQ_2, kQ_3, kQ_4, kQ_22, kC_1, kC_5, kC_10, kC_11, kC_16, kC_17, kC_21, kC_26, kC_29, kC_32, kC_35, kC_39, kC_41, kC_43, kC_45, kC_47, kC_49, kC_51, kC_53, kC_55, kC_57, kC_59, kC_60, kC_64, kC_65, kC_69, kC_70, kC_74, h, ne9g hf, not_false_eq_true, w_no hf h, m_fig_no ht hT h18 hp64 hf h]
theorem qu_unf {D : DT} {p : Nat} (h18 : fI D 74 18 = nI p) : P_X8_readQuarrel 74 (hp B D) = cllV 8 74 (P_X8_figure 74) (fun v3 => quT (nI (p + 1)) v3) (hp B (uI D 74 18 (nI (p + 1)))) := by
  unfold P_X8_readQuarrel
  rw [getI_hp D 8 18 74 _ kI_74_18, h18, nI_p1, setI_hp D 8 18 74 _ _ kI_74_18, getI_hp _ 8 18 74 _ kI_74_18, fI_uI, if_pos ⟨rfl, rfl⟩]
  rfl
/-- the first one is there -/
theorem quT_ok {D : DT} {p m a : Nat} (h19 : fI D 74 19 = -9) (h18 : fI D 74 18 = nI p) (h21 : fI D 74 21 = nI m) (hm6 : m ≤ 6) (ha : a < m) (v2 : Int32) : quT v2 (nI a) (hp B D) = cllV 8 74 (P_X8_figure 74) (fun v9 => quU (nI a) (nI p) v9) (hp B D) := by
  have n10 : ¬ (1 : Int32) = 0 := by decide
  have c1 : ¬ nI m ≤ nI a := nI_ge ha (by omega)
  unfold quT
  rw [getI_hp D 8 19 74 _ kI_74_19, h19, jn_hp, jn_hp, ifB_hp, if_neg (fun z => z rfl), getI_hp D 8 21 74 _ kI_74_21, h21, ifB_hp, if_neg c1]
  dsimp only
  rw [cllV_w, if_pos kC_74, w_ok h19 n10, thn_some, getI_hp D 8 18 74 _ kI_74_18, h18]
  rfl
theorem quT_bad {D : DT} {t n p f m a : Nat} {g : Nat → Int32} (ht : t < 4) (hT : MSt D t n g) (hp64 : p ≤ 100) (hf : f < 1000) (h19 : fI D 74 19 = -9) (h18 : fI D 74 18 = nI p) (h21 : fI D 74 21 = nI m) (ha9 : a ≤ 9) (ha : ¬ a < m) : quT (nI f) (nI a) (hp B D) = some ((), hp B (uI D 74 19 (nI f))) := by
  have c1 : nI m ≤ nI a := nI_le (by omega) (by omega)
  have k19 : fI (uI D 74 19 (nI f)) 74 19 = nI f := by rw [fI_uI, if_pos ⟨rfl, rfl⟩]
  have k18 : fI (uI D 74 19 (nI f)) 74 18 = nI p := by rw [fI_uI, if_neg (by omega)]; exact h18
  have T' : MSt (uI D 74 19 (nI f)) t n g := hT.it ((Off.refl D).uI _ _ _ (by unfold Tit; omega))
  unfold quT
  rw [getI_hp D 8 19 74 _ kI_74_19, h19, jn_hp, jn_hp, ifB_hp, if_neg (fun z => z rfl), getI_hp D 8 21 74 _ kI_74_21, h21, ifB_hp, if_pos c1]
  dsimp only
  rw [cllV_w, if_pos kC_74, w_bad hf h19, thn_some, getI_hp _ 8 18 74 _ kI_74_18, k18, cllV_w, if_pos kC_74, m_fig_no ht T' k18 hp64 hf k19, thn_some]
  exact quU_no hf k19 _ _ _
theorem quU_bad {D : DT} {p m a b : Nat} (hp64 : p < 1000) (h19 : fI D 74 19 = -9) (h21 : fI D 74 21 = nI m) (hm6 : m ≤ 6) (ha : a < m) (hb9 : b ≤ 9) (hb : ¬ (b < m ∧ ¬ a = b)) : quU (nI a) (nI p) (nI b) (hp B D) = some ((), hp B (uI D 74 19 (nI p))) := by
  have k19 : fI (uI D 74 19 (nI p)) 74 19 = nI p := by rw [fI_uI, if_pos ⟨rfl, rfl⟩]
  unfold quU
  rw [getI_hp D 8 19 74 _ kI_74_19, h19, jn_hp, jn_hp, ifB_hp, if_neg (fun z => z rfl), getI_hp D 8 21 74 _ kI_74_21, h21, jn_hp, ifB_hp]
  by_cases hbm : b < m
  · have c1 : ¬ nI m ≤ nI b := nI_ge hbm (by omega)
    have e : nI b = nI a := by
      by_cases e : a = b
      · rw [e]
      · exact absurd ⟨hbm, e⟩ hb
    rw [if_neg c1, ifB_hp, if_pos e]
    dsimp only
    rw [cllV_w, if_pos kC_74, w_bad hp64 h19, thn_some, ifB_hp, if_pos rfl, pureM_hp]
  · have c1 : nI m ≤ nI b := nI_le (by omega) (by omega)
    rw [if_pos c1]
    dsimp only
    rw [cllV_w, if_pos kC_74, w_bad hp64 h19, thn_some, ifB_hp, if_pos rfl, pureM_hp]
theorem quU_ok {D : DT} {m a b : Nat} (h19 : fI D 74 19 = -9) (h21 : fI D 74 21 = nI m) (hm6 : m ≤ 6) (ha : a < m) (hb : b < m ∧ ¬ a = b) (v8 : Int32) : quU (nI a) v8 (nI b) (hp B D) = some ((), hp B (uG D 90 (quQ (fG D 90) a b))) := by
  have n10 : ¬ (1 : Int32) = 0 := by decide
  have c1 : ¬ nI m ≤ nI b := nI_ge hb.1 (by omega)
  have c2 : ¬ nI b = nI a := fun z => hb.2 ((nI_eq (by omega) (by omega)).mp z).symm
  have ca : 0 ≤ (nI a).toInt ∧ (nI a).toInt < ((6 : Nat) : Int) := ixc (by omega) (by omega)
  have cla := nI_clamp (show a < 2 ^ 31 by omega)
  have cb : 0 ≤ (nI b).toInt ∧ (nI b).toInt < ((6 : Nat) : Int) := ixc (by omega) (by omega)
  have clb := nI_clamp (show b < 2 ^ 31 by omega)
  unfold quU
  rw [getI_hp D 8 19 74 _ kI_74_19, h19, jn_hp, jn_hp, ifB_hp, if_neg (fun z => z rfl), getI_hp D 8 21 74 _ kI_74_21, h21, jn_hp, ifB_hp, if_neg c1, ifB_hp, if_neg c2]
  dsimp only
  rw [cllV_w, if_pos kC_74, w_ok h19 n10, thn_some, ifB_hp, if_neg n10]
  simp only [pureM_hp, ifB_t, ifB_f, decide_true, decide_false, ifB_hp, jn_hp, retZ_0, retZ_1, thn_some, cll0_w, cllV_w, getI_w, getL_w, getR_w, setI_w, setZ_w0, setZ_w1, setL_w, ald_w, ast_w, alen_w, aldR_2, aldR_3, aldR_4, aldR_22, cll0_pure, ↓reduceIte, if_true, if_false, Bool.false_eq_true, reduceCtorEq, and_true, true_and, and_false, false_and, ite_self, kI_1_9, kI_1_10, kI_5_4, kI_5_5, kI_5_6, kI_10_1, kI_11_4, kI_11_5, kI_11_6, kI_16_2, kI_16_3, kI_16_4, kI_16_5, kI_16_6, kI_17_2, kI_17_3, kI_21_4, kI_21_5, kI_21_6, kI_21_7, kI_21_8, kI_21_9, kI_21_10, kI_21_11, kI_26_2, kI_26_3, kI_29_2, kI_29_3, kI_32_2, kI_32_3, kI_35_2, kI_39_2, kI_39_3, kI_41_2, kI_41_3, kI_43_2, kI_43_3, kI_45_2, kI_45_3, kI_47_2, kI_47_3, kI_49_2, kI_49_3, kI_51_2, kI_51_3, kI_53_2, kI_53_3, kI_55_2, kI_55_3, kI_57_2, kI_57_3, kI_59_2, kI_59_3, kI_59_4, kI_59_5, kI_59_6, kI_60_2, kI_60_3, kI_64_2, kI_64_3, kI_64_4, kI_64_5, kI_64_6, kI_65_2, kI_65_3, kI_69_2, kI_69_3, kI_69_4, kI_69_5, kI_69_6, kI_70_2, kI_70_3, kI_74_10, kI_74_11, kI_74_12, kI_74_14, kI_74_18, kI_74_19, kI_74_20, kI_74_21, kI_74_22, kI_74_23, kI_74_29, kI_74_30, kI_74_31, kI_74_32, kI_74_33, kR_1_0, kR_1_1, kR_1_2, kR_1_3, kR_1_4, kR_1_5, kR_1_6, kR_1_7, kR_1_8, kR_5_0, kR_5_1, kR_5_2, kR_5_3, kR_10_0, kR_11_0, kR_11_1, kR_11_2, kR_11_3, kR_16_0, kR_16_1, kR_17_0, kR_17_1, kR_21_0, kR_21_1, kR_21_2, kR_21_3, kR_26_0, kR_26_1, kR_29_0, kR_29_1, kR_32_0, kR_32_1, kR_35_0, kR_35_1, kR_39_0, kR_41_0, kR_43_0, kR_45_0, kR_47_0, kR_49_0, kR_51_0, kR_53_0, kR_55_0, kR_57_0, kR_59_0, kR_59_1, kR_60_0, kR_60_1, kR_64_0, kR_64_1, kR_65_0, kR_65_1, kR_69_0, kR_69_1, kR_70_0, kR_70_1, kR_74_0, kR_74_1, kR_74_2, kR_74_3, kR_74_4, kR_74_5, kR_74_6, kR_74_7, kR_74_8, kR_74_9, kR_74_13, kR_74_17, kR_74_24, kR_74_25, kR_74_26, kR_74_27, kR_74_28, kR_74_34, kR_74_35, kR_74_36, kL_1_11, kL_1_12, kL_74_15, kL_74_16, kK_39_1, kK_41_1, kK_43_1, kK_45_1, kK_47_1, kK_49_1, kK_51_1, kK_53_1, kK_55_1, kK_57_1, kA_6, kA_7, kA_8, kA_9, kA_12, kA_13, kA_14, kA_15, kA_18, kA_19, kA_20, kA_23, kA_24, kA_25, kA_27, kA_28, kA_30, kA_31, kA_33, kA_34, kA_36, kA_37, kA_38, kA_40, kA_42, kA_44, kA_46, kA_48, kA_50, kA_52, kA_54, kA_56, kA_58, kA_61, kA_62, kA_63, kA_66, kA_67, kA_68, kA_71, kA_72, kA_73, kA_75, kA_76, kA_77, kA_78, kA_79, kA_80, kA_81, kA_82, kA_83, kA_84, kA_85, kA_86, kA_87, kA_88, kA_89, kA_90, kA_91, kA_92, kA_93, kA_94, kQ_2, kQ_3, kQ_4, kQ_22, kC_1, kC_5, kC_10, kC_11, kC_16, kC_17, kC_21, kC_26, kC_29, kC_32, kC_35, kC_39, kC_41, kC_43, kC_45, kC_47, kC_49, kC_51, kC_53, kC_55, kC_57, kC_59, kC_60, kC_64, kC_65, kC_69, kC_70, kC_74, ca, cla, cb, clb, fG_uG, uG_uG]
  rfl
theorem m_readQu {D : DT} {t n p m : Nat} {g : Nat → Int32} {q : QT} (ht : t < 4) (hT : MSt D t n g) (h18 : fI D 74 18 = nI p) (hp64 : p ≤ 64) (h19 : fI D 74 19 = -9) (hP : PI m q) (hM : MRr D m q) : ItM B D (P_X8_readQuarrel 74) p (itQ n g p m q) := by
  have hm6 := hP.1
  have o1 : Off Tit D (uI D 74 18 (nI (p + 1))) := (Off.refl D).uI _ _ _ (by unfold Tit; omega)
  have oM : Off (fun a k => a = 74 ∧ (k = 18 ∨ k = 19)) D (uI D 74 18 (nI (p + 1))) := (Off.refl D).uI 74 18 _ (by omega)
  have hM1 := hM.sc oM
  have T1 := hT.it o1
  have E18 : fI (uI D 74 18 (nI (p + 1))) 74 18 = nI (p + 1) := by rw [fI_uI, if_pos ⟨rfl, rfl⟩]
  have E19 : fI (uI D 74 18 (nI (p + 1))) 74 19 = -9 := by rw [fI_uI, if_neg (by omega)]; exact h19
  have unf := qu_unf (B := B) h18
  generalize hE : uI D 74 18 (nI (p + 1)) = E at *
  unfold ItM
  rw [unf]
  cases e1 : fgO (sg n g (p + 1)) with
  | none =>
    have eR : itQ n g p m q = .inl (p + 1) := by unfold itQ; rw [e1]
    have g1 := m_fig_bad (B := B) ht T1 E18 (by omega) E19 e1
    have o2 : Off Tit E (uI E 74 19 (nI (p + 1))) := (Off.refl E).uI _ _ _ (by unfold Tit; omega)
    have k19 : fI (uI E 74 19 (nI (p + 1))) 74 19 = nI (p + 1) := by rw [fI_uI, if_pos ⟨rfl, rfl⟩]
    have k18 : fI (uI E 74 19 (nI (p + 1))) 74 18 = nI (p + 1) := by rw [fI_uI, if_neg (by omega)]; exact E18
    refine ⟨uI E 74 19 (nI (p + 1)), ?_, o1.trans o2, ⟨p + 1, by omega, k18⟩, fun f hf => (by rw [eR] at hf; cases hf; exact k19), fun m' q' hf => (by rw [eR] at hf; cases hf)⟩
    rw [cllV_w, if_pos kC_74, g1, thn_some]
    exact quT_no ht (T1.it o2) k18 (by omega) (by omega) k19 _ _
  | some a =>
    obtain ⟨a9, -⟩ := fgO_lt e1
    have g1 := m_fig_ok (B := B) ht T1 E18 (by omega) E19 e1
    rw [cllV_w, if_pos kC_74, g1, thn_some]
    have o2 : Off Tit E (uI E 74 18 (nI (p + 1 + 1))) := (Off.refl E).uI _ _ _ (by unfold Tit; omega)
    have oM2 : Off (fun a k => a = 74 ∧ (k = 18 ∨ k = 19)) E (uI E 74 18 (nI (p + 1 + 1))) := (Off.refl E).uI 74 18 _ (by omega)
    have hM2 := hM1.sc oM2
    have T2 := T1.it o2
    have G18 : fI (uI E 74 18 (nI (p + 1 + 1))) 74 18 = nI (p + 2) := by rw [fI_uI, if_pos ⟨rfl, rfl⟩]
    have G19 : fI (uI E 74 18 (nI (p + 1 + 1))) 74 19 = -9 := by rw [fI_uI, if_neg (by omega)]; exact E19
    have G21 := hM2.1
    have oG := o1.trans o2
    generalize hG : uI E 74 18 (nI (p + 1 + 1)) = G at *
    by_cases ham : a < m
    case neg =>
      have eR : itQ n g p m q = .inl (p + 1) := by unfold itQ; rw [e1]; dsimp only; rw [if_neg ham]
      exact ⟨uI G 74 19 (nI (p + 1)), quT_bad ht T2 (by omega) (by omega) G19 G18 G21 a9 ham, oG.uI _ _ _ (by unfold Tit; omega), ⟨p + 2, by omega, by rw [fI_uI, if_neg (by omega)]; exact G18⟩, fun f hf => (by rw [eR] at hf; cases hf; rw [fI_uI, if_pos ⟨rfl, rfl⟩]), fun m' q' hf => (by rw [eR] at hf; cases hf)⟩
    rw [quT_ok G19 G18 G21 hm6 ham]
    cases e2 : fgO (sg n g (p + 2)) with
    | none =>
      have eR : itQ n g p m q = .inl (p + 2) := by unfold itQ; rw [e1]; dsimp only; rw [if_pos ham, e2]
      have g2 := m_fig_bad (B := B) ht T2 G18 (by omega) G19 e2
      have k19 : fI (uI G 74 19 (nI (p + 2))) 74 19 = nI (p + 2) := by rw [fI_uI, if_pos ⟨rfl, rfl⟩]
      refine ⟨uI G 74 19 (nI (p + 2)), ?_, oG.uI _ _ _ (by unfold Tit; omega), ⟨p + 2, by omega, by rw [fI_uI, if_neg (by omega)]; exact G18⟩, fun f hf => (by rw [eR] at hf; cases hf; exact k19), fun m' q' hf => (by rw [eR] at hf; cases hf)⟩
      rw [cllV_w, if_pos kC_74, g2, thn_some]
      exact quU_no (by omega) k19 _ _ _
    | some b =>
      obtain ⟨b9, -⟩ := fgO_lt e2
      have g2 := m_fig_ok (B := B) ht T2 G18 (by omega) G19 e2
      rw [cllV_w, if_pos kC_74, g2, thn_some]
      have oM3 : Off (fun a k => a = 74 ∧ (k = 18 ∨ k = 19)) G (uI G 74 18 (nI (p + 2 + 1))) := (Off.refl G).uI 74 18 _ (by omega)
      have hM3 := hM2.sc oM3
      have oH : Off Tit D (uI G 74 18 (nI (p + 2 + 1))) := oG.uI _ _ _ (by unfold Tit; omega)
      have H18 : fI (uI G 74 18 (nI (p + 2 + 1))) 74 18 = nI (p + 3) := by rw [fI_uI, if_pos ⟨rfl, rfl⟩]
      have H19 : fI (uI G 74 18 (nI (p + 2 + 1))) 74 19 = -9 := by rw [fI_uI, if_neg (by omega)]; exact G19
      have H21 := hM3.1
      generalize hH : uI G 74 18 (nI (p + 2 + 1)) = H at *
      by_cases hb : b < m ∧ ¬ a = b
      case neg =>
        have eR : itQ n g p m q = .inl (p + 2) := by unfold itQ; rw [e1]; dsimp only; rw [if_pos ham, e2]; dsimp only; rw [if_neg hb]
        exact ⟨uI H 74 19 (nI (p + 2)), quU_bad (by omega) H19 H21 hm6 ham b9 hb, oH.uI _ _ _ (by unfold Tit; omega), ⟨p + 3, by omega, by rw [fI_uI, if_neg (by omega)]; exact H18⟩, fun f hf => (by rw [eR] at hf; cases hf; rw [fI_uI, if_pos ⟨rfl, rfl⟩]), fun m' q' hf => (by rw [eR] at hf; cases hf)⟩
      have eR : itQ n g p m q = .inr (m, quP q a b) := by unfold itQ; rw [e1]; dsimp only; rw [if_pos ham, e2]; dsimp only; rw [if_pos hb]
      refine ⟨uG H 90 (quQ (fG H 90) a b), quU_ok H19 H21 hm6 ham hb _, oH.uG _ _ (by unfold Tit; omega), ⟨p + 3, by omega, by rw [fI_uG]; exact H18⟩, fun f hf => (by rw [eR] at hf; cases hf), fun m' q' hf => ?_⟩
      rw [eR] at hf
      cases hf
      refine ⟨by rw [fI_uG]; exact H19, by rw [fI_uG]; exact H18, by rw [fI_uG]; exact H21, fun k hk => ?_⟩
      obtain ⟨y1, y2, y3, y4⟩ := hM3.2 k hk
      obtain ⟨-, -, -, y5⟩ := hM3.2 a ham
      obtain ⟨-, -, -, y6⟩ := hM3.2 b hb.1
      refine ⟨by rw [fG_uG, if_neg (by omega)]; exact y1, by rw [fG_uG, if_neg (by omega)]; exact y2, by rw [fG_uG, if_neg (by omega)]; exact y3, ?_⟩
      rw [fG_uG, if_pos rfl]
      show quQ (fG H 90) a b k = quQ q.2.2.2 a b k
      unfold quQ upd
      rw [y4, y5, y6]
end PARSEQ
