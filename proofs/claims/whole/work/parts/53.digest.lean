/-! The digest. -/
section DIGEST
variable {B : BT}
def mx (f : Nat → Int32) : Nat → Int64 → Int64
  | 0, h => h
  | n + 1, h => 31 * mx f n h + (f n).toInt64
theorem mx_eq {f g : Nat → Int32} (h0 : Int64) : ∀ n, (∀ k, k < n → f k = g k) → mx f n h0 = mx g n h0 := by
  intro n
  induction n with
  | zero => intro _; rfl
  | succ n ih =>
    intro h
    show 31 * mx f n h0 + (f n).toInt64 = 31 * mx g n h0 + (g n).toInt64
    rw [ih (fun k hk => h k (by omega)), h n (by omega)]
theorem dg_cx {D : DT} (hI : Inv D) {m : Nat} {q : QT} {s c : Int32} {ds : List Nat} (hb : BriI D m q s c ds) (K : Int64 → PM Int64) (h0 : Int64) : ∀ (F k : Nat), k ≤ 11 → 11 - k < F → P_X7_digest_6 K 1 F (mx (cnt D m q (runs q s c ds) ds.length) k h0) (nI k) (hp B D) = K (mx (cnt D m q (runs q s c ds) ds.length) 11 h0) (hp B D) := by
  intro F
  induction F with
  | zero => intro k h1 h2; omega
  | succ F ih =>
    intro k h1 h2
    by_cases e : k = 11
    · subst e
      simp only [P_X7_digest_6, ifB_hp]
      rw [if_pos (show (11 : Int32) ≤ nI 11 by decide)]
    · have c1 : ¬ (11 : Int32) ≤ nI k := show ¬ nI 11 ≤ nI k from nI_ge (by omega) (by omega)
      simp only [P_X7_digest_6, pureM_hp, ifB_t, ifB_f, decide_true, decide_false, ifB_hp, jn_hp, retZ_0, retZ_1, thn_some, cll0_w, cllV_w, getI_w, getL_w, getR_w, setI_w, setZ_w0, setZ_w1, setL_w, ald_w, ast_w, alen_w, aldR_2, aldR_3, aldR_4, aldR_22, cll0_pure, ↓reduceIte, if_true, if_false, Bool.false_eq_true, reduceCtorEq, and_true, true_and, and_false, false_and, ite_self, kI_1_9, kI_1_10, kI_5_4, kI_5_5, kI_5_6, kI_10_1, kI_11_4, kI_11_5, kI_11_6, kI_16_2, kI_16_3, kI_16_4, kI_16_5, kI_16_6, kI_17_2, kI_17_3, kI_21_4, kI_21_5, kI_21_6, kI_21_7, kI_21_8, kI_21_9, kI_21_10, kI_21_11, kI_26_2, kI_26_3, kI_29_2, kI_29_3, kI_32_2, kI_32_3, kI_35_2, kI_39_2, kI_39_3, kI_41_2, kI_41_3, kI_43_2, kI_43_3, kI_45_2, kI_45_3, kI_47_2, kI_47_3, kI_49_2, kI_49_3, kI_51_2, kI_51_3, kI_53_2, kI_53_3, kI_55_2, kI_55_3, kI_57_2, kI_57_3, kI_59_2, kI_59_3, kI_59_4, kI_59_5, kI_59_6, kI_60_2, kI_60_3, kI_64_2, kI_64_3, kI_64_4, kI_64_5, kI_64_6, kI_65_2, kI_65_3, kI_69_2, kI_69_3, kI_69_4, kI_69_5, kI_69_6, kI_70_2, kI_70_3, kI_74_10, kI_74_11, kI_74_12, kI_74_14, kI_74_18, kI_74_19, kI_74_20, kI_74_21, kI_74_22, kI_74_23, kI_74_29, kI_74_30, kI_74_31, kI_74_32, kI_74_33, kR_1_0, kR_1_1, kR_1_2, kR_1_3, kR_1_4, kR_1_5, kR_1_6, kR_1_7, kR_1_8, kR_5_0, kR_5_1, kR_5_2, kR_5_3, kR_10_0, kR_11_0, kR_11_1, kR_11_2, kR_11_3, kR_16_0, kR_16_1, kR_17_0, kR_17_1, kR_21_0, kR_21_1, kR_21_2, kR_21_3, kR_26_0, kR_26_1, kR_29_0, kR_29_1, kR_32_0, kR_32_1, kR_35_0, kR_35_1, kR_39_0, kR_41_0, kR_43_0, kR_45_0, kR_47_0, kR_49_0, kR_51_0, kR_53_0, kR_55_0, kR_57_0, kR_59_0, kR_59_1, kR_60_0, kR_60_1, kR_64_0, kR_64_1, kR_65_0, kR_65_1, kR_69_0, kR_69_1, kR_70_0, kR_70_1, kR_74_0, kR_74_1, kR_74_2, kR_74_3, kR_74_4, kR_74_5, kR_74_6, kR_74_7, kR_74_8, kR_74_9, kR_74_13, kR_74_17, kR_74_24, kR_74_25, kR_74_26, kR_74_27, kR_74_28, kR_74_34, kR_74_35, kR_74_36, kL_1_11, kL_1_12, kL_74_15, kL_74_16, kK_39_1, kK_41_1, kK_43_1, kK_45_1, kK_47_1, kK_49_1, kK_51_1, kK_53_1, kK_55_1, kK_57_1, kA_6, kA_7, kA_8, kA_9, kA_12, kA_13, kA_14, kA_15, kA_18, kA_19, kA_20, kA_23, kA_24, kA_25, kA_27, kA_28, kA_30, kA_31, kA_33, kA_34, kA_36, kA_37, kA_38, kA_40, kA_42, kA_44, kA_46, kA_48, kA_50, kA_52, kA_54, kA_56, kA_58, kA_61, kA_62, kA_63, kA_66, kA_67, kA_68, kA_71, kA_72, kA_73, kA_75, kA_76, kA_77, kA_78, kA_79, kA_80, kA_81, kA_82, kA_83, kA_84, kA_85, kA_86, kA_87, kA_88, kA_89, kA_90, kA_91, kA_92, kA_93, kA_94, kQ_2, kQ_3, kQ_4, kQ_22, kC_1, kC_5, kC_10, kC_11, kC_16, kC_17, kC_21, kC_26, kC_29, kC_32, kC_35, kC_39, kC_41, kC_43, kC_45, kC_47, kC_49, kC_51, kC_53, kC_55, kC_57, kC_59, kC_60, kC_64, kC_65, kC_69, kC_70, kC_74, c1, x_count hI hb (show k < 11 by omega), nI_p1]
      exact ih (k + 1) (by omega) (by omega)
theorem dg_cm {D : DT} (hI : Inv D) {m : Nat} {q : QT} {s c : Int32} {ds : List Nat} (hb : BriI D m q s c ds) (K : Int64 → PM Int64) (h0 : Int64) : ∀ (F k : Nat), k ≤ 11 → 11 - k < F → P_X8_digest_6 K 74 F (mx (cnt D m q (runs q s c ds) ds.length) k h0) (nI k) (hp B D) = K (mx (cnt D m q (runs q s c ds) ds.length) 11 h0) (hp B D) := by
  intro F
  induction F with
  | zero => intro k h1 h2; omega
  | succ F ih =>
    intro k h1 h2
    by_cases e : k = 11
    · subst e
      simp only [P_X8_digest_6, ifB_hp]
      rw [if_pos (show (11 : Int32) ≤ nI 11 by decide)]
    · have c1 : ¬ (11 : Int32) ≤ nI k := show ¬ nI 11 ≤ nI k from nI_ge (by omega) (by omega)
      simp only [P_X8_digest_6, pureM_hp, ifB_t, ifB_f, decide_true, decide_false, ifB_hp, jn_hp, retZ_0, retZ_1, thn_some, cll0_w, cllV_w, getI_w, getL_w, getR_w, setI_w, setZ_w0, setZ_w1, setL_w, ald_w, ast_w, alen_w, aldR_2, aldR_3, aldR_4, aldR_22, cll0_pure, ↓reduceIte, if_true, if_false, Bool.false_eq_true, reduceCtorEq, and_true, true_and, and_false, false_and, ite_self, kI_1_9, kI_1_10, kI_5_4, kI_5_5, kI_5_6, kI_10_1, kI_11_4, kI_11_5, kI_11_6, kI_16_2, kI_16_3, kI_16_4, kI_16_5, kI_16_6, kI_17_2, kI_17_3, kI_21_4, kI_21_5, kI_21_6, kI_21_7, kI_21_8, kI_21_9, kI_21_10, kI_21_11, kI_26_2, kI_26_3, kI_29_2, kI_29_3, kI_32_2, kI_32_3, kI_35_2, kI_39_2, kI_39_3, kI_41_2, kI_41_3, kI_43_2, kI_43_3, kI_45_2, kI_45_3, kI_47_2, kI_47_3, kI_49_2, kI_49_3, kI_51_2, kI_51_3, kI_53_2, kI_53_3, kI_55_2, kI_55_3, kI_57_2, kI_57_3, kI_59_2, kI_59_3, kI_59_4, kI_59_5, kI_59_6, kI_60_2, kI_60_3, kI_64_2, kI_64_3, kI_64_4, kI_64_5, kI_64_6, kI_65_2, kI_65_3, kI_69_2, kI_69_3, kI_69_4, kI_69_5, kI_69_6, kI_70_2, kI_70_3, kI_74_10, kI_74_11, kI_74_12, kI_74_14, kI_74_18, kI_74_19, kI_74_20, kI_74_21, kI_74_22, kI_74_23, kI_74_29, kI_74_30, kI_74_31, kI_74_32, kI_74_33, kR_1_0, kR_1_1, kR_1_2, kR_1_3, kR_1_4, kR_1_5, kR_1_6, kR_1_7, kR_1_8, kR_5_0, kR_5_1, kR_5_2, kR_5_3, kR_10_0, kR_11_0, kR_11_1, kR_11_2, kR_11_3, kR_16_0, kR_16_1, kR_17_0, kR_17_1, kR_21_0, kR_21_1, kR_21_2, kR_21_3, kR_26_0, kR_26_1, kR_29_0, kR_29_1, kR_32_0, kR_32_1, kR_35_0, kR_35_1, kR_39_0, kR_41_0, kR_43_0, kR_45_0, kR_47_0, kR_49_0, kR_51_0, kR_53_0, kR_55_0, kR_57_0, kR_59_0, kR_59_1, kR_60_0, kR_60_1, kR_64_0, kR_64_1, kR_65_0, kR_65_1, kR_69_0, kR_69_1, kR_70_0, kR_70_1, kR_74_0, kR_74_1, kR_74_2, kR_74_3, kR_74_4, kR_74_5, kR_74_6, kR_74_7, kR_74_8, kR_74_9, kR_74_13, kR_74_17, kR_74_24, kR_74_25, kR_74_26, kR_74_27, kR_74_28, kR_74_34, kR_74_35, kR_74_36, kL_1_11, kL_1_12, kL_74_15, kL_74_16, kK_39_1, kK_41_1, kK_43_1, kK_45_1, kK_47_1, kK_49_1, kK_51_1, kK_53_1, kK_55_1, kK_57_1, kA_6, kA_7, kA_8, kA_9, kA_12, kA_13, kA_14, kA_15, kA_18, kA_19, kA_20, kA_23, kA_24, kA_25, kA_27, kA_28, kA_30, kA_31, kA_33, kA_34, kA_36, kA_37, kA_38, kA_40, kA_42, kA_44, kA_46, kA_48, kA_50, kA_52, kA_54, kA_56, kA_58, kA_61, kA_62, kA_63, kA_66, kA_67, kA_68, kA_71, kA_72, kA_73, kA_75, kA_76, kA_77, kA_78, kA_79, kA_80, kA_81, kA_82, kA_83, kA_84, kA_85, kA_86, kA_87, kA_88, kA_89, kA_90, kA_91, kA_92, kA_93, kA_94, kQ_2, kQ_3, kQ_4, kQ_22, kC_1, kC_5, kC_10, kC_11, kC_16, kC_17, kC_21, kC_26, kC_29, kC_32, kC_35, kC_39, kC_41, kC_43, kC_45, kC_47, kC_49, kC_51, kC_53, kC_55, kC_57, kC_59, kC_60, kC_64, kC_65, kC_69, kC_70, kC_74, c1, m_count hI hb (show k < 11 by omega), nI_p1]
      exact ih (k + 1) (by omega) (by omega)
theorem dg_fx {D : DT} {m i : Nat} {q : QT} {H : HT} (hF : XF D 5 m q) (hH : XH D 17 m q H) (hm6 : m ≤ 6) (hi : i < m) (K : Int64 → PM Int64) (h0 : Int64) : ∀ (F k : Nat), k ≤ 6 → 6 - k < F → P_X7_digest_47 K 1 (nI i) F (mx (fct q H i) k h0) (nI k) (hp B D) = K (mx (fct q H i) 6 h0) (hp B D) := by
  intro F
  induction F with
  | zero => intro k h1 h2; omega
  | succ F ih =>
    intro k h1 h2
    by_cases e : k = 6
    · subst e
      simp only [P_X7_digest_47, ifB_hp]
      rw [if_pos (show (6 : Int32) ≤ nI 6 by decide)]
    · have c1 : ¬ (6 : Int32) ≤ nI k := show ¬ nI 6 ≤ nI k from nI_ge (by omega) (by omega)
      simp only [P_X7_digest_47, pureM_hp, ifB_t, ifB_f, decide_true, decide_false, ifB_hp, jn_hp, retZ_0, retZ_1, thn_some, cll0_w, cllV_w, getI_w, getL_w, getR_w, setI_w, setZ_w0, setZ_w1, setL_w, ald_w, ast_w, alen_w, aldR_2, aldR_3, aldR_4, aldR_22, cll0_pure, ↓reduceIte, if_true, if_false, Bool.false_eq_true, reduceCtorEq, and_true, true_and, and_false, false_and, ite_self, kI_1_9, kI_1_10, kI_5_4, kI_5_5, kI_5_6, kI_10_1, kI_11_4, kI_11_5, kI_11_6, kI_16_2, kI_16_3, kI_16_4, kI_16_5, kI_16_6, kI_17_2, kI_17_3, kI_21_4, kI_21_5, kI_21_6, kI_21_7, kI_21_8, kI_21_9, kI_21_10, kI_21_11, kI_26_2, kI_26_3, kI_29_2, kI_29_3, kI_32_2, kI_32_3, kI_35_2, kI_39_2, kI_39_3, kI_41_2, kI_41_3, kI_43_2, kI_43_3, kI_45_2, kI_45_3, kI_47_2, kI_47_3, kI_49_2, kI_49_3, kI_51_2, kI_51_3, kI_53_2, kI_53_3, kI_55_2, kI_55_3, kI_57_2, kI_57_3, kI_59_2, kI_59_3, kI_59_4, kI_59_5, kI_59_6, kI_60_2, kI_60_3, kI_64_2, kI_64_3, kI_64_4, kI_64_5, kI_64_6, kI_65_2, kI_65_3, kI_69_2, kI_69_3, kI_69_4, kI_69_5, kI_69_6, kI_70_2, kI_70_3, kI_74_10, kI_74_11, kI_74_12, kI_74_14, kI_74_18, kI_74_19, kI_74_20, kI_74_21, kI_74_22, kI_74_23, kI_74_29, kI_74_30, kI_74_31, kI_74_32, kI_74_33, kR_1_0, kR_1_1, kR_1_2, kR_1_3, kR_1_4, kR_1_5, kR_1_6, kR_1_7, kR_1_8, kR_5_0, kR_5_1, kR_5_2, kR_5_3, kR_10_0, kR_11_0, kR_11_1, kR_11_2, kR_11_3, kR_16_0, kR_16_1, kR_17_0, kR_17_1, kR_21_0, kR_21_1, kR_21_2, kR_21_3, kR_26_0, kR_26_1, kR_29_0, kR_29_1, kR_32_0, kR_32_1, kR_35_0, kR_35_1, kR_39_0, kR_41_0, kR_43_0, kR_45_0, kR_47_0, kR_49_0, kR_51_0, kR_53_0, kR_55_0, kR_57_0, kR_59_0, kR_59_1, kR_60_0, kR_60_1, kR_64_0, kR_64_1, kR_65_0, kR_65_1, kR_69_0, kR_69_1, kR_70_0, kR_70_1, kR_74_0, kR_74_1, kR_74_2, kR_74_3, kR_74_4, kR_74_5, kR_74_6, kR_74_7, kR_74_8, kR_74_9, kR_74_13, kR_74_17, kR_74_24, kR_74_25, kR_74_26, kR_74_27, kR_74_28, kR_74_34, kR_74_35, kR_74_36, kL_1_11, kL_1_12, kL_74_15, kL_74_16, kK_39_1, kK_41_1, kK_43_1, kK_45_1, kK_47_1, kK_49_1, kK_51_1, kK_53_1, kK_55_1, kK_57_1, kA_6, kA_7, kA_8, kA_9, kA_12, kA_13, kA_14, kA_15, kA_18, kA_19, kA_20, kA_23, kA_24, kA_25, kA_27, kA_28, kA_30, kA_31, kA_33, kA_34, kA_36, kA_37, kA_38, kA_40, kA_42, kA_44, kA_46, kA_48, kA_50, kA_52, kA_54, kA_56, kA_58, kA_61, kA_62, kA_63, kA_66, kA_67, kA_68, kA_71, kA_72, kA_73, kA_75, kA_76, kA_77, kA_78, kA_79, kA_80, kA_81, kA_82, kA_83, kA_84, kA_85, kA_86, kA_87, kA_88, kA_89, kA_90, kA_91, kA_92, kA_93, kA_94, kQ_2, kQ_3, kQ_4, kQ_22, kC_1, kC_5, kC_10, kC_11, kC_16, kC_17, kC_21, kC_26, kC_29, kC_32, kC_35, kC_39, kC_41, kC_43, kC_45, kC_47, kC_49, kC_51, kC_53, kC_55, kC_57, kC_59, kC_60, kC_64, kC_65, kC_69, kC_70, kC_74, c1, x_fact hF hH hm6 hi (show k < 6 by omega), nI_p1]
      exact ih (k + 1) (by omega) (by omega)
theorem dg_fm {D : DT} {m i : Nat} {q : QT} {H : HT} (hF : MF D m q) (hH : MH D 0 H) (hm6 : m ≤ 6) (hi : i < m) (K : Int64 → PM Int64) (h0 : Int64) : ∀ (F k : Nat), k ≤ 6 → 6 - k < F → P_X8_digest_44 K 74 (nI i) F (mx (fct q H i) k h0) (nI k) (hp B D) = K (mx (fct q H i) 6 h0) (hp B D) := by
  intro F
  induction F with
  | zero => intro k h1 h2; omega
  | succ F ih =>
    intro k h1 h2
    by_cases e : k = 6
    · subst e
      simp only [P_X8_digest_44, ifB_hp]
      rw [if_pos (show (6 : Int32) ≤ nI 6 by decide)]
    · have c1 : ¬ (6 : Int32) ≤ nI k := show ¬ nI 6 ≤ nI k from nI_ge (by omega) (by omega)
      simp only [P_X8_digest_44, pureM_hp, ifB_t, ifB_f, decide_true, decide_false, ifB_hp, jn_hp, retZ_0, retZ_1, thn_some, cll0_w, cllV_w, getI_w, getL_w, getR_w, setI_w, setZ_w0, setZ_w1, setL_w, ald_w, ast_w, alen_w, aldR_2, aldR_3, aldR_4, aldR_22, cll0_pure, ↓reduceIte, if_true, if_false, Bool.false_eq_true, reduceCtorEq, and_true, true_and, and_false, false_and, ite_self, kI_1_9, kI_1_10, kI_5_4, kI_5_5, kI_5_6, kI_10_1, kI_11_4, kI_11_5, kI_11_6, kI_16_2, kI_16_3, kI_16_4, kI_16_5, kI_16_6, kI_17_2, kI_17_3, kI_21_4, kI_21_5, kI_21_6, kI_21_7, kI_21_8, kI_21_9, kI_21_10, kI_21_11, kI_26_2, kI_26_3, kI_29_2, kI_29_3, kI_32_2, kI_32_3, kI_35_2, kI_39_2, kI_39_3, kI_41_2, kI_41_3, kI_43_2, kI_43_3, kI_45_2, kI_45_3, kI_47_2, kI_47_3, kI_49_2, kI_49_3, kI_51_2, kI_51_3, kI_53_2, kI_53_3, kI_55_2, kI_55_3, kI_57_2, kI_57_3, kI_59_2, kI_59_3, kI_59_4, kI_59_5, kI_59_6, kI_60_2, kI_60_3, kI_64_2, kI_64_3, kI_64_4, kI_64_5, kI_64_6, kI_65_2, kI_65_3, kI_69_2, kI_69_3, kI_69_4, kI_69_5, kI_69_6, kI_70_2, kI_70_3, kI_74_10, kI_74_11, kI_74_12, kI_74_14, kI_74_18, kI_74_19, kI_74_20, kI_74_21, kI_74_22, kI_74_23, kI_74_29, kI_74_30, kI_74_31, kI_74_32, kI_74_33, kR_1_0, kR_1_1, kR_1_2, kR_1_3, kR_1_4, kR_1_5, kR_1_6, kR_1_7, kR_1_8, kR_5_0, kR_5_1, kR_5_2, kR_5_3, kR_10_0, kR_11_0, kR_11_1, kR_11_2, kR_11_3, kR_16_0, kR_16_1, kR_17_0, kR_17_1, kR_21_0, kR_21_1, kR_21_2, kR_21_3, kR_26_0, kR_26_1, kR_29_0, kR_29_1, kR_32_0, kR_32_1, kR_35_0, kR_35_1, kR_39_0, kR_41_0, kR_43_0, kR_45_0, kR_47_0, kR_49_0, kR_51_0, kR_53_0, kR_55_0, kR_57_0, kR_59_0, kR_59_1, kR_60_0, kR_60_1, kR_64_0, kR_64_1, kR_65_0, kR_65_1, kR_69_0, kR_69_1, kR_70_0, kR_70_1, kR_74_0, kR_74_1, kR_74_2, kR_74_3, kR_74_4, kR_74_5, kR_74_6, kR_74_7, kR_74_8, kR_74_9, kR_74_13, kR_74_17, kR_74_24, kR_74_25, kR_74_26, kR_74_27, kR_74_28, kR_74_34, kR_74_35, kR_74_36, kL_1_11, kL_1_12, kL_74_15, kL_74_16, kK_39_1, kK_41_1, kK_43_1, kK_45_1, kK_47_1, kK_49_1, kK_51_1, kK_53_1, kK_55_1, kK_57_1, kA_6, kA_7, kA_8, kA_9, kA_12, kA_13, kA_14, kA_15, kA_18, kA_19, kA_20, kA_23, kA_24, kA_25, kA_27, kA_28, kA_30, kA_31, kA_33, kA_34, kA_36, kA_37, kA_38, kA_40, kA_42, kA_44, kA_46, kA_48, kA_50, kA_52, kA_54, kA_56, kA_58, kA_61, kA_62, kA_63, kA_66, kA_67, kA_68, kA_71, kA_72, kA_73, kA_75, kA_76, kA_77, kA_78, kA_79, kA_80, kA_81, kA_82, kA_83, kA_84, kA_85, kA_86, kA_87, kA_88, kA_89, kA_90, kA_91, kA_92, kA_93, kA_94, kQ_2, kQ_3, kQ_4, kQ_22, kC_1, kC_5, kC_10, kC_11, kC_16, kC_17, kC_21, kC_26, kC_29, kC_32, kC_35, kC_39, kC_41, kC_43, kC_45, kC_47, kC_49, kC_51, kC_53, kC_55, kC_57, kC_59, kC_60, kC_64, kC_65, kC_69, kC_70, kC_74, c1, m_told hF hH hm6 hi (show k < 6 by omega), nI_p1]
      exact ih (k + 1) (by omega) (by omega)
def oF (q : QT) (H : HT) : Nat → Int64 → Int64
  | 0, h => h
  | k + 1, h => mx (fct q H k) 6 (oF q H k h)
theorem dg_ox {D : DT} {m : Nat} {q : QT} {H : HT} (hF : XF D 5 m q) (hH : XH D 17 m q H) (hm6 : m ≤ 6) (K : Int64 → PM Int64) (h0 : Int64) : ∀ (F k : Nat), k ≤ m → m - k < F → P_X7_digest_33 K 1 F (oF q H k h0) (nI k) (hp B D) = K (oF q H m h0) (hp B D) := by
  intro F
  induction F with
  | zero => intro k h1 h2; omega
  | succ F ih =>
    intro k h1 h2
    by_cases e : k = m
    · have c1 : nI m ≤ nI k := by rw [e]; exact nI_le (Nat.le_refl _) (by omega)
      simp only [P_X7_digest_33, pureM_hp, ifB_t, ifB_f, decide_true, decide_false, ifB_hp, jn_hp, retZ_0, retZ_1, thn_some, cll0_w, cllV_w, getI_w, getL_w, getR_w, setI_w, setZ_w0, setZ_w1, setL_w, ald_w, ast_w, alen_w, aldR_2, aldR_3, aldR_4, aldR_22, cll0_pure, ↓reduceIte, if_true, if_false, Bool.false_eq_true, reduceCtorEq, and_true, true_and, and_false, false_and, ite_self, kI_1_9, kI_1_10, kI_5_4, kI_5_5, kI_5_6, kI_10_1, kI_11_4, kI_11_5, kI_11_6, kI_16_2, kI_16_3, kI_16_4, kI_16_5, kI_16_6, kI_17_2, kI_17_3, kI_21_4, kI_21_5, kI_21_6, kI_21_7, kI_21_8, kI_21_9, kI_21_10, kI_21_11, kI_26_2, kI_26_3, kI_29_2, kI_29_3, kI_32_2, kI_32_3, kI_35_2, kI_39_2, kI_39_3, kI_41_2, kI_41_3, kI_43_2, kI_43_3, kI_45_2, kI_45_3, kI_47_2, kI_47_3, kI_49_2, kI_49_3, kI_51_2, kI_51_3, kI_53_2, kI_53_3, kI_55_2, kI_55_3, kI_57_2, kI_57_3, kI_59_2, kI_59_3, kI_59_4, kI_59_5, kI_59_6, kI_60_2, kI_60_3, kI_64_2, kI_64_3, kI_64_4, kI_64_5, kI_64_6, kI_65_2, kI_65_3, kI_69_2, kI_69_3, kI_69_4, kI_69_5, kI_69_6, kI_70_2, kI_70_3, kI_74_10, kI_74_11, kI_74_12, kI_74_14, kI_74_18, kI_74_19, kI_74_20, kI_74_21, kI_74_22, kI_74_23, kI_74_29, kI_74_30, kI_74_31, kI_74_32, kI_74_33, kR_1_0, kR_1_1, kR_1_2, kR_1_3, kR_1_4, kR_1_5, kR_1_6, kR_1_7, kR_1_8, kR_5_0, kR_5_1, kR_5_2, kR_5_3, kR_10_0, kR_11_0, kR_11_1, kR_11_2, kR_11_3, kR_16_0, kR_16_1, kR_17_0, kR_17_1, kR_21_0, kR_21_1, kR_21_2, kR_21_3, kR_26_0, kR_26_1, kR_29_0, kR_29_1, kR_32_0, kR_32_1, kR_35_0, kR_35_1, kR_39_0, kR_41_0, kR_43_0, kR_45_0, kR_47_0, kR_49_0, kR_51_0, kR_53_0, kR_55_0, kR_57_0, kR_59_0, kR_59_1, kR_60_0, kR_60_1, kR_64_0, kR_64_1, kR_65_0, kR_65_1, kR_69_0, kR_69_1, kR_70_0, kR_70_1, kR_74_0, kR_74_1, kR_74_2, kR_74_3, kR_74_4, kR_74_5, kR_74_6, kR_74_7, kR_74_8, kR_74_9, kR_74_13, kR_74_17, kR_74_24, kR_74_25, kR_74_26, kR_74_27, kR_74_28, kR_74_34, kR_74_35, kR_74_36, kL_1_11, kL_1_12, kL_74_15, kL_74_16, kK_39_1, kK_41_1, kK_43_1, kK_45_1, kK_47_1, kK_49_1, kK_51_1, kK_53_1, kK_55_1, kK_57_1, kA_6, kA_7, kA_8, kA_9, kA_12, kA_13, kA_14, kA_15, kA_18, kA_19, kA_20, kA_23, kA_24, kA_25, kA_27, kA_28, kA_30, kA_31, kA_33, kA_34, kA_36, kA_37, kA_38, kA_40, kA_42, kA_44, kA_46, kA_48, kA_50, kA_52, kA_54, kA_56, kA_58, kA_61, kA_62, kA_63, kA_66, kA_67, kA_68, kA_71, kA_72, kA_73, kA_75, kA_76, kA_77, kA_78, kA_79, kA_80, kA_81, kA_82, kA_83, kA_84, kA_85, kA_86, kA_87, kA_88, kA_89, kA_90, kA_91, kA_92, kA_93, kA_94, kQ_2, kQ_3, kQ_4, kQ_22, kC_1, kC_5, kC_10, kC_11, kC_16, kC_17, kC_21, kC_26, kC_29, kC_32, kC_35, kC_39, kC_41, kC_43, kC_45, kC_47, kC_49, kC_51, kC_53, kC_55, kC_57, kC_59, kC_60, kC_64, kC_65, kC_69, kC_70, kC_74, hF.1, c1]
      rw [e]
    · have c1 : ¬ nI m ≤ nI k := nI_ge (by omega) (by omega)
      have t := dg_fx (B := B) hF hH hm6 (show k < m by omega) (fun e => P_X7_digest_33 K 1 F e (nI (k + 1))) (oF q H k h0) 4000 0 (by omega) (by omega)
      rw [show mx (fct q H k) 0 (oF q H k h0) = oF q H k h0 from rfl, nI_0] at t
      simp only [P_X7_digest_33, pureM_hp, ifB_t, ifB_f, decide_true, decide_false, ifB_hp, jn_hp, retZ_0, retZ_1, thn_some, cll0_w, cllV_w, getI_w, getL_w, getR_w, setI_w, setZ_w0, setZ_w1, setL_w, ald_w, ast_w, alen_w, aldR_2, aldR_3, aldR_4, aldR_22, cll0_pure, ↓reduceIte, if_true, if_false, Bool.false_eq_true, reduceCtorEq, and_true, true_and, and_false, false_and, ite_self, kI_1_9, kI_1_10, kI_5_4, kI_5_5, kI_5_6, kI_10_1, kI_11_4, kI_11_5, kI_11_6, kI_16_2, kI_16_3, kI_16_4, kI_16_5, kI_16_6, kI_17_2, kI_17_3, kI_21_4, kI_21_5, kI_21_6, kI_21_7, kI_21_8, kI_21_9, kI_21_10, kI_21_11, kI_26_2, kI_26_3, kI_29_2, kI_29_3, kI_32_2, kI_32_3, kI_35_2, kI_39_2, kI_39_3, kI_41_2, kI_41_3, kI_43_2, kI_43_3, kI_45_2, kI_45_3, kI_47_2, kI_47_3, kI_49_2, kI_49_3, kI_51_2, kI_51_3, kI_53_2, kI_53_3, kI_55_2, kI_55_3, kI_57_2, kI_57_3, kI_59_2, kI_59_3, kI_59_4, kI_59_5, kI_59_6, kI_60_2, kI_60_3, kI_64_2, kI_64_3, kI_64_4, kI_64_5, kI_64_6, kI_65_2, kI_65_3, kI_69_2, kI_69_3, kI_69_4, kI_69_5, kI_69_6, kI_70_2, kI_70_3, kI_74_10, kI_74_11, kI_74_12, kI_74_14, kI_74_18, kI_74_19, kI_74_20, kI_74_21, kI_74_22, kI_74_23, kI_74_29, kI_74_30, kI_74_31, kI_74_32, kI_74_33, kR_1_0, kR_1_1, kR_1_2, kR_1_3, kR_1_4, kR_1_5, kR_1_6, kR_1_7, kR_1_8, kR_5_0, kR_5_1, kR_5_2, kR_5_3, kR_10_0, kR_11_0, kR_11_1, kR_11_2, kR_11_3, kR_16_0, kR_16_1, kR_17_0, kR_17_1, kR_21_0, kR_21_1, kR_21_2, kR_21_3, kR_26_0, kR_26_1, kR_29_0, kR_29_1, kR_32_0, kR_32_1, kR_35_0, kR_35_1, kR_39_0, kR_41_0, kR_43_0, kR_45_0, kR_47_0, kR_49_0, kR_51_0, kR_53_0, kR_55_0, kR_57_0, kR_59_0, kR_59_1, kR_60_0, kR_60_1, kR_64_0, kR_64_1, kR_65_0, kR_65_1, kR_69_0, kR_69_1, kR_70_0, kR_70_1, kR_74_0, kR_74_1, kR_74_2, kR_74_3, kR_74_4, kR_74_5, kR_74_6, kR_74_7, kR_74_8, kR_74_9, kR_74_13, kR_74_17, kR_74_24, kR_74_25, kR_74_26, kR_74_27, kR_74_28, kR_74_34, kR_74_35, kR_74_36, kL_1_11, kL_1_12, kL_74_15, kL_74_16, kK_39_1, kK_41_1, kK_43_1, kK_45_1, kK_47_1, kK_49_1, kK_51_1, kK_53_1, kK_55_1, kK_57_1, kA_6, kA_7, kA_8, kA_9, kA_12, kA_13, kA_14, kA_15, kA_18, kA_19, kA_20, kA_23, kA_24, kA_25, kA_27, kA_28, kA_30, kA_31, kA_33, kA_34, kA_36, kA_37, kA_38, kA_40, kA_42, kA_44, kA_46, kA_48, kA_50, kA_52, kA_54, kA_56, kA_58, kA_61, kA_62, kA_63, kA_66, kA_67, kA_68, kA_71, kA_72, kA_73, kA_75, kA_76, kA_77, kA_78, kA_79, kA_80, kA_81, kA_82, kA_83, kA_84, kA_85, kA_86, kA_87, kA_88, kA_89, kA_90, kA_91, kA_92, kA_93, kA_94, kQ_2, kQ_3, kQ_4, kQ_22, kC_1, kC_5, kC_10, kC_11, kC_16, kC_17, kC_21, kC_26, kC_29, kC_32, kC_35, kC_39, kC_41, kC_43, kC_45, kC_47, kC_49, kC_51, kC_53, kC_55, kC_57, kC_59, kC_60, kC_64, kC_65, kC_69, kC_70, kC_74, hF.1, c1, nI_p1, t]
      exact ih (k + 1) (by omega) (by omega)
theorem dg_om {D : DT} {m : Nat} {q : QT} {H : HT} (hF : MF D m q) (hH : MH D 0 H) (hm6 : m ≤ 6) (K : Int64 → PM Int64) (h0 : Int64) : ∀ (F k : Nat), k ≤ m → m - k < F → P_X8_digest_33 K 74 F (oF q H k h0) (nI k) (hp B D) = K (oF q H m h0) (hp B D) := by
  intro F
  induction F with
  | zero => intro k h1 h2; omega
  | succ F ih =>
    intro k h1 h2
    by_cases e : k = m
    · have c1 : nI m ≤ nI k := by rw [e]; exact nI_le (Nat.le_refl _) (by omega)
      simp only [P_X8_digest_33, pureM_hp, ifB_t, ifB_f, decide_true, decide_false, ifB_hp, jn_hp, retZ_0, retZ_1, thn_some, cll0_w, cllV_w, getI_w, getL_w, getR_w, setI_w, setZ_w0, setZ_w1, setL_w, ald_w, ast_w, alen_w, aldR_2, aldR_3, aldR_4, aldR_22, cll0_pure, ↓reduceIte, if_true, if_false, Bool.false_eq_true, reduceCtorEq, and_true, true_and, and_false, false_and, ite_self, kI_1_9, kI_1_10, kI_5_4, kI_5_5, kI_5_6, kI_10_1, kI_11_4, kI_11_5, kI_11_6, kI_16_2, kI_16_3, kI_16_4, kI_16_5, kI_16_6, kI_17_2, kI_17_3, kI_21_4, kI_21_5, kI_21_6, kI_21_7, kI_21_8, kI_21_9, kI_21_10, kI_21_11, kI_26_2, kI_26_3, kI_29_2, kI_29_3, kI_32_2, kI_32_3, kI_35_2, kI_39_2, kI_39_3, kI_41_2, kI_41_3, kI_43_2, kI_43_3, kI_45_2, kI_45_3, kI_47_2, kI_47_3, kI_49_2, kI_49_3, kI_51_2, kI_51_3, kI_53_2, kI_53_3, kI_55_2, kI_55_3, kI_57_2, kI_57_3, kI_59_2, kI_59_3, kI_59_4, kI_59_5, kI_59_6, kI_60_2, kI_60_3, kI_64_2, kI_64_3, kI_64_4, kI_64_5, kI_64_6, kI_65_2, kI_65_3, kI_69_2, kI_69_3, kI_69_4, kI_69_5, kI_69_6, kI_70_2, kI_70_3, kI_74_10, kI_74_11, kI_74_12, kI_74_14, kI_74_18, kI_74_19, kI_74_20, kI_74_21, kI_74_22, kI_74_23, kI_74_29, kI_74_30, kI_74_31, kI_74_32, kI_74_33, kR_1_0, kR_1_1, kR_1_2, kR_1_3, kR_1_4, kR_1_5, kR_1_6, kR_1_7, kR_1_8, kR_5_0, kR_5_1, kR_5_2, kR_5_3, kR_10_0, kR_11_0, kR_11_1, kR_11_2, kR_11_3, kR_16_0, kR_16_1, kR_17_0, kR_17_1, kR_21_0, kR_21_1, kR_21_2, kR_21_3, kR_26_0, kR_26_1, kR_29_0, kR_29_1, kR_32_0, kR_32_1, kR_35_0, kR_35_1, kR_39_0, kR_41_0, kR_43_0, kR_45_0, kR_47_0, kR_49_0, kR_51_0, kR_53_0, kR_55_0, kR_57_0, kR_59_0, kR_59_1, kR_60_0, kR_60_1, kR_64_0, kR_64_1, kR_65_0, kR_65_1, kR_69_0, kR_69_1, kR_70_0, kR_70_1, kR_74_0, kR_74_1, kR_74_2, kR_74_3, kR_74_4, kR_74_5, kR_74_6, kR_74_7, kR_74_8, kR_74_9, kR_74_13, kR_74_17, kR_74_24, kR_74_25, kR_74_26, kR_74_27, kR_74_28, kR_74_34, kR_74_35, kR_74_36, kL_1_11, kL_1_12, kL_74_15, kL_74_16, kK_39_1, kK_41_1, kK_43_1, kK_45_1, kK_47_1, kK_49_1, kK_51_1, kK_53_1, kK_55_1, kK_57_1, kA_6, kA_7, kA_8, kA_9, kA_12, kA_13, kA_14, kA_15, kA_18, kA_19, kA_20, kA_23, kA_24, kA_25, kA_27, kA_28, kA_30, kA_31, kA_33, kA_34, kA_36, kA_37, kA_38, kA_40, kA_42, kA_44, kA_46, kA_48, kA_50, kA_52, kA_54, kA_56, kA_58, kA_61, kA_62, kA_63, kA_66, kA_67, kA_68, kA_71, kA_72, kA_73, kA_75, kA_76, kA_77, kA_78, kA_79, kA_80, kA_81, kA_82, kA_83, kA_84, kA_85, kA_86, kA_87, kA_88, kA_89, kA_90, kA_91, kA_92, kA_93, kA_94, kQ_2, kQ_3, kQ_4, kQ_22, kC_1, kC_5, kC_10, kC_11, kC_16, kC_17, kC_21, kC_26, kC_29, kC_32, kC_35, kC_39, kC_41, kC_43, kC_45, kC_47, kC_49, kC_51, kC_53, kC_55, kC_57, kC_59, kC_60, kC_64, kC_65, kC_69, kC_70, kC_74, hF.1, c1]
      rw [e]
    · have c1 : ¬ nI m ≤ nI k := nI_ge (by omega) (by omega)
      have t := dg_fm (B := B) hF hH hm6 (show k < m by omega) (fun e => P_X8_digest_33 K 74 F e (nI (k + 1))) (oF q H k h0) 4000 0 (by omega) (by omega)
      rw [show mx (fct q H k) 0 (oF q H k h0) = oF q H k h0 from rfl, nI_0] at t
      simp only [P_X8_digest_33, pureM_hp, ifB_t, ifB_f, decide_true, decide_false, ifB_hp, jn_hp, retZ_0, retZ_1, thn_some, cll0_w, cllV_w, getI_w, getL_w, getR_w, setI_w, setZ_w0, setZ_w1, setL_w, ald_w, ast_w, alen_w, aldR_2, aldR_3, aldR_4, aldR_22, cll0_pure, ↓reduceIte, if_true, if_false, Bool.false_eq_true, reduceCtorEq, and_true, true_and, and_false, false_and, ite_self, kI_1_9, kI_1_10, kI_5_4, kI_5_5, kI_5_6, kI_10_1, kI_11_4, kI_11_5, kI_11_6, kI_16_2, kI_16_3, kI_16_4, kI_16_5, kI_16_6, kI_17_2, kI_17_3, kI_21_4, kI_21_5, kI_21_6, kI_21_7, kI_21_8, kI_21_9, kI_21_10, kI_21_11, kI_26_2, kI_26_3, kI_29_2, kI_29_3, kI_32_2, kI_32_3, kI_35_2, kI_39_2, kI_39_3, kI_41_2, kI_41_3, kI_43_2, kI_43_3, kI_45_2, kI_45_3, kI_47_2, kI_47_3, kI_49_2, kI_49_3, kI_51_2, kI_51_3, kI_53_2, kI_53_3, kI_55_2, kI_55_3, kI_57_2, kI_57_3, kI_59_2, kI_59_3, kI_59_4, kI_59_5, kI_59_6, kI_60_2, kI_60_3, kI_64_2, kI_64_3, kI_64_4, kI_64_5, kI_64_6, kI_65_2, kI_65_3, kI_69_2, kI_69_3, kI_69_4, kI_69_5, kI_69_6, kI_70_2, kI_70_3, kI_74_10, kI_74_11, kI_74_12, kI_74_14, kI_74_18, kI_74_19, kI_74_20, kI_74_21, kI_74_22, kI_74_23, kI_74_29, kI_74_30, kI_74_31, kI_74_32, kI_74_33, kR_1_0, kR_1_1, kR_1_2, kR_1_3, kR_1_4, kR_1_5, kR_1_6, kR_1_7, kR_1_8, kR_5_0, kR_5_1, kR_5_2, kR_5_3, kR_10_0, kR_11_0, kR_11_1, kR_11_2, kR_11_3, kR_16_0, kR_16_1, kR_17_0, kR_17_1, kR_21_0, kR_21_1, kR_21_2, kR_21_3, kR_26_0, kR_26_1, kR_29_0, kR_29_1, kR_32_0, kR_32_1, kR_35_0, kR_35_1, kR_39_0, kR_41_0, kR_43_0, kR_45_0, kR_47_0, kR_49_0, kR_51_0, kR_53_0, kR_55_0, kR_57_0, kR_59_0, kR_59_1, kR_60_0, kR_60_1, kR_64_0, kR_64_1, kR_65_0, kR_65_1, kR_69_0, kR_69_1, kR_70_0, kR_70_1, kR_74_0, kR_74_1, kR_74_2, kR_74_3, kR_74_4, kR_74_5, kR_74_6, kR_74_7, kR_74_8, kR_74_9, kR_74_13, kR_74_17, kR_74_24, kR_74_25, kR_74_26, kR_74_27, kR_74_28, kR_74_34, kR_74_35, kR_74_36, kL_1_11, kL_1_12, kL_74_15, kL_74_16, kK_39_1, kK_41_1, kK_43_1, kK_45_1, kK_47_1, kK_49_1, kK_51_1, kK_53_1, kK_55_1, kK_57_1, kA_6, kA_7, kA_8, kA_9, kA_12, kA_13, kA_14, kA_15, kA_18, kA_19, kA_20, kA_23, kA_24, kA_25, kA_27, kA_28, kA_30, kA_31, kA_33, kA_34, kA_36, kA_37, kA_38, kA_40, kA_42, kA_44, kA_46, kA_48, kA_50, kA_52, kA_54, kA_56, kA_58, kA_61, kA_62, kA_63, kA_66, kA_67, kA_68, kA_71, kA_72, kA_73, kA_75, kA_76, kA_77, kA_78, kA_79, kA_80, kA_81, kA_82, kA_83, kA_84, kA_85, kA_86, kA_87, kA_88, kA_89, kA_90, kA_91, kA_92, kA_93, kA_94, kQ_2, kQ_3, kQ_4, kQ_22, kC_1, kC_5, kC_10, kC_11, kC_16, kC_17, kC_21, kC_26, kC_29, kC_32, kC_35, kC_39, kC_41, kC_43, kC_45, kC_47, kC_49, kC_51, kC_53, kC_55, kC_57, kC_59, kC_60, kC_64, kC_65, kC_69, kC_70, kC_74, hF.1, c1, nI_p1, t]
      exact ih (k + 1) (by omega) (by omega)
theorem dg_kx {D : DT} {m : Nat} {q : QT} {s c : Int32} (hK : ∀ k, k < 3 → KeptI D m q s c k) (K : Int64 → PM Int64) (h0 : Int64) : ∀ (F k : Nat), k ≤ 3 → 3 - k < F → P_X7_digest_83 K 1 F (mx (fG D 80) k h0) (nI k) (hp B D) = K (mx (fG D 80) 3 h0) (hp B D) := by
  intro F
  induction F with
  | zero => intro k h1 h2; omega
  | succ F ih =>
    intro k h1 h2
    by_cases e : k = 3
    · subst e
      simp only [P_X7_digest_83, ifB_hp]
      rw [if_pos (show (3 : Int32) ≤ nI 3 by decide)]
    · have hk : k < 3 := by omega
      have c1 : ¬ (3 : Int32) ≤ nI k := show ¬ nI 3 ≤ nI k from nI_ge (by omega) (by omega)
      have cx : 0 ≤ (nI k).toInt ∧ (nI k).toInt < 3 := by rw [nI_toInt (by omega)]; omega
      obtain ⟨a1, a2, a3, a4, a5, a6, a7, a8, a9, a10⟩ := ni_k hk
      have i := ih (k + 1) (by omega) (by omega)
      rcases hK k hk with ⟨g1, g2⟩ | ⟨g1, ds, -, g2, -, g3⟩
      · simp only [P_X7_digest_83, pureM_hp, ifB_t, ifB_f, decide_true, decide_false, ifB_hp, jn_hp, retZ_0, retZ_1, thn_some, cll0_w, cllV_w, getI_w, getL_w, getR_w, setI_w, setZ_w0, setZ_w1, setL_w, ald_w, ast_w, alen_w, aldR_2, aldR_3, aldR_4, aldR_22, cll0_pure, ↓reduceIte, if_true, if_false, Bool.false_eq_true, reduceCtorEq, and_true, true_and, and_false, false_and, ite_self, kI_1_9, kI_1_10, kI_5_4, kI_5_5, kI_5_6, kI_10_1, kI_11_4, kI_11_5, kI_11_6, kI_16_2, kI_16_3, kI_16_4, kI_16_5, kI_16_6, kI_17_2, kI_17_3, kI_21_4, kI_21_5, kI_21_6, kI_21_7, kI_21_8, kI_21_9, kI_21_10, kI_21_11, kI_26_2, kI_26_3, kI_29_2, kI_29_3, kI_32_2, kI_32_3, kI_35_2, kI_39_2, kI_39_3, kI_41_2, kI_41_3, kI_43_2, kI_43_3, kI_45_2, kI_45_3, kI_47_2, kI_47_3, kI_49_2, kI_49_3, kI_51_2, kI_51_3, kI_53_2, kI_53_3, kI_55_2, kI_55_3, kI_57_2, kI_57_3, kI_59_2, kI_59_3, kI_59_4, kI_59_5, kI_59_6, kI_60_2, kI_60_3, kI_64_2, kI_64_3, kI_64_4, kI_64_5, kI_64_6, kI_65_2, kI_65_3, kI_69_2, kI_69_3, kI_69_4, kI_69_5, kI_69_6, kI_70_2, kI_70_3, kI_74_10, kI_74_11, kI_74_12, kI_74_14, kI_74_18, kI_74_19, kI_74_20, kI_74_21, kI_74_22, kI_74_23, kI_74_29, kI_74_30, kI_74_31, kI_74_32, kI_74_33, kR_1_0, kR_1_1, kR_1_2, kR_1_3, kR_1_4, kR_1_5, kR_1_6, kR_1_7, kR_1_8, kR_5_0, kR_5_1, kR_5_2, kR_5_3, kR_10_0, kR_11_0, kR_11_1, kR_11_2, kR_11_3, kR_16_0, kR_16_1, kR_17_0, kR_17_1, kR_21_0, kR_21_1, kR_21_2, kR_21_3, kR_26_0, kR_26_1, kR_29_0, kR_29_1, kR_32_0, kR_32_1, kR_35_0, kR_35_1, kR_39_0, kR_41_0, kR_43_0, kR_45_0, kR_47_0, kR_49_0, kR_51_0, kR_53_0, kR_55_0, kR_57_0, kR_59_0, kR_59_1, kR_60_0, kR_60_1, kR_64_0, kR_64_1, kR_65_0, kR_65_1, kR_69_0, kR_69_1, kR_70_0, kR_70_1, kR_74_0, kR_74_1, kR_74_2, kR_74_3, kR_74_4, kR_74_5, kR_74_6, kR_74_7, kR_74_8, kR_74_9, kR_74_13, kR_74_17, kR_74_24, kR_74_25, kR_74_26, kR_74_27, kR_74_28, kR_74_34, kR_74_35, kR_74_36, kL_1_11, kL_1_12, kL_74_15, kL_74_16, kK_39_1, kK_41_1, kK_43_1, kK_45_1, kK_47_1, kK_49_1, kK_51_1, kK_53_1, kK_55_1, kK_57_1, kA_6, kA_7, kA_8, kA_9, kA_12, kA_13, kA_14, kA_15, kA_18, kA_19, kA_20, kA_23, kA_24, kA_25, kA_27, kA_28, kA_30, kA_31, kA_33, kA_34, kA_36, kA_37, kA_38, kA_40, kA_42, kA_44, kA_46, kA_48, kA_50, kA_52, kA_54, kA_56, kA_58, kA_61, kA_62, kA_63, kA_66, kA_67, kA_68, kA_71, kA_72, kA_73, kA_75, kA_76, kA_77, kA_78, kA_79, kA_80, kA_81, kA_82, kA_83, kA_84, kA_85, kA_86, kA_87, kA_88, kA_89, kA_90, kA_91, kA_92, kA_93, kA_94, kQ_2, kQ_3, kQ_4, kQ_22, kC_1, kC_5, kC_10, kC_11, kC_16, kC_17, kC_21, kC_26, kC_29, kC_32, kC_35, kC_39, kC_41, kC_43, kC_45, kC_47, kC_49, kC_51, kC_53, kC_55, kC_57, kC_59, kC_60, kC_64, kC_65, kC_69, kC_70, kC_74, c1, cx, nI_clamp (show k < 2 ^ 31 by omega), a8, g1, nI_p1]
        rw [← g2]
        exact i
      · have g4 : fI D (59 + 5 * k) 2 = fG D 80 k := by rw [g3]; exact g2.2.1
        have n10 : ¬ (1 : Int32) = 0 := by decide
        simp only [P_X7_digest_83, pureM_hp, ifB_t, ifB_f, decide_true, decide_false, ifB_hp, jn_hp, retZ_0, retZ_1, thn_some, cll0_w, cllV_w, getI_w, getL_w, getR_w, setI_w, setZ_w0, setZ_w1, setL_w, ald_w, ast_w, alen_w, aldR_2, aldR_3, aldR_4, aldR_22, cll0_pure, ↓reduceIte, if_true, if_false, Bool.false_eq_true, reduceCtorEq, and_true, true_and, and_false, false_and, ite_self, kI_1_9, kI_1_10, kI_5_4, kI_5_5, kI_5_6, kI_10_1, kI_11_4, kI_11_5, kI_11_6, kI_16_2, kI_16_3, kI_16_4, kI_16_5, kI_16_6, kI_17_2, kI_17_3, kI_21_4, kI_21_5, kI_21_6, kI_21_7, kI_21_8, kI_21_9, kI_21_10, kI_21_11, kI_26_2, kI_26_3, kI_29_2, kI_29_3, kI_32_2, kI_32_3, kI_35_2, kI_39_2, kI_39_3, kI_41_2, kI_41_3, kI_43_2, kI_43_3, kI_45_2, kI_45_3, kI_47_2, kI_47_3, kI_49_2, kI_49_3, kI_51_2, kI_51_3, kI_53_2, kI_53_3, kI_55_2, kI_55_3, kI_57_2, kI_57_3, kI_59_2, kI_59_3, kI_59_4, kI_59_5, kI_59_6, kI_60_2, kI_60_3, kI_64_2, kI_64_3, kI_64_4, kI_64_5, kI_64_6, kI_65_2, kI_65_3, kI_69_2, kI_69_3, kI_69_4, kI_69_5, kI_69_6, kI_70_2, kI_70_3, kI_74_10, kI_74_11, kI_74_12, kI_74_14, kI_74_18, kI_74_19, kI_74_20, kI_74_21, kI_74_22, kI_74_23, kI_74_29, kI_74_30, kI_74_31, kI_74_32, kI_74_33, kR_1_0, kR_1_1, kR_1_2, kR_1_3, kR_1_4, kR_1_5, kR_1_6, kR_1_7, kR_1_8, kR_5_0, kR_5_1, kR_5_2, kR_5_3, kR_10_0, kR_11_0, kR_11_1, kR_11_2, kR_11_3, kR_16_0, kR_16_1, kR_17_0, kR_17_1, kR_21_0, kR_21_1, kR_21_2, kR_21_3, kR_26_0, kR_26_1, kR_29_0, kR_29_1, kR_32_0, kR_32_1, kR_35_0, kR_35_1, kR_39_0, kR_41_0, kR_43_0, kR_45_0, kR_47_0, kR_49_0, kR_51_0, kR_53_0, kR_55_0, kR_57_0, kR_59_0, kR_59_1, kR_60_0, kR_60_1, kR_64_0, kR_64_1, kR_65_0, kR_65_1, kR_69_0, kR_69_1, kR_70_0, kR_70_1, kR_74_0, kR_74_1, kR_74_2, kR_74_3, kR_74_4, kR_74_5, kR_74_6, kR_74_7, kR_74_8, kR_74_9, kR_74_13, kR_74_17, kR_74_24, kR_74_25, kR_74_26, kR_74_27, kR_74_28, kR_74_34, kR_74_35, kR_74_36, kL_1_11, kL_1_12, kL_74_15, kL_74_16, kK_39_1, kK_41_1, kK_43_1, kK_45_1, kK_47_1, kK_49_1, kK_51_1, kK_53_1, kK_55_1, kK_57_1, kA_6, kA_7, kA_8, kA_9, kA_12, kA_13, kA_14, kA_15, kA_18, kA_19, kA_20, kA_23, kA_24, kA_25, kA_27, kA_28, kA_30, kA_31, kA_33, kA_34, kA_36, kA_37, kA_38, kA_40, kA_42, kA_44, kA_46, kA_48, kA_50, kA_52, kA_54, kA_56, kA_58, kA_61, kA_62, kA_63, kA_66, kA_67, kA_68, kA_71, kA_72, kA_73, kA_75, kA_76, kA_77, kA_78, kA_79, kA_80, kA_81, kA_82, kA_83, kA_84, kA_85, kA_86, kA_87, kA_88, kA_89, kA_90, kA_91, kA_92, kA_93, kA_94, kQ_2, kQ_3, kQ_4, kQ_22, kC_1, kC_5, kC_10, kC_11, kC_16, kC_17, kC_21, kC_26, kC_29, kC_32, kC_35, kC_39, kC_41, kC_43, kC_45, kC_47, kC_49, kC_51, kC_53, kC_55, kC_57, kC_59, kC_60, kC_64, kC_65, kC_69, kC_70, kC_74, c1, cx, nI_clamp (show k < 2 ^ 31 by omega), a8, a4, g1, n10, g4, nI_p1]
        exact i
theorem dg_km {D : DT} (K : Int64 → PM Int64) (h0 : Int64) : ∀ (F k : Nat), k ≤ 3 → 3 - k < F → P_X8_digest_80 K 74 F (mx (fG D 80) k h0) (nI k) (hp B D) = K (mx (fG D 80) 3 h0) (hp B D) := by
  intro F
  induction F with
  | zero => intro k h1 h2; omega
  | succ F ih =>
    intro k h1 h2
    by_cases e : k = 3
    · subst e
      simp only [P_X8_digest_80, ifB_hp]
      rw [if_pos (show (3 : Int32) ≤ nI 3 by decide)]
    · have hk : k < 3 := by omega
      have c1 : ¬ (3 : Int32) ≤ nI k := show ¬ nI 3 ≤ nI k from nI_ge (by omega) (by omega)
      have cx : 0 ≤ (nI k).toInt ∧ (nI k).toInt < ((3 : Nat) : Int) := ixc (by omega) (by omega)
      simp only [P_X8_digest_80, pureM_hp, ifB_t, ifB_f, decide_true, decide_false, ifB_hp, jn_hp, retZ_0, retZ_1, thn_some, cll0_w, cllV_w, getI_w, getL_w, getR_w, setI_w, setZ_w0, setZ_w1, setL_w, ald_w, ast_w, alen_w, aldR_2, aldR_3, aldR_4, aldR_22, cll0_pure, ↓reduceIte, if_true, if_false, Bool.false_eq_true, reduceCtorEq, and_true, true_and, and_false, false_and, ite_self, kI_1_9, kI_1_10, kI_5_4, kI_5_5, kI_5_6, kI_10_1, kI_11_4, kI_11_5, kI_11_6, kI_16_2, kI_16_3, kI_16_4, kI_16_5, kI_16_6, kI_17_2, kI_17_3, kI_21_4, kI_21_5, kI_21_6, kI_21_7, kI_21_8, kI_21_9, kI_21_10, kI_21_11, kI_26_2, kI_26_3, kI_29_2, kI_29_3, kI_32_2, kI_32_3, kI_35_2, kI_39_2, kI_39_3, kI_41_2, kI_41_3, kI_43_2, kI_43_3, kI_45_2, kI_45_3, kI_47_2, kI_47_3, kI_49_2, kI_49_3, kI_51_2, kI_51_3, kI_53_2, kI_53_3, kI_55_2, kI_55_3, kI_57_2, kI_57_3, kI_59_2, kI_59_3, kI_59_4, kI_59_5, kI_59_6, kI_60_2, kI_60_3, kI_64_2, kI_64_3, kI_64_4, kI_64_5, kI_64_6, kI_65_2, kI_65_3, kI_69_2, kI_69_3, kI_69_4, kI_69_5, kI_69_6, kI_70_2, kI_70_3, kI_74_10, kI_74_11, kI_74_12, kI_74_14, kI_74_18, kI_74_19, kI_74_20, kI_74_21, kI_74_22, kI_74_23, kI_74_29, kI_74_30, kI_74_31, kI_74_32, kI_74_33, kR_1_0, kR_1_1, kR_1_2, kR_1_3, kR_1_4, kR_1_5, kR_1_6, kR_1_7, kR_1_8, kR_5_0, kR_5_1, kR_5_2, kR_5_3, kR_10_0, kR_11_0, kR_11_1, kR_11_2, kR_11_3, kR_16_0, kR_16_1, kR_17_0, kR_17_1, kR_21_0, kR_21_1, kR_21_2, kR_21_3, kR_26_0, kR_26_1, kR_29_0, kR_29_1, kR_32_0, kR_32_1, kR_35_0, kR_35_1, kR_39_0, kR_41_0, kR_43_0, kR_45_0, kR_47_0, kR_49_0, kR_51_0, kR_53_0, kR_55_0, kR_57_0, kR_59_0, kR_59_1, kR_60_0, kR_60_1, kR_64_0, kR_64_1, kR_65_0, kR_65_1, kR_69_0, kR_69_1, kR_70_0, kR_70_1, kR_74_0, kR_74_1, kR_74_2, kR_74_3, kR_74_4, kR_74_5, kR_74_6, kR_74_7, kR_74_8, kR_74_9, kR_74_13, kR_74_17, kR_74_24, kR_74_25, kR_74_26, kR_74_27, kR_74_28, kR_74_34, kR_74_35, kR_74_36, kL_1_11, kL_1_12, kL_74_15, kL_74_16, kK_39_1, kK_41_1, kK_43_1, kK_45_1, kK_47_1, kK_49_1, kK_51_1, kK_53_1, kK_55_1, kK_57_1, kA_6, kA_7, kA_8, kA_9, kA_12, kA_13, kA_14, kA_15, kA_18, kA_19, kA_20, kA_23, kA_24, kA_25, kA_27, kA_28, kA_30, kA_31, kA_33, kA_34, kA_36, kA_37, kA_38, kA_40, kA_42, kA_44, kA_46, kA_48, kA_50, kA_52, kA_54, kA_56, kA_58, kA_61, kA_62, kA_63, kA_66, kA_67, kA_68, kA_71, kA_72, kA_73, kA_75, kA_76, kA_77, kA_78, kA_79, kA_80, kA_81, kA_82, kA_83, kA_84, kA_85, kA_86, kA_87, kA_88, kA_89, kA_90, kA_91, kA_92, kA_93, kA_94, kQ_2, kQ_3, kQ_4, kQ_22, kC_1, kC_5, kC_10, kC_11, kC_16, kC_17, kC_21, kC_26, kC_29, kC_32, kC_35, kC_39, kC_41, kC_43, kC_45, kC_47, kC_49, kC_51, kC_53, kC_55, kC_57, kC_59, kC_60, kC_64, kC_65, kC_69, kC_70, kC_74, c1, cx, nI_clamp (show k < 2 ^ 31 by omega), nI_p1]
      exact ih (k + 1) (by omega) (by omega)
theorem dg_p0 {D : DT} {a p n b : Nat} (hr : isRw a p n b) (h3 : fI D a 3 = 0) (p2 : Nat) (p5 : Int32) (K : Int64 → PM Int64) (F : Nat) (h : Int64) (i : Int32) : P_X7_addPlaces_46 K p2 p5 a (F + 1) h i (hp B D) = K h (hp B D) := by
  obtain ⟨r1, r2, r3, r4, r5, r6, r7⟩ := id hr
  simp only [P_X7_addPlaces_46, pureM_hp, ifB_t, ifB_f, decide_true, decide_false, ifB_hp, jn_hp, retZ_0, retZ_1, thn_some, cll0_w, cllV_w, getI_w, getL_w, getR_w, setI_w, setZ_w0, setZ_w1, setL_w, ald_w, ast_w, alen_w, aldR_2, aldR_3, aldR_4, aldR_22, cll0_pure, ↓reduceIte, if_true, if_false, Bool.false_eq_true, reduceCtorEq, and_true, true_and, and_false, false_and, ite_self, r6, h3]
theorem dg_px {D : DT} {a p n b s : Nat} (hr : isRw a p n b) (h3 : fI D a 3 = 1) (h2 : fI D a 2 = nI s) (hs : s ≤ n) (hn : n ≤ 1000) (p2 : Nat) (p5 : Int32) (K : Int64 → PM Int64) (h0 : Int64) : ∀ (F k : Nat), k ≤ s → s - k < F → P_X7_addPlaces_46 K p2 p5 a F (mx (fG D p) k h0) (nI k) (hp B D) = K (mx (fG D p) s h0) (hp B D) := by
  intro F
  obtain ⟨r1, r2, r3, r4, r5, r6, r7⟩ := id hr
  have n10 : ¬ (1 : Int32) = 0 := by decide
  have ts := nI_toInt (show s < 2 ^ 31 by omega)
  induction F with
  | zero => intro k h1 h2; omega
  | succ F ih =>
    intro k h1 hk2
    by_cases e : k = s
    · have c1 : nI s ≤ nI k := by rw [e]; exact nI_le (Nat.le_refl _) (by omega)
      simp only [P_X7_addPlaces_46, pureM_hp, ifB_t, ifB_f, decide_true, decide_false, ifB_hp, jn_hp, retZ_0, retZ_1, thn_some, cll0_w, cllV_w, getI_w, getL_w, getR_w, setI_w, setZ_w0, setZ_w1, setL_w, ald_w, ast_w, alen_w, aldR_2, aldR_3, aldR_4, aldR_22, cll0_pure, ↓reduceIte, if_true, if_false, Bool.false_eq_true, reduceCtorEq, and_true, true_and, and_false, false_and, ite_self, r5, r6, h3, h2, n10, c1]
      rw [e]
    · have c1 : ¬ nI s ≤ nI k := nI_ge (by omega) (by omega)
      have cx : 0 ≤ (nI k).toInt ∧ (nI k).toInt < (s : Int) := ixc (by omega) (by omega)
      simp only [P_X7_addPlaces_46, pureM_hp, ifB_t, ifB_f, decide_true, decide_false, ifB_hp, jn_hp, retZ_0, retZ_1, thn_some, cll0_w, cllV_w, getI_w, getL_w, getR_w, setI_w, setZ_w0, setZ_w1, setL_w, ald_w, ast_w, alen_w, aldR_2, aldR_3, aldR_4, aldR_22, cll0_pure, ↓reduceIte, if_true, if_false, Bool.false_eq_true, reduceCtorEq, and_true, true_and, and_false, false_and, ite_self, r1, r5, r6, h3, h2, n10, c1, X5_get_hp hr (nI k) (show (fI D a 2).toInt ≤ n by rw [h2, ts]; omega), ts, cx, nI_clamp (show k < 2 ^ 31 by omega), nI_p1]
      exact ih (k + 1) (by omega) (by omega)
def mixF (sz pl : Nat → Int32) (w : Nat) : Nat → Int64 → Int64
  | 0, h => h
  | k + 1, h => mx (fun j => pl (w * k + j)) (sz k).toInt.toNat (31 * mixF sz pl w k h + (sz k).toInt64)
theorem dg_rx {D : DT} (hR : ∀ r, r < 6 → RowI D r) (h0 : Int64) : ∀ (F k : Nat), k ≤ 6 → 6 - k < F → P_X7_addPlaces_5 2 F (mixF (fG D 76) (fG D 75) 40 k h0) (nI k) (hp B D) = some (mixF (fG D 76) (fG D 75) 40 6 h0, hp B D) := by
  intro F
  have n10 : ¬ (1 : Int32) = 0 := by decide
  have m1 : ((-1 : Int32)).toInt.toNat = 0 := rfl
  induction F with
  | zero => intro k h1 h2; omega
  | succ F ih =>
    intro k h1 h2
    by_cases e : k = 6
    · subst e
      have c1 : (6 : Int32) ≤ nI 6 := by decide
      unfold P_X7_addPlaces_5
      rw [alen_2]
      simp only [pureM_hp, ifB_t, ifB_f, decide_true, decide_false, ifB_hp, jn_hp, retZ_0, retZ_1, thn_some, cll0_w, cllV_w, getI_w, getL_w, getR_w, setI_w, setZ_w0, setZ_w1, setL_w, ald_w, ast_w, alen_w, aldR_2, aldR_3, aldR_4, aldR_22, cll0_pure, ↓reduceIte, if_true, if_false, Bool.false_eq_true, reduceCtorEq, and_true, true_and, and_false, false_and, ite_self, c1]
    · have hk : k < 6 := by omega
      have c1 : ¬ (6 : Int32) ≤ nI k := show ¬ nI 6 ≤ nI k from nI_ge (by omega) (by omega)
      have cx : 0 ≤ (nI k).toInt ∧ (nI k).toInt < 6 := by rw [nI_toInt (by omega)]; omega
      have hr := row_is hk
      obtain ⟨r1, r2, r3, r4, r5, r6, r7⟩ := id hr
      have i := ih (k + 1) (by omega) (by omega)
      rcases hR k hk with ⟨g1, g2⟩ | ⟨g1, s, hs, g2, g3, g4⟩
      · unfold P_X7_addPlaces_5
        rw [alen_2]
        have e4 : P_X7_addPlaces_46 (fun e => P_X7_addPlaces_5 2 F e (nI (k + 1))) 2 (nI k) (39 + 2 * k) 4000 (31 * mixF (fG D 76) (fG D 75) 40 k h0 + (-1 : Int32).toInt64) 0 (hp B D) = P_X7_addPlaces_5 2 F (31 * mixF (fG D 76) (fG D 75) 40 k h0 + (-1 : Int32).toInt64) (nI (k + 1)) (hp B D) := dg_p0 hr g1 _ _ _ 3999 _ _
        simp only [pureM_hp, ifB_t, ifB_f, decide_true, decide_false, ifB_hp, jn_hp, retZ_0, retZ_1, thn_some, cll0_w, cllV_w, getI_w, getL_w, getR_w, setI_w, setZ_w0, setZ_w1, setL_w, ald_w, ast_w, alen_w, aldR_2, aldR_3, aldR_4, aldR_22, cll0_pure, ↓reduceIte, if_true, if_false, Bool.false_eq_true, reduceCtorEq, and_true, true_and, and_false, false_and, ite_self, c1, cx, nI_clamp (show k < 2 ^ 31 by omega), r6, g1, nI_p1, e4]
        rw [show mixF (fG D 76) (fG D 75) 40 (k + 1) h0 = mx (fun j => fG D 75 (40 * k + j)) (fG D 76 k).toInt.toNat (31 * mixF (fG D 76) (fG D 75) 40 k h0 + (fG D 76 k).toInt64) from rfl, g2, m1] at i
        exact i
      · unfold P_X7_addPlaces_5
        rw [alen_2]
        have t := dg_px (B := B) hr g1 g2 hs (by omega) 2 (nI k) (fun e => P_X7_addPlaces_5 2 F e (nI (k + 1))) (31 * mixF (fG D 76) (fG D 75) 40 k h0 + (nI s).toInt64) 4000 0 (by omega) (by omega)
        rw [show mx (fG D (40 + 2 * k)) 0 (31 * mixF (fG D 76) (fG D 75) 40 k h0 + (nI s).toInt64) = 31 * mixF (fG D 76) (fG D 75) 40 k h0 + (nI s).toInt64 from rfl, nI_0, mx_eq _ s g4] at t
        simp only [pureM_hp, ifB_t, ifB_f, decide_true, decide_false, ifB_hp, jn_hp, retZ_0, retZ_1, thn_some, cll0_w, cllV_w, getI_w, getL_w, getR_w, setI_w, setZ_w0, setZ_w1, setL_w, ald_w, ast_w, alen_w, aldR_2, aldR_3, aldR_4, aldR_22, cll0_pure, ↓reduceIte, if_true, if_false, Bool.false_eq_true, reduceCtorEq, and_true, true_and, and_false, false_and, ite_self, c1, cx, nI_clamp (show k < 2 ^ 31 by omega), r5, r6, g1, g2, n10, nI_p1, t]
        rw [show mixF (fG D 76) (fG D 75) 40 (k + 1) h0 = mx (fun j => fG D 75 (40 * k + j)) (fG D 76 k).toInt.toNat (31 * mixF (fG D 76) (fG D 75) 40 k h0 + (fG D 76 k).toInt64) from rfl, g3, nI_toInt (show s < 2 ^ 31 by omega), show ((s : Int)).toNat = s by omega] at i
        exact i
theorem dg_tx {D : DT} (hR : ∀ r, r < 4 → TxtI D r) (h0 : Int64) : ∀ (F k : Nat), k ≤ 4 → 4 - k < F → P_X7_addPlaces_5 3 F (mixF (fG D 78) (fG D 77) 60 k h0) (nI k) (hp B D) = some (mixF (fG D 78) (fG D 77) 60 4 h0, hp B D) := by
  intro F
  have n10 : ¬ (1 : Int32) = 0 := by decide
  have m1 : ((-1 : Int32)).toInt.toNat = 0 := rfl
  induction F with
  | zero => intro k h1 h2; omega
  | succ F ih =>
    intro k h1 h2
    by_cases e : k = 4
    · subst e
      have c1 : (4 : Int32) ≤ nI 4 := by decide
      unfold P_X7_addPlaces_5
      rw [alen_3]
      simp only [pureM_hp, ifB_t, ifB_f, decide_true, decide_false, ifB_hp, jn_hp, retZ_0, retZ_1, thn_some, cll0_w, cllV_w, getI_w, getL_w, getR_w, setI_w, setZ_w0, setZ_w1, setL_w, ald_w, ast_w, alen_w, aldR_2, aldR_3, aldR_4, aldR_22, cll0_pure, ↓reduceIte, if_true, if_false, Bool.false_eq_true, reduceCtorEq, and_true, true_and, and_false, false_and, ite_self, c1]
    · have hk : k < 4 := by omega
      have c1 : ¬ (4 : Int32) ≤ nI k := show ¬ nI 4 ≤ nI k from nI_ge (by omega) (by omega)
      have cx : 0 ≤ (nI k).toInt ∧ (nI k).toInt < 4 := by rw [nI_toInt (by omega)]; omega
      have hr := txt_is hk
      obtain ⟨r1, r2, r3, r4, r5, r6, r7⟩ := id hr
      have i := ih (k + 1) (by omega) (by omega)
      rcases hR k hk with ⟨g1, g2⟩ | ⟨g1, s, hs, g2, g3, g4⟩
      · unfold P_X7_addPlaces_5
        rw [alen_3]
        have e4 : P_X7_addPlaces_46 (fun e => P_X7_addPlaces_5 3 F e (nI (k + 1))) 3 (nI k) (51 + 2 * k) 4000 (31 * mixF (fG D 78) (fG D 77) 60 k h0 + (-1 : Int32).toInt64) 0 (hp B D) = P_X7_addPlaces_5 3 F (31 * mixF (fG D 78) (fG D 77) 60 k h0 + (-1 : Int32).toInt64) (nI (k + 1)) (hp B D) := dg_p0 hr g1 _ _ _ 3999 _ _
        simp only [pureM_hp, ifB_t, ifB_f, decide_true, decide_false, ifB_hp, jn_hp, retZ_0, retZ_1, thn_some, cll0_w, cllV_w, getI_w, getL_w, getR_w, setI_w, setZ_w0, setZ_w1, setL_w, ald_w, ast_w, alen_w, aldR_2, aldR_3, aldR_4, aldR_22, cll0_pure, ↓reduceIte, if_true, if_false, Bool.false_eq_true, reduceCtorEq, and_true, true_and, and_false, false_and, ite_self, c1, cx, nI_clamp (show k < 2 ^ 31 by omega), r6, g1, nI_p1, e4]
        rw [show mixF (fG D 78) (fG D 77) 60 (k + 1) h0 = mx (fun j => fG D 77 (60 * k + j)) (fG D 78 k).toInt.toNat (31 * mixF (fG D 78) (fG D 77) 60 k h0 + (fG D 78 k).toInt64) from rfl, g2, m1] at i
        exact i
      · unfold P_X7_addPlaces_5
        rw [alen_3]
        have t := dg_px (B := B) hr g1 g2 hs (by omega) 3 (nI k) (fun e => P_X7_addPlaces_5 3 F e (nI (k + 1))) (31 * mixF (fG D 78) (fG D 77) 60 k h0 + (nI s).toInt64) 4000 0 (by omega) (by omega)
        rw [show mx (fG D (52 + 2 * k)) 0 (31 * mixF (fG D 78) (fG D 77) 60 k h0 + (nI s).toInt64) = 31 * mixF (fG D 78) (fG D 77) 60 k h0 + (nI s).toInt64 from rfl, nI_0, mx_eq _ s g4] at t
        simp only [pureM_hp, ifB_t, ifB_f, decide_true, decide_false, ifB_hp, jn_hp, retZ_0, retZ_1, thn_some, cll0_w, cllV_w, getI_w, getL_w, getR_w, setI_w, setZ_w0, setZ_w1, setL_w, ald_w, ast_w, alen_w, aldR_2, aldR_3, aldR_4, aldR_22, cll0_pure, ↓reduceIte, if_true, if_false, Bool.false_eq_true, reduceCtorEq, and_true, true_and, and_false, false_and, ite_self, c1, cx, nI_clamp (show k < 2 ^ 31 by omega), r5, r6, g1, g2, n10, nI_p1, t]
        rw [show mixF (fG D 78) (fG D 77) 60 (k + 1) h0 = mx (fun j => fG D 77 (60 * k + j)) (fG D 78 k).toInt.toNat (31 * mixF (fG D 78) (fG D 77) 60 k h0 + (fG D 78 k).toInt64) from rfl, g3, nI_toInt (show s < 2 ^ 31 by omega), show ((s : Int)).toNat = s by omega] at i
        exact i
theorem dg_qm {D : DT} {a b n1 n2 w r s : Nat} (ha : kA a = some n1) (hb : kA b = some n2) (hr : r < n1) (hn1 : n1 < 100) (hw : w < 1000) (h2 : w * r + w ≤ n2) (hn2 : n2 < 100000) (hs : s ≤ w) (hz : fG D a r = nI s) (p4 : Int32) (K : Int64 → PM Int64) (h0 : Int64) : ∀ (F k : Nat), k ≤ s → s - k < F → P_X8_mixAll_30 K a b p4 (nI w) (nI r) F (mx (fun j => fG D b (w * r + j)) k h0) (nI k) (hp B D) = K (mx (fun j => fG D b (w * r + j)) s h0) (hp B D) := by
  intro F
  have cr := ixc hr (show n1 < 2 ^ 30 by omega)
  have cl := nI_clamp (show r < 2 ^ 31 by omega)
  induction F with
  | zero => intro k h1 h2; omega
  | succ F ih =>
    intro k h1 hk2
    by_cases e : k = s
    · have c1 : nI s ≤ nI k := by rw [e]; exact nI_le (Nat.le_refl _) (by omega)
      simp only [P_X8_mixAll_30, pureM_hp, ifB_t, ifB_f, decide_true, decide_false, ifB_hp, jn_hp, retZ_0, retZ_1, thn_some, cll0_w, cllV_w, getI_w, getL_w, getR_w, setI_w, setZ_w0, setZ_w1, setL_w, ald_w, ast_w, alen_w, aldR_2, aldR_3, aldR_4, aldR_22, cll0_pure, ↓reduceIte, if_true, if_false, Bool.false_eq_true, reduceCtorEq, and_true, true_and, and_false, false_and, ite_self, ha, cr, cl, hz, c1]
      rw [e]
    · have c1 : ¬ nI s ≤ nI k := nI_ge (by omega) (by omega)
      have ix : nI w * nI r + nI k = nI (w * r + k) := by rw [pk_mul, nI_add]
      have cx : 0 ≤ (nI (w * r + k)).toInt ∧ (nI (w * r + k)).toInt < (n2 : Int) := ixc (by omega) (by omega)
      simp only [P_X8_mixAll_30, pureM_hp, ifB_t, ifB_f, decide_true, decide_false, ifB_hp, jn_hp, retZ_0, retZ_1, thn_some, cll0_w, cllV_w, getI_w, getL_w, getR_w, setI_w, setZ_w0, setZ_w1, setL_w, ald_w, ast_w, alen_w, aldR_2, aldR_3, aldR_4, aldR_22, cll0_pure, ↓reduceIte, if_true, if_false, Bool.false_eq_true, reduceCtorEq, and_true, true_and, and_false, false_and, ite_self, ha, hb, cr, cl, hz, c1, ix, cx, nI_clamp (show w * r + k < 2 ^ 31 by omega), nI_p1]
      exact ih (k + 1) (by omega) (by omega)
theorem dg_q0 {D : DT} {a b n1 r : Nat} (ha : kA a = some n1) (hr : r < n1) (hn1 : n1 < 100) (hz : fG D a r = -1) (p4 p5 : Int32) (K : Int64 → PM Int64) (F : Nat) (h : Int64) : P_X8_mixAll_30 K a b p4 p5 (nI r) (F + 1) h 0 (hp B D) = K h (hp B D) := by
  have cr := ixc hr (show n1 < 2 ^ 30 by omega)
  have cl := nI_clamp (show r < 2 ^ 31 by omega)
  have l0 : (-1 : Int32) ≤ 0 := by decide
  simp only [P_X8_mixAll_30, pureM_hp, ifB_t, ifB_f, decide_true, decide_false, ifB_hp, jn_hp, retZ_0, retZ_1, thn_some, cll0_w, cllV_w, getI_w, getL_w, getR_w, setI_w, setZ_w0, setZ_w1, setL_w, ald_w, ast_w, alen_w, aldR_2, aldR_3, aldR_4, aldR_22, cll0_pure, ↓reduceIte, if_true, if_false, Bool.false_eq_true, reduceCtorEq, and_true, true_and, and_false, false_and, ite_self, ha, cr, cl, hz, l0]
theorem dg_mm {D : DT} {a b n1 n2 w : Nat} (ha : kA a = some n1) (hb : kA b = some n2) (hn1 : n1 < 100) (hw : w < 1000) (h2 : w * n1 ≤ n2) (hn2 : n2 < 100000) (hz : ∀ r, r < n1 → fG D a r = -1 ∨ ∃ s, s ≤ w ∧ fG D a r = nI s) (h0 : Int64) : ∀ (F k : Nat), k ≤ n1 → n1 - k < F → P_X8_mixAll_6 a b (nI n1) (nI w) F (mixF (fG D a) (fG D b) w k h0) (nI k) (hp B D) = some (mixF (fG D a) (fG D b) w n1 h0, hp B D) := by
  intro F
  have m1 : ((-1 : Int32)).toInt.toNat = 0 := rfl
  induction F with
  | zero => intro k h1 h2; omega
  | succ F ih =>
    intro k h1 hk2
    by_cases e : k = n1
    · have c1 : nI n1 ≤ nI k := by rw [e]; exact nI_le (Nat.le_refl _) (by omega)
      simp only [P_X8_mixAll_6, pureM_hp, ifB_t, ifB_f, decide_true, decide_false, ifB_hp, jn_hp, retZ_0, retZ_1, thn_some, cll0_w, cllV_w, getI_w, getL_w, getR_w, setI_w, setZ_w0, setZ_w1, setL_w, ald_w, ast_w, alen_w, aldR_2, aldR_3, aldR_4, aldR_22, cll0_pure, ↓reduceIte, if_true, if_false, Bool.false_eq_true, reduceCtorEq, and_true, true_and, and_false, false_and, ite_self, c1]
      rw [e]
    · have hk : k < n1 := by omega
      have c1 : ¬ nI n1 ≤ nI k := nI_ge (by omega) (by omega)
      have cx := ixc hk (show n1 < 2 ^ 30 by omega)
      have cl := nI_clamp (show k < 2 ^ 31 by omega)
      have i := ih (k + 1) (by omega) (by omega)
      rw [show mixF (fG D a) (fG D b) w (k + 1) h0 = mx (fun j => fG D b (w * k + j)) (fG D a k).toInt.toNat (31 * mixF (fG D a) (fG D b) w k h0 + (fG D a k).toInt64) from rfl] at i
      rcases hz k hk with g | ⟨s, hs, g⟩
      · have l0 : (-1 : Int32) ≤ 0 := by decide
        have e4 : P_X8_mixAll_30 (fun e => P_X8_mixAll_6 a b (nI n1) (nI w) F e (nI (k + 1))) a b (nI n1) (nI w) (nI k) 4000 (31 * mixF (fG D a) (fG D b) w k h0 + (-1 : Int32).toInt64) 0 (hp B D) = P_X8_mixAll_6 a b (nI n1) (nI w) F (31 * mixF (fG D a) (fG D b) w k h0 + (-1 : Int32).toInt64) (nI (k + 1)) (hp B D) := dg_q0 ha hk hn1 g _ _ _ 3999 _
        simp only [P_X8_mixAll_6, pureM_hp, ifB_t, ifB_f, decide_true, decide_false, ifB_hp, jn_hp, retZ_0, retZ_1, thn_some, cll0_w, cllV_w, getI_w, getL_w, getR_w, setI_w, setZ_w0, setZ_w1, setL_w, ald_w, ast_w, alen_w, aldR_2, aldR_3, aldR_4, aldR_22, cll0_pure, ↓reduceIte, if_true, if_false, Bool.false_eq_true, reduceCtorEq, and_true, true_and, and_false, false_and, ite_self, c1, ha, cx, cl, g, nI_p1, e4]
        rw [g, m1] at i
        exact i
      · have hwk : w * k + w ≤ w * n1 := by
          have := Nat.mul_le_mul_left w (show k + 1 ≤ n1 by omega)
          rw [Nat.mul_add, Nat.mul_one] at this
          exact this
        have t := dg_qm (B := B) ha hb hk hn1 hw (by omega) hn2 hs g (nI n1) (fun e => P_X8_mixAll_6 a b (nI n1) (nI w) F e (nI (k + 1))) (31 * mixF (fG D a) (fG D b) w k h0 + (nI s).toInt64) 4000 0 (by omega) (by omega)
        rw [show mx (fun j => fG D b (w * k + j)) 0 (31 * mixF (fG D a) (fG D b) w k h0 + (nI s).toInt64) = 31 * mixF (fG D a) (fG D b) w k h0 + (nI s).toInt64 from rfl, nI_0] at t
        simp only [P_X8_mixAll_6, pureM_hp, ifB_t, ifB_f, decide_true, decide_false, ifB_hp, jn_hp, retZ_0, retZ_1, thn_some, cll0_w, cllV_w, getI_w, getL_w, getR_w, setI_w, setZ_w0, setZ_w1, setL_w, ald_w, ast_w, alen_w, aldR_2, aldR_3, aldR_4, aldR_22, cll0_pure, ↓reduceIte, if_true, if_false, Bool.false_eq_true, reduceCtorEq, and_true, true_and, and_false, false_and, ite_self, c1, ha, cx, cl, g, nI_p1, t]
        rw [g, nI_toInt (show s < 2 ^ 31 by omega), show ((s : Int)).toNat = s by omega] at i
        exact i
def dgt (D : DT) (m : Nat) (q : QT) (N : NT) (l : Nat) : Int64 := mixF (fG D 78) (fG D 77) 60 4 (mixF (fG D 76) (fG D 75) 40 6 (mx (fG D 80) 3 (oF q N.1 m (mx (cnt D m q N l) 11 17))))
theorem z0 (f : Nat → Int32) (h : Int64) : mx f 0 h = h := rfl
theorem zF (q : QT) (H : HT) (h : Int64) : oF q H 0 h = h := rfl
theorem zM (f g : Nat → Int32) (w : Nat) (h : Int64) : mixF f g w 0 h = h := rfl
theorem x_digest {D : DT} (hI : Inv D) {m : Nat} {q : QT} {s c : Int32} {ds : List Nat} (hb : BriI D m q s c ds) : P_X7_digest 1 (hp B D) = some (dgt D m q (runs q s c ds) ds.length, hp B D) := by
  obtain ⟨hf, hd, hX, hM, h11, hk⟩ := id hb
  obtain ⟨hm02, hm6, hF, hR, hv, hs5, hc6, hs, hc⟩ := hf
  have a1 := fun K => dg_cx (B := B) hI hb K 17 4000 0 (by omega) (by omega)
  have a2 := fun K h0 => dg_ox (B := B) hF hX.1.1 hm6 K h0 4000 0 (by omega) (by omega)
  have a3 := fun K h0 => dg_kx (B := B) hk K h0 4000 0 (by omega) (by omega)
  have a4 := fun h0 => dg_rx (B := B) hI.1 h0 4000 0 (by omega) (by omega)
  have a5 := fun h0 => dg_tx (B := B) hI.2.1 h0 4000 0 (by omega) (by omega)
  unfold dgt
  generalize hC : cnt D m q (runs q s c ds) ds.length = C at *
  simp only [z0, zF, zM, nI_0] at a1 a2 a3 a4 a5
  unfold P_X7_digest
  rw [jn_hp, a1, jn_hp, a2, jn_hp, a3]
  simp only [P_X7_addPlaces, pureM_hp, ifB_t, ifB_f, decide_true, decide_false, ifB_hp, jn_hp, retZ_0, retZ_1, thn_some, cll0_w, cllV_w, getI_w, getL_w, getR_w, setI_w, setZ_w0, setZ_w1, setL_w, ald_w, ast_w, alen_w, aldR_2, aldR_3, aldR_4, aldR_22, cll0_pure, ↓reduceIte, if_true, if_false, Bool.false_eq_true, reduceCtorEq, and_true, true_and, and_false, false_and, ite_self, kI_1_9, kI_1_10, kI_5_4, kI_5_5, kI_5_6, kI_10_1, kI_11_4, kI_11_5, kI_11_6, kI_16_2, kI_16_3, kI_16_4, kI_16_5, kI_16_6, kI_17_2, kI_17_3, kI_21_4, kI_21_5, kI_21_6, kI_21_7, kI_21_8, kI_21_9, kI_21_10, kI_21_11, kI_26_2, kI_26_3, kI_29_2, kI_29_3, kI_32_2, kI_32_3, kI_35_2, kI_39_2, kI_39_3, kI_41_2, kI_41_3, kI_43_2, kI_43_3, kI_45_2, kI_45_3, kI_47_2, kI_47_3, kI_49_2, kI_49_3, kI_51_2, kI_51_3, kI_53_2, kI_53_3, kI_55_2, kI_55_3, kI_57_2, kI_57_3, kI_59_2, kI_59_3, kI_59_4, kI_59_5, kI_59_6, kI_60_2, kI_60_3, kI_64_2, kI_64_3, kI_64_4, kI_64_5, kI_64_6, kI_65_2, kI_65_3, kI_69_2, kI_69_3, kI_69_4, kI_69_5, kI_69_6, kI_70_2, kI_70_3, kI_74_10, kI_74_11, kI_74_12, kI_74_14, kI_74_18, kI_74_19, kI_74_20, kI_74_21, kI_74_22, kI_74_23, kI_74_29, kI_74_30, kI_74_31, kI_74_32, kI_74_33, kR_1_0, kR_1_1, kR_1_2, kR_1_3, kR_1_4, kR_1_5, kR_1_6, kR_1_7, kR_1_8, kR_5_0, kR_5_1, kR_5_2, kR_5_3, kR_10_0, kR_11_0, kR_11_1, kR_11_2, kR_11_3, kR_16_0, kR_16_1, kR_17_0, kR_17_1, kR_21_0, kR_21_1, kR_21_2, kR_21_3, kR_26_0, kR_26_1, kR_29_0, kR_29_1, kR_32_0, kR_32_1, kR_35_0, kR_35_1, kR_39_0, kR_41_0, kR_43_0, kR_45_0, kR_47_0, kR_49_0, kR_51_0, kR_53_0, kR_55_0, kR_57_0, kR_59_0, kR_59_1, kR_60_0, kR_60_1, kR_64_0, kR_64_1, kR_65_0, kR_65_1, kR_69_0, kR_69_1, kR_70_0, kR_70_1, kR_74_0, kR_74_1, kR_74_2, kR_74_3, kR_74_4, kR_74_5, kR_74_6, kR_74_7, kR_74_8, kR_74_9, kR_74_13, kR_74_17, kR_74_24, kR_74_25, kR_74_26, kR_74_27, kR_74_28, kR_74_34, kR_74_35, kR_74_36, kL_1_11, kL_1_12, kL_74_15, kL_74_16, kK_39_1, kK_41_1, kK_43_1, kK_45_1, kK_47_1, kK_49_1, kK_51_1, kK_53_1, kK_55_1, kK_57_1, kA_6, kA_7, kA_8, kA_9, kA_12, kA_13, kA_14, kA_15, kA_18, kA_19, kA_20, kA_23, kA_24, kA_25, kA_27, kA_28, kA_30, kA_31, kA_33, kA_34, kA_36, kA_37, kA_38, kA_40, kA_42, kA_44, kA_46, kA_48, kA_50, kA_52, kA_54, kA_56, kA_58, kA_61, kA_62, kA_63, kA_66, kA_67, kA_68, kA_71, kA_72, kA_73, kA_75, kA_76, kA_77, kA_78, kA_79, kA_80, kA_81, kA_82, kA_83, kA_84, kA_85, kA_86, kA_87, kA_88, kA_89, kA_90, kA_91, kA_92, kA_93, kA_94, kQ_2, kQ_3, kQ_4, kQ_22, kC_1, kC_5, kC_10, kC_11, kC_16, kC_17, kC_21, kC_26, kC_29, kC_32, kC_35, kC_39, kC_41, kC_43, kC_45, kC_47, kC_49, kC_51, kC_53, kC_55, kC_57, kC_59, kC_60, kC_64, kC_65, kC_69, kC_70, kC_74, a4, a5]
theorem m_digest {D : DT} (hI : Inv D) {m : Nat} {q : QT} {s c : Int32} {ds : List Nat} (hb : BriI D m q s c ds) : P_X8_digest 74 (hp B D) = some (dgt D m q (runs q s c ds) ds.length, hp B D) := by
  obtain ⟨hf, hd, hX, hM, h11, hk⟩ := id hb
  obtain ⟨hm02, hm6, hF, hR, hv, hs5, hc6, hs, hc⟩ := hf
  have a1 := fun K => dg_cm (B := B) hI hb K 17 4000 0 (by omega) (by omega)
  have a2 := fun K h0 => dg_om (B := B) hR hM.1.1 hm6 K h0 4000 0 (by omega) (by omega)
  have a3 := fun K h0 => dg_km (B := B) (D := D) K h0 4000 0 (by omega) (by omega)
  have a4 := fun h0 => dg_mm (B := B) (D := D) (a := 76) (b := 75) (n1 := 6) (n2 := 240) (w := 40) rfl rfl (by omega) (by omega) (by omega) (by omega) (fun r hr => by
    rcases hI.1 r hr with ⟨-, g⟩ | ⟨-, s, h1, -, g, -⟩
    · exact Or.inl g
    · exact Or.inr ⟨s, h1, g⟩) h0 4000 0 (by omega) (by omega)
  have a5 := fun h0 => dg_mm (B := B) (D := D) (a := 78) (b := 77) (n1 := 4) (n2 := 240) (w := 60) rfl rfl (by omega) (by omega) (by omega) (by omega) (fun r hr => by
    rcases hI.2.1 r hr with ⟨-, g⟩ | ⟨-, s, h1, -, g, -⟩
    · exact Or.inl g
    · exact Or.inr ⟨s, h1, g⟩) h0 4000 0 (by omega) (by omega)
  unfold dgt
  generalize hC : cnt D m q (runs q s c ds) ds.length = C at *
  have e6 : nI 6 = (6 : Int32) := rfl
  have e40 : nI 40 = (40 : Int32) := rfl
  have e4 : nI 4 = (4 : Int32) := rfl
  have e60 : nI 60 = (60 : Int32) := rfl
  simp only [z0, zF, zM, nI_0, e6, e40, e4, e60] at a1 a2 a3 a4 a5
  unfold P_X8_digest
  rw [jn_hp, a1, jn_hp, a2, jn_hp, a3]
  simp only [P_X8_mixAll, pureM_hp, ifB_t, ifB_f, decide_true, decide_false, ifB_hp, jn_hp, retZ_0, retZ_1, thn_some, cll0_w, cllV_w, getI_w, getL_w, getR_w, setI_w, setZ_w0, setZ_w1, setL_w, ald_w, ast_w, alen_w, aldR_2, aldR_3, aldR_4, aldR_22, cll0_pure, ↓reduceIte, if_true, if_false, Bool.false_eq_true, reduceCtorEq, and_true, true_and, and_false, false_and, ite_self, kI_1_9, kI_1_10, kI_5_4, kI_5_5, kI_5_6, kI_10_1, kI_11_4, kI_11_5, kI_11_6, kI_16_2, kI_16_3, kI_16_4, kI_16_5, kI_16_6, kI_17_2, kI_17_3, kI_21_4, kI_21_5, kI_21_6, kI_21_7, kI_21_8, kI_21_9, kI_21_10, kI_21_11, kI_26_2, kI_26_3, kI_29_2, kI_29_3, kI_32_2, kI_32_3, kI_35_2, kI_39_2, kI_39_3, kI_41_2, kI_41_3, kI_43_2, kI_43_3, kI_45_2, kI_45_3, kI_47_2, kI_47_3, kI_49_2, kI_49_3, kI_51_2, kI_51_3, kI_53_2, kI_53_3, kI_55_2, kI_55_3, kI_57_2, kI_57_3, kI_59_2, kI_59_3, kI_59_4, kI_59_5, kI_59_6, kI_60_2, kI_60_3, kI_64_2, kI_64_3, kI_64_4, kI_64_5, kI_64_6, kI_65_2, kI_65_3, kI_69_2, kI_69_3, kI_69_4, kI_69_5, kI_69_6, kI_70_2, kI_70_3, kI_74_10, kI_74_11, kI_74_12, kI_74_14, kI_74_18, kI_74_19, kI_74_20, kI_74_21, kI_74_22, kI_74_23, kI_74_29, kI_74_30, kI_74_31, kI_74_32, kI_74_33, kR_1_0, kR_1_1, kR_1_2, kR_1_3, kR_1_4, kR_1_5, kR_1_6, kR_1_7, kR_1_8, kR_5_0, kR_5_1, kR_5_2, kR_5_3, kR_10_0, kR_11_0, kR_11_1, kR_11_2, kR_11_3, kR_16_0, kR_16_1, kR_17_0, kR_17_1, kR_21_0, kR_21_1, kR_21_2, kR_21_3, kR_26_0, kR_26_1, kR_29_0, kR_29_1, kR_32_0, kR_32_1, kR_35_0, kR_35_1, kR_39_0, kR_41_0, kR_43_0, kR_45_0, kR_47_0, kR_49_0, kR_51_0, kR_53_0, kR_55_0, kR_57_0, kR_59_0, kR_59_1, kR_60_0, kR_60_1, kR_64_0, kR_64_1, kR_65_0, kR_65_1, kR_69_0, kR_69_1, kR_70_0, kR_70_1, kR_74_0, kR_74_1, kR_74_2, kR_74_3, kR_74_4, kR_74_5, kR_74_6, kR_74_7, kR_74_8, kR_74_9, kR_74_13, kR_74_17, kR_74_24, kR_74_25, kR_74_26, kR_74_27, kR_74_28, kR_74_34, kR_74_35, kR_74_36, kL_1_11, kL_1_12, kL_74_15, kL_74_16, kK_39_1, kK_41_1, kK_43_1, kK_45_1, kK_47_1, kK_49_1, kK_51_1, kK_53_1, kK_55_1, kK_57_1, kA_6, kA_7, kA_8, kA_9, kA_12, kA_13, kA_14, kA_15, kA_18, kA_19, kA_20, kA_23, kA_24, kA_25, kA_27, kA_28, kA_30, kA_31, kA_33, kA_34, kA_36, kA_37, kA_38, kA_40, kA_42, kA_44, kA_46, kA_48, kA_50, kA_52, kA_54, kA_56, kA_58, kA_61, kA_62, kA_63, kA_66, kA_67, kA_68, kA_71, kA_72, kA_73, kA_75, kA_76, kA_77, kA_78, kA_79, kA_80, kA_81, kA_82, kA_83, kA_84, kA_85, kA_86, kA_87, kA_88, kA_89, kA_90, kA_91, kA_92, kA_93, kA_94, kQ_2, kQ_3, kQ_4, kQ_22, kC_1, kC_5, kC_10, kC_11, kC_16, kC_17, kC_21, kC_26, kC_29, kC_32, kC_35, kC_39, kC_41, kC_43, kC_45, kC_47, kC_49, kC_51, kC_53, kC_55, kC_57, kC_59, kC_60, kC_64, kC_65, kC_69, kC_70, kC_74, a4, a5]
theorem op_digest : OpA Int64 (P_X7_digest 1) (P_X8_digest 74) := by
  intro B D hI
  obtain ⟨m, q, s, c, ds, hb⟩ := hI.2.2.2.2
  exact ⟨dgt D m q (runs q s c ds) ds.length, D, D, x_digest hI hb, m_digest hI hb, hI⟩
end DIGEST
