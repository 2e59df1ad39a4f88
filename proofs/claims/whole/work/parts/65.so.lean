/-! The same: the reference. -/
section SO
variable {B : BT}
def okE (ex : Bool) (wn : Nat → Int32) (q : QT) (H : HT) (e : Nat → Int32) : Nat → Bool
  | 0 => true
  | k + 1 => okE ex wn q H e k && suit ex (rnW q H e (k + 1)).1 (wn k)
theorem okE_no {ex : Bool} {wn : Nat → Int32} {q : QT} {H : HT} {e : Nat → Int32} {k : Nat} (h : okE ex wn q H e k = false) : ∀ d, okE ex wn q H e (k + d) = false := by
  intro d
  induction d with
  | zero => exact h
  | succ d ih =>
    show (okE ex wn q H e (k + d) && _) = false
    rw [ih]
    rfl
theorem okE_L (ex : Bool) (wn : Nat → Int32) (q : QT) (H : HT) (l : List Nat) (hl : l.length ≤ 3) (hb : ∀ c ∈ l, c < 60) : okE ex wn q H (fun k => nI (l.getD k 0)) l.length = okL ex wn q H 0 l := by
  have s : ∀ (H : HT) (c : Nat), c < 60 → wat q H ((nI c).toNatClampNeg / 10) ((nI c).toNatClampNeg % 10) = wat q H (c / 10) (c % 10) := fun H c hc => by rw [nI_clamp (by omega)]
  match l, hl, hb with
  | [], _, _ => rfl
  | [a], _, hb =>
    show (true && suit ex (wat q H ((nI a).toNatClampNeg / 10) ((nI a).toNatClampNeg % 10)).1 (wn 0)) = (suit ex (wat q H (a / 10) (a % 10)).1 (wn 0) && true)
    rw [s H a (hb a (by simp)), Bool.true_and, Bool.and_true]
  | [a, b], _, hb =>
    show ((true && suit ex (wat q H ((nI a).toNatClampNeg / 10) ((nI a).toNatClampNeg % 10)).1 (wn 0)) && suit ex (wat q (wat q H ((nI a).toNatClampNeg / 10) ((nI a).toNatClampNeg % 10)) ((nI b).toNatClampNeg / 10) ((nI b).toNatClampNeg % 10)).1 (wn 1)) = (suit ex (wat q H (a / 10) (a % 10)).1 (wn 0) && (suit ex (wat q (wat q H (a / 10) (a % 10)) (b / 10) (b % 10)).1 (wn 1) && true))
    rw [s H a (hb a (by simp)), s _ b (hb b (by simp)), Bool.true_and, Bool.and_true]
  | [a, b, c], _, hb =>
    show (((true && suit ex (wat q H ((nI a).toNatClampNeg / 10) ((nI a).toNatClampNeg % 10)).1 (wn 0)) && suit ex (wat q (wat q H ((nI a).toNatClampNeg / 10) ((nI a).toNatClampNeg % 10)) ((nI b).toNatClampNeg / 10) ((nI b).toNatClampNeg % 10)).1 (wn 1)) && suit ex (wat q (wat q (wat q H ((nI a).toNatClampNeg / 10) ((nI a).toNatClampNeg % 10)) ((nI b).toNatClampNeg / 10) ((nI b).toNatClampNeg % 10)) ((nI c).toNatClampNeg / 10) ((nI c).toNatClampNeg % 10)).1 (wn 2)) = (suit ex (wat q H (a / 10) (a % 10)).1 (wn 0) && (suit ex (wat q (wat q H (a / 10) (a % 10)) (b / 10) (b % 10)).1 (wn 1) && (suit ex (wat q (wat q (wat q H (a / 10) (a % 10)) (b / 10) (b % 10)) (c / 10) (c % 10)).1 (wn 2) && true)))
    rw [s H a (hb a (by simp)), s _ b (hb b (by simp)), s _ c (hb c (by simp)), Bool.true_and, Bool.and_true, Bool.and_assoc]
  | _ :: _ :: _ :: _ :: _, h, _ => simp at h
theorem m_isSo {D : DT} {m n r c : Nat} {q : QT} {H : HT} {ex : Bool} {wn : Nat → Int32} (hv : QV m q) (hm6 : m ≤ 6) (h0 : 0 < pM m) (hW : HW 40 m H) (hF : MF D m q) (hX : MH D 0 H) (hL : LPm D m) (hn : n ≤ 3) (hc : c < 2 ^ 28) (hr : r < 6) (hV : RMv D r n wn) :
    ∃ D', P_X8_isSo 74 (nI c) (nI r) (b2i ex) (hp B D) = some (b2i (okL ex wn q H 0 (dgm m n c)), hp B D') ∧ Off T79 D D' ∧ ∀ t, (t < 11 ∨ 22 ≤ t) → fG D' 79 t = fG D 79 t := by
  have cr6 : 0 ≤ (nI r).toInt ∧ (nI r).toInt < ((6 : Nat) : Int) := ixc (by omega) (by omega)
  have cl := nI_clamp (show r < 2 ^ 31 by omega)
  have n11 : (11 : Int32).toNatClampNeg = 11 := rfl
  have t11 : (11 : Int32).toInt = 11 := rfl
  have b11 : (0 : Int) ≤ 11 ∧ (11 : Int) < ((1848 : Nat) : Int) := by omega
  have lp : ∀ (F k : Nat) (D : DT), k ≤ n → n - k < F → MF D m q → LPm D m → RMv D r n wn → MH D 11 (rnW q H (eW m n c) k) → ∃ D', P_X8_isSo_23 74 (nI c) (nI r) (b2i ex) (nI n) F (b2i (okE ex wn q H (eW m n c) k)) (nI k) (hp B D) = some (b2i (okE ex wn q H (eW m n c) n), hp B D') ∧ Off T79 D D' ∧ ∀ t, (t < 11 ∨ 22 ≤ t) → fG D' 79 t = fG D 79 t := by
    intro F
    induction F with
    | zero => intro k D h1 h2; omega
    | succ F ih =>
      intro k D h1 h2 hF hL hV hX
      by_cases e : k = n
      · have c1 : nI n ≤ nI k := by rw [e]; exact nI_le (Nat.le_refl _) (by omega)
        refine ⟨D, ?_, Off.refl D, fun t _ => rfl⟩
        simp only [P_X8_isSo_23, pureM_hp, ifB_t, ifB_f, decide_true, decide_false, ifB_hp, jn_hp, retZ_0, retZ_1, thn_some, cll0_w, cllV_w, getI_w, getL_w, getR_w, setI_w, setZ_w0, setZ_w1, setL_w, ald_w, ast_w, alen_w, aldR_2, aldR_3, aldR_4, aldR_22, cll0_pure, ↓reduceIte, if_true, if_false, Bool.false_eq_true, reduceCtorEq, and_true, true_and, and_false, false_and, ite_self, c1, retZ_b]
        rw [e]
      · have c1 : ¬ nI n ≤ nI k := nI_ge (by omega) (by omega)
        cases ho : okE ex wn q H (eW m n c) k with
        | false =>
          refine ⟨D, ?_, Off.refl D, fun t _ => rfl⟩
          have h3 := okE_no ho (n - k)
          rw [show k + (n - k) = n by omega] at h3
          simp only [P_X8_isSo_23, pureM_hp, ifB_t, ifB_f, decide_true, decide_false, ifB_hp, jn_hp, retZ_0, retZ_1, thn_some, cll0_w, cllV_w, getI_w, getL_w, getR_w, setI_w, setZ_w0, setZ_w1, setL_w, ald_w, ast_w, alen_w, aldR_2, aldR_3, aldR_4, aldR_22, cll0_pure, ↓reduceIte, if_true, if_false, Bool.false_eq_true, reduceCtorEq, and_true, true_and, and_false, false_and, ite_self, c1, b2i_f, h3]
        | true =>
          have hp' := m_pairOf' (B := B) (D := D) (c := c) hm6 h0 hL hn (show k < n by omega) hc
          obtain ⟨gg, p1, p2, p3⟩ := m_step (B := B) hv hm6 h0 hW hF hn (show k < n by omega) hX
          have o1 : Off T79 D (uG D 79 gg) := (Off.refl D).uG _ _ ⟨rfl, rfl⟩
          obtain ⟨D', r1, r3, r4⟩ := ih (k + 1) (uG D 79 gg) (by omega) (by omega) (hF.off o1 (by unfold T79; omega) (fun a q1 q2 => by unfold T79; omega)) (hL.off o1 (by unfold T79; omega) (by unfold T79; omega)) (hV.off o1 (by unfold T79; omega) (by unfold T79; omega)) p2
          refine ⟨D', ?_, o1.trans r3, fun t ht => by rw [r4 t ht, fG_uG, if_pos rfl, p3 t ht]⟩
          rw [show okE ex wn q H (eW m n c) (k + 1) = (okE ex wn q H (eW m n c) k && suit ex (rnW q H (eW m n c) (k + 1)).1 (wn k)) from rfl, ho, Bool.true_and] at r1
          have ix : (40 : Int32) * nI r + nI k = nI (40 * r + k) := by rw [show (40 : Int32) = nI 40 from rfl, pk_mul, nI_add]
          have cx : 0 ≤ (nI (40 * r + k)).toInt ∧ (nI (40 * r + k)).toInt < ((240 : Nat) : Int) := ixc (by omega) (by omega)
          have cl2 := nI_clamp (show 40 * r + k < 2 ^ 31 by omega)
          have gv : fG (uG D 79 gg) 75 (40 * r + k) = wn k := by rw [fG_uG, if_neg (by omega)]; exact hV.2.2 k (by omega)
          have st : fG (uG D 79 gg) 79 11 = (rnW q H (eW m n c) (k + 1)).1 := p2.1
          cases ex with
          | true =>
            by_cases e3 : (rnW q H (eW m n c) (k + 1)).1 = wn k
            · rw [show suit true (rnW q H (eW m n c) (k + 1)).1 (wn k) = true from decide_eq_true e3, b2i_t] at r1
              simp only [P_X8_isSo_23, pureM_hp, ifB_t, ifB_f, decide_true, decide_false, ifB_hp, jn_hp, retZ_0, retZ_1, thn_some, cll0_w, cllV_w, getI_w, getL_w, getR_w, setI_w, setZ_w0, setZ_w1, setL_w, ald_w, ast_w, alen_w, aldR_2, aldR_3, aldR_4, aldR_22, cll0_pure, ↓reduceIte, if_true, if_false, Bool.false_eq_true, reduceCtorEq, and_true, true_and, and_false, false_and, ite_self, kI_1_9, kI_1_10, kI_5_4, kI_5_5, kI_5_6, kI_10_1, kI_11_4, kI_11_5, kI_11_6, kI_16_2, kI_16_3, kI_16_4, kI_16_5, kI_16_6, kI_17_2, kI_17_3, kI_21_4, kI_21_5, kI_21_6, kI_21_7, kI_21_8, kI_21_9, kI_21_10, kI_21_11, kI_26_2, kI_26_3, kI_29_2, kI_29_3, kI_32_2, kI_32_3, kI_35_2, kI_39_2, kI_39_3, kI_41_2, kI_41_3, kI_43_2, kI_43_3, kI_45_2, kI_45_3, kI_47_2, kI_47_3, kI_49_2, kI_49_3, kI_51_2, kI_51_3, kI_53_2, kI_53_3, kI_55_2, kI_55_3, kI_57_2, kI_57_3, kI_59_2, kI_59_3, kI_59_4, kI_59_5, kI_59_6, kI_60_2, kI_60_3, kI_64_2, kI_64_3, kI_64_4, kI_64_5, kI_64_6, kI_65_2, kI_65_3, kI_69_2, kI_69_3, kI_69_4, kI_69_5, kI_69_6, kI_70_2, kI_70_3, kI_74_10, kI_74_11, kI_74_12, kI_74_14, kI_74_18, kI_74_19, kI_74_20, kI_74_21, kI_74_22, kI_74_23, kI_74_29, kI_74_30, kI_74_31, kI_74_32, kI_74_33, kR_1_0, kR_1_1, kR_1_2, kR_1_3, kR_1_4, kR_1_5, kR_1_6, kR_1_7, kR_1_8, kR_5_0, kR_5_1, kR_5_2, kR_5_3, kR_10_0, kR_11_0, kR_11_1, kR_11_2, kR_11_3, kR_16_0, kR_16_1, kR_17_0, kR_17_1, kR_21_0, kR_21_1, kR_21_2, kR_21_3, kR_26_0, kR_26_1, kR_29_0, kR_29_1, kR_32_0, kR_32_1, kR_35_0, kR_35_1, kR_39_0, kR_41_0, kR_43_0, kR_45_0, kR_47_0, kR_49_0, kR_51_0, kR_53_0, kR_55_0, kR_57_0, kR_59_0, kR_59_1, kR_60_0, kR_60_1, kR_64_0, kR_64_1, kR_65_0, kR_65_1, kR_69_0, kR_69_1, kR_70_0, kR_70_1, kR_74_0, kR_74_1, kR_74_2, kR_74_3, kR_74_4, kR_74_5, kR_74_6, kR_74_7, kR_74_8, kR_74_9, kR_74_13, kR_74_17, kR_74_24, kR_74_25, kR_74_26, kR_74_27, kR_74_28, kR_74_34, kR_74_35, kR_74_36, kL_1_11, kL_1_12, kL_74_15, kL_74_16, kK_39_1, kK_41_1, kK_43_1, kK_45_1, kK_47_1, kK_49_1, kK_51_1, kK_53_1, kK_55_1, kK_57_1, kA_6, kA_7, kA_8, kA_9, kA_12, kA_13, kA_14, kA_15, kA_18, kA_19, kA_20, kA_23, kA_24, kA_25, kA_27, kA_28, kA_30, kA_31, kA_33, kA_34, kA_36, kA_37, kA_38, kA_40, kA_42, kA_44, kA_46, kA_48, kA_50, kA_52, kA_54, kA_56, kA_58, kA_61, kA_62, kA_63, kA_66, kA_67, kA_68, kA_71, kA_72, kA_73, kA_75, kA_76, kA_77, kA_78, kA_79, kA_80, kA_81, kA_82, kA_83, kA_84, kA_85, kA_86, kA_87, kA_88, kA_89, kA_90, kA_91, kA_92, kA_93, kA_94, kQ_2, kQ_3, kQ_4, kQ_22, kC_1, kC_5, kC_10, kC_11, kC_16, kC_17, kC_21, kC_26, kC_29, kC_32, kC_35, kC_39, kC_41, kC_43, kC_45, kC_47, kC_49, kC_51, kC_53, kC_55, kC_57, kC_59, kC_60, kC_64, kC_65, kC_69, kC_70, kC_74, c1, b2i_t, lq_1_0, hp', p1, ix, cx, cl2, gv, n11, t11, b11, st, e3, not_true_eq_false, nI_p1, r1]
            · rw [show suit true (rnW q H (eW m n c) (k + 1)).1 (wn k) = false from decide_eq_false e3, b2i_f, b2i_t] at r1
              simp only [P_X8_isSo_23, pureM_hp, ifB_t, ifB_f, decide_true, decide_false, ifB_hp, jn_hp, retZ_0, retZ_1, thn_some, cll0_w, cllV_w, getI_w, getL_w, getR_w, setI_w, setZ_w0, setZ_w1, setL_w, ald_w, ast_w, alen_w, aldR_2, aldR_3, aldR_4, aldR_22, cll0_pure, ↓reduceIte, if_true, if_false, Bool.false_eq_true, reduceCtorEq, and_true, true_and, and_false, false_and, ite_self, kI_1_9, kI_1_10, kI_5_4, kI_5_5, kI_5_6, kI_10_1, kI_11_4, kI_11_5, kI_11_6, kI_16_2, kI_16_3, kI_16_4, kI_16_5, kI_16_6, kI_17_2, kI_17_3, kI_21_4, kI_21_5, kI_21_6, kI_21_7, kI_21_8, kI_21_9, kI_21_10, kI_21_11, kI_26_2, kI_26_3, kI_29_2, kI_29_3, kI_32_2, kI_32_3, kI_35_2, kI_39_2, kI_39_3, kI_41_2, kI_41_3, kI_43_2, kI_43_3, kI_45_2, kI_45_3, kI_47_2, kI_47_3, kI_49_2, kI_49_3, kI_51_2, kI_51_3, kI_53_2, kI_53_3, kI_55_2, kI_55_3, kI_57_2, kI_57_3, kI_59_2, kI_59_3, kI_59_4, kI_59_5, kI_59_6, kI_60_2, kI_60_3, kI_64_2, kI_64_3, kI_64_4, kI_64_5, kI_64_6, kI_65_2, kI_65_3, kI_69_2, kI_69_3, kI_69_4, kI_69_5, kI_69_6, kI_70_2, kI_70_3, kI_74_10, kI_74_11, kI_74_12, kI_74_14, kI_74_18, kI_74_19, kI_74_20, kI_74_21, kI_74_22, kI_74_23, kI_74_29, kI_74_30, kI_74_31, kI_74_32, kI_74_33, kR_1_0, kR_1_1, kR_1_2, kR_1_3, kR_1_4, kR_1_5, kR_1_6, kR_1_7, kR_1_8, kR_5_0, kR_5_1, kR_5_2, kR_5_3, kR_10_0, kR_11_0, kR_11_1, kR_11_2, kR_11_3, kR_16_0, kR_16_1, kR_17_0, kR_17_1, kR_21_0, kR_21_1, kR_21_2, kR_21_3, kR_26_0, kR_26_1, kR_29_0, kR_29_1, kR_32_0, kR_32_1, kR_35_0, kR_35_1, kR_39_0, kR_41_0, kR_43_0, kR_45_0, kR_47_0, kR_49_0, kR_51_0, kR_53_0, kR_55_0, kR_57_0, kR_59_0, kR_59_1, kR_60_0, kR_60_1, kR_64_0, kR_64_1, kR_65_0, kR_65_1, kR_69_0, kR_69_1, kR_70_0, kR_70_1, kR_74_0, kR_74_1, kR_74_2, kR_74_3, kR_74_4, kR_74_5, kR_74_6, kR_74_7, kR_74_8, kR_74_9, kR_74_13, kR_74_17, kR_74_24, kR_74_25, kR_74_26, kR_74_27, kR_74_28, kR_74_34, kR_74_35, kR_74_36, kL_1_11, kL_1_12, kL_74_15, kL_74_16, kK_39_1, kK_41_1, kK_43_1, kK_45_1, kK_47_1, kK_49_1, kK_51_1, kK_53_1, kK_55_1, kK_57_1, kA_6, kA_7, kA_8, kA_9, kA_12, kA_13, kA_14, kA_15, kA_18, kA_19, kA_20, kA_23, kA_24, kA_25, kA_27, kA_28, kA_30, kA_31, kA_33, kA_34, kA_36, kA_37, kA_38, kA_40, kA_42, kA_44, kA_46, kA_48, kA_50, kA_52, kA_54, kA_56, kA_58, kA_61, kA_62, kA_63, kA_66, kA_67, kA_68, kA_71, kA_72, kA_73, kA_75, kA_76, kA_77, kA_78, kA_79, kA_80, kA_81, kA_82, kA_83, kA_84, kA_85, kA_86, kA_87, kA_88, kA_89, kA_90, kA_91, kA_92, kA_93, kA_94, kQ_2, kQ_3, kQ_4, kQ_22, kC_1, kC_5, kC_10, kC_11, kC_16, kC_17, kC_21, kC_26, kC_29, kC_32, kC_35, kC_39, kC_41, kC_43, kC_45, kC_47, kC_49, kC_51, kC_53, kC_55, kC_57, kC_59, kC_60, kC_64, kC_65, kC_69, kC_70, kC_74, c1, b2i_t, lq_1_0, hp', p1, ix, cx, cl2, gv, n11, t11, b11, st, e3, not_false_eq_true, nI_p1, r1]
          | false =>
            by_cases e3 : (rnW q H (eW m n c) (k + 1)).1 < wn k
            · rw [show suit false (rnW q H (eW m n c) (k + 1)).1 (wn k) = false from decide_eq_false (fun z => z e3), b2i_f] at r1
              simp only [P_X8_isSo_23, pureM_hp, ifB_t, ifB_f, decide_true, decide_false, ifB_hp, jn_hp, retZ_0, retZ_1, thn_some, cll0_w, cllV_w, getI_w, getL_w, getR_w, setI_w, setZ_w0, setZ_w1, setL_w, ald_w, ast_w, alen_w, aldR_2, aldR_3, aldR_4, aldR_22, cll0_pure, ↓reduceIte, if_true, if_false, Bool.false_eq_true, reduceCtorEq, and_true, true_and, and_false, false_and, ite_self, kI_1_9, kI_1_10, kI_5_4, kI_5_5, kI_5_6, kI_10_1, kI_11_4, kI_11_5, kI_11_6, kI_16_2, kI_16_3, kI_16_4, kI_16_5, kI_16_6, kI_17_2, kI_17_3, kI_21_4, kI_21_5, kI_21_6, kI_21_7, kI_21_8, kI_21_9, kI_21_10, kI_21_11, kI_26_2, kI_26_3, kI_29_2, kI_29_3, kI_32_2, kI_32_3, kI_35_2, kI_39_2, kI_39_3, kI_41_2, kI_41_3, kI_43_2, kI_43_3, kI_45_2, kI_45_3, kI_47_2, kI_47_3, kI_49_2, kI_49_3, kI_51_2, kI_51_3, kI_53_2, kI_53_3, kI_55_2, kI_55_3, kI_57_2, kI_57_3, kI_59_2, kI_59_3, kI_59_4, kI_59_5, kI_59_6, kI_60_2, kI_60_3, kI_64_2, kI_64_3, kI_64_4, kI_64_5, kI_64_6, kI_65_2, kI_65_3, kI_69_2, kI_69_3, kI_69_4, kI_69_5, kI_69_6, kI_70_2, kI_70_3, kI_74_10, kI_74_11, kI_74_12, kI_74_14, kI_74_18, kI_74_19, kI_74_20, kI_74_21, kI_74_22, kI_74_23, kI_74_29, kI_74_30, kI_74_31, kI_74_32, kI_74_33, kR_1_0, kR_1_1, kR_1_2, kR_1_3, kR_1_4, kR_1_5, kR_1_6, kR_1_7, kR_1_8, kR_5_0, kR_5_1, kR_5_2, kR_5_3, kR_10_0, kR_11_0, kR_11_1, kR_11_2, kR_11_3, kR_16_0, kR_16_1, kR_17_0, kR_17_1, kR_21_0, kR_21_1, kR_21_2, kR_21_3, kR_26_0, kR_26_1, kR_29_0, kR_29_1, kR_32_0, kR_32_1, kR_35_0, kR_35_1, kR_39_0, kR_41_0, kR_43_0, kR_45_0, kR_47_0, kR_49_0, kR_51_0, kR_53_0, kR_55_0, kR_57_0, kR_59_0, kR_59_1, kR_60_0, kR_60_1, kR_64_0, kR_64_1, kR_65_0, kR_65_1, kR_69_0, kR_69_1, kR_70_0, kR_70_1, kR_74_0, kR_74_1, kR_74_2, kR_74_3, kR_74_4, kR_74_5, kR_74_6, kR_74_7, kR_74_8, kR_74_9, kR_74_13, kR_74_17, kR_74_24, kR_74_25, kR_74_26, kR_74_27, kR_74_28, kR_74_34, kR_74_35, kR_74_36, kL_1_11, kL_1_12, kL_74_15, kL_74_16, kK_39_1, kK_41_1, kK_43_1, kK_45_1, kK_47_1, kK_49_1, kK_51_1, kK_53_1, kK_55_1, kK_57_1, kA_6, kA_7, kA_8, kA_9, kA_12, kA_13, kA_14, kA_15, kA_18, kA_19, kA_20, kA_23, kA_24, kA_25, kA_27, kA_28, kA_30, kA_31, kA_33, kA_34, kA_36, kA_37, kA_38, kA_40, kA_42, kA_44, kA_46, kA_48, kA_50, kA_52, kA_54, kA_56, kA_58, kA_61, kA_62, kA_63, kA_66, kA_67, kA_68, kA_71, kA_72, kA_73, kA_75, kA_76, kA_77, kA_78, kA_79, kA_80, kA_81, kA_82, kA_83, kA_84, kA_85, kA_86, kA_87, kA_88, kA_89, kA_90, kA_91, kA_92, kA_93, kA_94, kQ_2, kQ_3, kQ_4, kQ_22, kC_1, kC_5, kC_10, kC_11, kC_16, kC_17, kC_21, kC_26, kC_29, kC_32, kC_35, kC_39, kC_41, kC_43, kC_45, kC_47, kC_49, kC_51, kC_53, kC_55, kC_57, kC_59, kC_60, kC_64, kC_65, kC_69, kC_70, kC_74, c1, b2i_t, b2i_f, lq_1_0, hp', p1, ix, cx, cl2, gv, n11, t11, b11, st, e3, nI_p1, r1]
            · rw [show suit false (rnW q H (eW m n c) (k + 1)).1 (wn k) = true from decide_eq_true e3, b2i_t, b2i_f] at r1
              simp only [P_X8_isSo_23, pureM_hp, ifB_t, ifB_f, decide_true, decide_false, ifB_hp, jn_hp, retZ_0, retZ_1, thn_some, cll0_w, cllV_w, getI_w, getL_w, getR_w, setI_w, setZ_w0, setZ_w1, setL_w, ald_w, ast_w, alen_w, aldR_2, aldR_3, aldR_4, aldR_22, cll0_pure, ↓reduceIte, if_true, if_false, Bool.false_eq_true, reduceCtorEq, and_true, true_and, and_false, false_and, ite_self, kI_1_9, kI_1_10, kI_5_4, kI_5_5, kI_5_6, kI_10_1, kI_11_4, kI_11_5, kI_11_6, kI_16_2, kI_16_3, kI_16_4, kI_16_5, kI_16_6, kI_17_2, kI_17_3, kI_21_4, kI_21_5, kI_21_6, kI_21_7, kI_21_8, kI_21_9, kI_21_10, kI_21_11, kI_26_2, kI_26_3, kI_29_2, kI_29_3, kI_32_2, kI_32_3, kI_35_2, kI_39_2, kI_39_3, kI_41_2, kI_41_3, kI_43_2, kI_43_3, kI_45_2, kI_45_3, kI_47_2, kI_47_3, kI_49_2, kI_49_3, kI_51_2, kI_51_3, kI_53_2, kI_53_3, kI_55_2, kI_55_3, kI_57_2, kI_57_3, kI_59_2, kI_59_3, kI_59_4, kI_59_5, kI_59_6, kI_60_2, kI_60_3, kI_64_2, kI_64_3, kI_64_4, kI_64_5, kI_64_6, kI_65_2, kI_65_3, kI_69_2, kI_69_3, kI_69_4, kI_69_5, kI_69_6, kI_70_2, kI_70_3, kI_74_10, kI_74_11, kI_74_12, kI_74_14, kI_74_18, kI_74_19, kI_74_20, kI_74_21, kI_74_22, kI_74_23, kI_74_29, kI_74_30, kI_74_31, kI_74_32, kI_74_33, kR_1_0, kR_1_1, kR_1_2, kR_1_3, kR_1_4, kR_1_5, kR_1_6, kR_1_7, kR_1_8, kR_5_0, kR_5_1, kR_5_2, kR_5_3, kR_10_0, kR_11_0, kR_11_1, kR_11_2, kR_11_3, kR_16_0, kR_16_1, kR_17_0, kR_17_1, kR_21_0, kR_21_1, kR_21_2, kR_21_3, kR_26_0, kR_26_1, kR_29_0, kR_29_1, kR_32_0, kR_32_1, kR_35_0, kR_35_1, kR_39_0, kR_41_0, kR_43_0, kR_45_0, kR_47_0, kR_49_0, kR_51_0, kR_53_0, kR_55_0, kR_57_0, kR_59_0, kR_59_1, kR_60_0, kR_60_1, kR_64_0, kR_64_1, kR_65_0, kR_65_1, kR_69_0, kR_69_1, kR_70_0, kR_70_1, kR_74_0, kR_74_1, kR_74_2, kR_74_3, kR_74_4, kR_74_5, kR_74_6, kR_74_7, kR_74_8, kR_74_9, kR_74_13, kR_74_17, kR_74_24, kR_74_25, kR_74_26, kR_74_27, kR_74_28, kR_74_34, kR_74_35, kR_74_36, kL_1_11, kL_1_12, kL_74_15, kL_74_16, kK_39_1, kK_41_1, kK_43_1, kK_45_1, kK_47_1, kK_49_1, kK_51_1, kK_53_1, kK_55_1, kK_57_1, kA_6, kA_7, kA_8, kA_9, kA_12, kA_13, kA_14, kA_15, kA_18, kA_19, kA_20, kA_23, kA_24, kA_25, kA_27, kA_28, kA_30, kA_31, kA_33, kA_34, kA_36, kA_37, kA_38, kA_40, kA_42, kA_44, kA_46, kA_48, kA_50, kA_52, kA_54, kA_56, kA_58, kA_61, kA_62, kA_63, kA_66, kA_67, kA_68, kA_71, kA_72, kA_73, kA_75, kA_76, kA_77, kA_78, kA_79, kA_80, kA_81, kA_82, kA_83, kA_84, kA_85, kA_86, kA_87, kA_88, kA_89, kA_90, kA_91, kA_92, kA_93, kA_94, kQ_2, kQ_3, kQ_4, kQ_22, kC_1, kC_5, kC_10, kC_11, kC_16, kC_17, kC_21, kC_26, kC_29, kC_32, kC_35, kC_39, kC_41, kC_43, kC_45, kC_47, kC_49, kC_51, kC_53, kC_55, kC_57, kC_59, kC_60, kC_64, kC_65, kC_69, kC_70, kC_74, c1, b2i_t, b2i_f, lq_1_0, hp', p1, ix, cx, cl2, gv, n11, t11, b11, st, e3, nI_p1, r1]
  obtain ⟨gg, c1, c2, c3⟩ := m_aside (B := B) hX
  have o1 : Off T79 D (uG D 79 gg) := (Off.refl D).uG _ _ ⟨rfl, rfl⟩
  obtain ⟨D', r1, r3, r4⟩ := lp 4000 0 (uG D 79 gg) (by omega) (by omega) (hF.off o1 (by unfold T79; omega) (fun a q1 q2 => by unfold T79; omega)) (hL.off o1 (by unfold T79; omega) (by unfold T79; omega)) (hV.off o1 (by unfold T79; omega) (by unfold T79; omega)) c2
  have eo : okE ex wn q H (eW m n c) n = okL ex wn q H 0 (dgm m n c) := by
    have := okE_L ex wn q H (dgm m n c) (by rw [dg_len]; exact hn) (fun d hd => ((prs_ok hm6).1 d (dgm_mem h0 n c d hd)).2.2)
    rw [dg_len] at this
    exact this
  rw [nI_0, show okE ex wn q H (eW m n c) 0 = true from rfl, b2i_t, eo] at r1
  refine ⟨D', ?_, o1.trans r3, fun t ht => by rw [r4 t ht, fG_uG, if_pos rfl, c3 t ht]⟩
  simp only [P_X8_isSo, pureM_hp, ifB_t, ifB_f, decide_true, decide_false, ifB_hp, jn_hp, retZ_0, retZ_1, thn_some, cll0_w, cllV_w, getI_w, getL_w, getR_w, setI_w, setZ_w0, setZ_w1, setL_w, ald_w, ast_w, alen_w, aldR_2, aldR_3, aldR_4, aldR_22, cll0_pure, ↓reduceIte, if_true, if_false, Bool.false_eq_true, reduceCtorEq, and_true, true_and, and_false, false_and, ite_self, kI_1_9, kI_1_10, kI_5_4, kI_5_5, kI_5_6, kI_10_1, kI_11_4, kI_11_5, kI_11_6, kI_16_2, kI_16_3, kI_16_4, kI_16_5, kI_16_6, kI_17_2, kI_17_3, kI_21_4, kI_21_5, kI_21_6, kI_21_7, kI_21_8, kI_21_9, kI_21_10, kI_21_11, kI_26_2, kI_26_3, kI_29_2, kI_29_3, kI_32_2, kI_32_3, kI_35_2, kI_39_2, kI_39_3, kI_41_2, kI_41_3, kI_43_2, kI_43_3, kI_45_2, kI_45_3, kI_47_2, kI_47_3, kI_49_2, kI_49_3, kI_51_2, kI_51_3, kI_53_2, kI_53_3, kI_55_2, kI_55_3, kI_57_2, kI_57_3, kI_59_2, kI_59_3, kI_59_4, kI_59_5, kI_59_6, kI_60_2, kI_60_3, kI_64_2, kI_64_3, kI_64_4, kI_64_5, kI_64_6, kI_65_2, kI_65_3, kI_69_2, kI_69_3, kI_69_4, kI_69_5, kI_69_6, kI_70_2, kI_70_3, kI_74_10, kI_74_11, kI_74_12, kI_74_14, kI_74_18, kI_74_19, kI_74_20, kI_74_21, kI_74_22, kI_74_23, kI_74_29, kI_74_30, kI_74_31, kI_74_32, kI_74_33, kR_1_0, kR_1_1, kR_1_2, kR_1_3, kR_1_4, kR_1_5, kR_1_6, kR_1_7, kR_1_8, kR_5_0, kR_5_1, kR_5_2, kR_5_3, kR_10_0, kR_11_0, kR_11_1, kR_11_2, kR_11_3, kR_16_0, kR_16_1, kR_17_0, kR_17_1, kR_21_0, kR_21_1, kR_21_2, kR_21_3, kR_26_0, kR_26_1, kR_29_0, kR_29_1, kR_32_0, kR_32_1, kR_35_0, kR_35_1, kR_39_0, kR_41_0, kR_43_0, kR_45_0, kR_47_0, kR_49_0, kR_51_0, kR_53_0, kR_55_0, kR_57_0, kR_59_0, kR_59_1, kR_60_0, kR_60_1, kR_64_0, kR_64_1, kR_65_0, kR_65_1, kR_69_0, kR_69_1, kR_70_0, kR_70_1, kR_74_0, kR_74_1, kR_74_2, kR_74_3, kR_74_4, kR_74_5, kR_74_6, kR_74_7, kR_74_8, kR_74_9, kR_74_13, kR_74_17, kR_74_24, kR_74_25, kR_74_26, kR_74_27, kR_74_28, kR_74_34, kR_74_35, kR_74_36, kL_1_11, kL_1_12, kL_74_15, kL_74_16, kK_39_1, kK_41_1, kK_43_1, kK_45_1, kK_47_1, kK_49_1, kK_51_1, kK_53_1, kK_55_1, kK_57_1, kA_6, kA_7, kA_8, kA_9, kA_12, kA_13, kA_14, kA_15, kA_18, kA_19, kA_20, kA_23, kA_24, kA_25, kA_27, kA_28, kA_30, kA_31, kA_33, kA_34, kA_36, kA_37, kA_38, kA_40, kA_42, kA_44, kA_46, kA_48, kA_50, kA_52, kA_54, kA_56, kA_58, kA_61, kA_62, kA_63, kA_66, kA_67, kA_68, kA_71, kA_72, kA_73, kA_75, kA_76, kA_77, kA_78, kA_79, kA_80, kA_81, kA_82, kA_83, kA_84, kA_85, kA_86, kA_87, kA_88, kA_89, kA_90, kA_91, kA_92, kA_93, kA_94, kQ_2, kQ_3, kQ_4, kQ_22, kC_1, kC_5, kC_10, kC_11, kC_16, kC_17, kC_21, kC_26, kC_29, kC_32, kC_35, kC_39, kC_41, kC_43, kC_45, kC_47, kC_49, kC_51, kC_53, kC_55, kC_57, kC_59, kC_60, kC_64, kC_65, kC_69, kC_70, kC_74, cr6, cl, hV.2.1, c1, r1]
theorem m_peopleOf {D : DT} {m n c : Nat} (hm6 : m ≤ 6) (h0 : 0 < pM m) (hL : LPm D m) (hn : n ≤ 3) (hc : c < 2 ^ 28) : P_X8_peopleOf 74 (nI c) (nI n) (hp B D) = some (nI (whoN (dgm m n c)), hp B D) := by
  have hlen := dg_len (pn m) (pM m) n c
  have lp : ∀ (F k : Nat), k ≤ n → n - k < F → P_X8_peopleOf_5 74 (nI c) (nI n) F (nI (whoN ((dgm m n c).take k))) (nI k) (hp B D) = some (nI (whoN (dgm m n c)), hp B D) := by
    intro F
    induction F with
    | zero => intro k h1 h2; omega
    | succ F ih =>
      intro k h1 h2
      by_cases e : k = n
      · have c1 : nI n ≤ nI k := by rw [e]; exact nI_le (Nat.le_refl _) (by omega)
        have et : (dgm m n c).take k = dgm m n c := by
          have := take_all (dgm m n c)
          rw [hlen, ← e] at this
          rw [e] at this ⊢
          exact this
        simp only [P_X8_peopleOf_5, pureM_hp, ifB_t, ifB_f, decide_true, decide_false, ifB_hp, jn_hp, retZ_0, retZ_1, thn_some, cll0_w, cllV_w, getI_w, getL_w, getR_w, setI_w, setZ_w0, setZ_w1, setL_w, ald_w, ast_w, alen_w, aldR_2, aldR_3, aldR_4, aldR_22, cll0_pure, ↓reduceIte, if_true, if_false, Bool.false_eq_true, reduceCtorEq, and_true, true_and, and_false, false_and, ite_self, c1, et]
      · have c1 : ¬ nI n ≤ nI k := nI_ge (by omega) (by omega)
        have hk : k < (dgm m n c).length := by rw [hlen]; omega
        have hp' := m_pairOf' (B := B) (D := D) (c := c) hm6 h0 hL hn (show k < n by omega) hc
        have i1 := ih (k + 1) (by omega) (by omega)
        rw [take_s _ k hk, whoN_app, ← getD_get _ _ hk] at i1
        have hmem : (dgm m n c).getD k 0 ∈ prs m := by rw [getD_get _ _ hk]; exact dgm_mem h0 n c _ (List.getElem_mem hk)
        obtain ⟨g1, g2, g3⟩ := (prs_ok hm6).1 _ hmem
        have hlt := whoN_lt hm6 ((dgm m n c).take k) 0 (by omega) (fun d hd => dgm_mem h0 n c d (List.mem_of_mem_take hd))
        have ob := (or_dec (whoN ((dgm m n c).take k)) hlt ((dgm m n c).getD k 0 / 10) (by omega) ((dgm m n c).getD k 0 % 10) (by omega)).2.1
        obtain ⟨v1, v2⟩ := dv_dec ((dgm m n c).getD k 0) (by omega)
        unfold orc at i1
        simp only [P_X8_peopleOf_5, pureM_hp, ifB_t, ifB_f, decide_true, decide_false, ifB_hp, jn_hp, retZ_0, retZ_1, thn_some, cll0_w, cllV_w, getI_w, getL_w, getR_w, setI_w, setZ_w0, setZ_w1, setL_w, ald_w, ast_w, alen_w, aldR_2, aldR_3, aldR_4, aldR_22, cll0_pure, ↓reduceIte, if_true, if_false, Bool.false_eq_true, reduceCtorEq, and_true, true_and, and_false, false_and, ite_self, kI_1_9, kI_1_10, kI_5_4, kI_5_5, kI_5_6, kI_10_1, kI_11_4, kI_11_5, kI_11_6, kI_16_2, kI_16_3, kI_16_4, kI_16_5, kI_16_6, kI_17_2, kI_17_3, kI_21_4, kI_21_5, kI_21_6, kI_21_7, kI_21_8, kI_21_9, kI_21_10, kI_21_11, kI_26_2, kI_26_3, kI_29_2, kI_29_3, kI_32_2, kI_32_3, kI_35_2, kI_39_2, kI_39_3, kI_41_2, kI_41_3, kI_43_2, kI_43_3, kI_45_2, kI_45_3, kI_47_2, kI_47_3, kI_49_2, kI_49_3, kI_51_2, kI_51_3, kI_53_2, kI_53_3, kI_55_2, kI_55_3, kI_57_2, kI_57_3, kI_59_2, kI_59_3, kI_59_4, kI_59_5, kI_59_6, kI_60_2, kI_60_3, kI_64_2, kI_64_3, kI_64_4, kI_64_5, kI_64_6, kI_65_2, kI_65_3, kI_69_2, kI_69_3, kI_69_4, kI_69_5, kI_69_6, kI_70_2, kI_70_3, kI_74_10, kI_74_11, kI_74_12, kI_74_14, kI_74_18, kI_74_19, kI_74_20, kI_74_21, kI_74_22, kI_74_23, kI_74_29, kI_74_30, kI_74_31, kI_74_32, kI_74_33, kR_1_0, kR_1_1, kR_1_2, kR_1_3, kR_1_4, kR_1_5, kR_1_6, kR_1_7, kR_1_8, kR_5_0, kR_5_1, kR_5_2, kR_5_3, kR_10_0, kR_11_0, kR_11_1, kR_11_2, kR_11_3, kR_16_0, kR_16_1, kR_17_0, kR_17_1, kR_21_0, kR_21_1, kR_21_2, kR_21_3, kR_26_0, kR_26_1, kR_29_0, kR_29_1, kR_32_0, kR_32_1, kR_35_0, kR_35_1, kR_39_0, kR_41_0, kR_43_0, kR_45_0, kR_47_0, kR_49_0, kR_51_0, kR_53_0, kR_55_0, kR_57_0, kR_59_0, kR_59_1, kR_60_0, kR_60_1, kR_64_0, kR_64_1, kR_65_0, kR_65_1, kR_69_0, kR_69_1, kR_70_0, kR_70_1, kR_74_0, kR_74_1, kR_74_2, kR_74_3, kR_74_4, kR_74_5, kR_74_6, kR_74_7, kR_74_8, kR_74_9, kR_74_13, kR_74_17, kR_74_24, kR_74_25, kR_74_26, kR_74_27, kR_74_28, kR_74_34, kR_74_35, kR_74_36, kL_1_11, kL_1_12, kL_74_15, kL_74_16, kK_39_1, kK_41_1, kK_43_1, kK_45_1, kK_47_1, kK_49_1, kK_51_1, kK_53_1, kK_55_1, kK_57_1, kA_6, kA_7, kA_8, kA_9, kA_12, kA_13, kA_14, kA_15, kA_18, kA_19, kA_20, kA_23, kA_24, kA_25, kA_27, kA_28, kA_30, kA_31, kA_33, kA_34, kA_36, kA_37, kA_38, kA_40, kA_42, kA_44, kA_46, kA_48, kA_50, kA_52, kA_54, kA_56, kA_58, kA_61, kA_62, kA_63, kA_66, kA_67, kA_68, kA_71, kA_72, kA_73, kA_75, kA_76, kA_77, kA_78, kA_79, kA_80, kA_81, kA_82, kA_83, kA_84, kA_85, kA_86, kA_87, kA_88, kA_89, kA_90, kA_91, kA_92, kA_93, kA_94, kQ_2, kQ_3, kQ_4, kQ_22, kC_1, kC_5, kC_10, kC_11, kC_16, kC_17, kC_21, kC_26, kC_29, kC_32, kC_35, kC_39, kC_41, kC_43, kC_45, kC_47, kC_49, kC_51, kC_53, kC_55, kC_57, kC_59, kC_60, kC_64, kC_65, kC_69, kC_70, kC_74, c1, hp', divI_hp _ _ _ ne10, remI_hp _ _ _ ne10, v1, v2, ob, nI_p1, i1]
  have t := lp 4000 0 (by omega) (by omega)
  rw [nI_0, show nI (whoN ((dgm m n c).take 0)) = 0 from rfl] at t
  exact t
def hmI (x : Int32) : Nat → Int32
  | 0 => 0
  | k + 1 => hmI x k + ((x >>> (nI k &&& 31)) &&& 1)
theorem hm_dec : ∀ s, s < 64 → hmI (nI s) 6 = nI (pc s) := by decide +kernel
theorem m_howMany {h : AH} {s : Nat} (hs : s < 64) : P_X8_howMany (nI s) h = some (nI (pc s), h) := by
  have lp : ∀ (F k : Nat), k ≤ 6 → 6 - k < F → P_X8_howMany_4 (nI s) F (hmI (nI s) k) (nI k) h = some (nI (pc s), h) := by
    intro F
    induction F with
    | zero => intro k h1 h2; omega
    | succ F ih =>
      intro k h1 h2
      by_cases e : k = 6
      · have c1 : (6 : Int32) ≤ nI k := show nI 6 ≤ nI k from nI_le (by omega) (by omega)
        simp only [P_X8_howMany_4, pureM_hp, ifB_t, ifB_f, decide_true, decide_false, ifB_hp, jn_hp, retZ_0, retZ_1, thn_some, cll0_w, cllV_w, getI_w, getL_w, getR_w, setI_w, setZ_w0, setZ_w1, setL_w, ald_w, ast_w, alen_w, aldR_2, aldR_3, aldR_4, aldR_22, cll0_pure, ↓reduceIte, if_true, if_false, Bool.false_eq_true, reduceCtorEq, and_true, true_and, and_false, false_and, ite_self, c1]
        rw [e, hm_dec s hs]
      · have c1 : ¬ (6 : Int32) ≤ nI k := show ¬ nI 6 ≤ nI k from nI_ge (by omega) (by omega)
        have i1 := ih (k + 1) (by omega) (by omega)
        rw [show hmI (nI s) (k + 1) = hmI (nI s) k + ((nI s >>> (nI k &&& 31)) &&& 1) from rfl] at i1
        simp only [P_X8_howMany_4, pureM_hp, ifB_t, ifB_f, decide_true, decide_false, ifB_hp, jn_hp, retZ_0, retZ_1, thn_some, cll0_w, cllV_w, getI_w, getL_w, getR_w, setI_w, setZ_w0, setZ_w1, setL_w, ald_w, ast_w, alen_w, aldR_2, aldR_3, aldR_4, aldR_22, cll0_pure, ↓reduceIte, if_true, if_false, Bool.false_eq_true, reduceCtorEq, and_true, true_and, and_false, false_and, ite_self, c1, nI_p1, i1]
  have t := lp 4000 0 (by omega) (by omega)
  rw [nI_0, show hmI (nI s) 0 = 0 from rfl] at t
  exact t
/-- the fold over all codes -/
def fC (ex : Bool) (wn : Nat → Int32) (q : QT) (H : HT) (st : SYt) (l : List Nat) : SYt := if okL ex wn q H 0 l = true then nt st (nI (l.getD 0 0)) (whoN l) else st
def ev0 (m : Nat) : Int32 := (1 <<< (nI m &&& 31)) - 1
def yK (m : Nat) (q : QT) (H : HT) (n : Nat) (ex : Bool) (wn : Nat → Int32) (k : Nat) : SYt := (lst (dgm m n) k).foldl (fC ex wn q H) (0, -9, ev0 m, 0, 0)
theorem yK_s (m : Nat) (q : QT) (H : HT) (n : Nat) (ex : Bool) (wn : Nat → Int32) (k : Nat) : yK m q H n ex wn (k + 1) = fC ex wn q H (yK m q H n ex wn k) (dgm m n k) := foldl_lst _ _ _ _
def yS (m : Nat) (q : QT) (H : HT) (n : Nat) (ex : Bool) (wn : Nat → Int32) : SYt := (seqs (prs m) n).foldl (fC ex wn q H) (0, -9, ev0 m, 0, 0)
theorem yS_K {m : Nat} (q : QT) (H : HT) (n : Nat) (ex : Bool) (wn : Nat → Int32) (h0 : 0 < pM m) : yS m q H n ex wn = yK m q H n ex wn (pM m ^ n) := by
  unfold yS yK
  rw [seqs_dg (prs m) h0 n]
theorem who_dg {m n c : Nat} (hm6 : m ≤ 6) (h0 : 0 < pM m) (hn1 : 1 ≤ n) : whoN (dgm m n c) < 64 ∧ 0 < whoN (dgm m n c) := by
  refine ⟨whoN_lt hm6 _ 0 (by omega) (dgm_mem h0 n c), whoN_pos hm6 _ 0 (by omega) (dgm_mem h0 n c) (Or.inr (fun z => ?_))⟩
  have h : (dgm m n c).length = n := dg_len (pn m) (pM m) n c
  rw [z] at h
  simp at h
  omega
/-- how many, and whether any -/
theorem yK_ok {m n : Nat} {q : QT} {H : HT} {ex : Bool} {wn : Nat → Int32} (hm6 : m ≤ 6) (h0 : 0 < pM m) (hn1 : 1 ≤ n) : ∀ k, ∃ a, a ≤ k ∧ (yK m q H n ex wn k).1 = nI a ∧ (a = 0 ↔ (yK m q H n ex wn k).2.2.2.2 = 0) ∧ (yK m q H n ex wn k).2.2.2.2 < 64 := by
  intro k
  induction k with
  | zero => exact ⟨0, Nat.le_refl _, rfl, ⟨fun _ => rfl, fun _ => rfl⟩, show 0 < 64 by omega⟩
  | succ k ih =>
    obtain ⟨a, h1, h2, h3, h4⟩ := ih
    rw [yK_s]
    unfold fC
    split
    · obtain ⟨w1, w2⟩ := who_dg (c := k) hm6 h0 hn1
      refine ⟨a + 1, by omega, ?_, ?_, ?_⟩
      · show (yK m q H n ex wn k).1 + 1 = _
        rw [h2, nI_p1]
      · show a + 1 = 0 ↔ (if bett (yK m q H n ex wn k).2.2.2.2 (whoN (dgm m n k)) = true then whoN (dgm m n k) else (yK m q H n ex wn k).2.2.2.2) = 0
        refine ⟨fun z => by omega, fun z => ?_⟩
        exfalso
        by_cases hb : bett (yK m q H n ex wn k).2.2.2.2 (whoN (dgm m n k)) = true
        · rw [if_pos hb] at z; omega
        · rw [if_neg hb] at z
          rw [z] at hb
          exact hb (by unfold bett; simp)
      · show (if bett (yK m q H n ex wn k).2.2.2.2 (whoN (dgm m n k)) = true then whoN (dgm m n k) else (yK m q H n ex wn k).2.2.2.2) < 64
        split
        · exact w1
        · exact h4
    · exact ⟨a, by omega, h2, h3, h4⟩
theorem pMn {m n : Nat} (hm6 : m ≤ 6) (hn : n ≤ 3) : pM m ^ n ≤ 3375 := by
  have hM15 : pM m ≤ 15 := (prs_ok hm6).2.1
  have h1 : pM m ^ n ≤ 15 ^ n := Nat.pow_le_pow_left hM15 n
  have h2 : 15 ^ n ≤ 15 ^ 3 := Nat.pow_le_pow_right (by omega) hn
  omega
theorem m_bear_loop {m n r : Nat} {q : QT} {H : HT} {wn : Nat → Int32} (hm6 : m ≤ 6) (h0 : 0 < pM m) (hv : QV m q) (hW : HW 40 m H) (hn1 : 1 ≤ n) (hn : n ≤ 3) (hr : r < 6) (K : Int32 → Int32 → PM Int32) : ∀ (F c : Nat) (D : DT) (b f : Int32), c ≤ pM m ^ n → pM m ^ n - c < F → MF D m q → MH D 0 H → LPm D m → RMv D r n wn → ((yK m q H n false wn c).2.2.2.2 = 0 → b = -9 ∧ f = 7) → ((yK m q H n false wn c).2.2.2.2 ≠ 0 → b = nI (yK m q H n false wn c).2.2.2.2 ∧ f = nI (pc (yK m q H n false wn c).2.2.2.2)) →
    ∃ D' b' f', P_X8_bear_57 K 74 (nI r) (nI n) F b f (nI c) (hp B D) = K b' f' (hp B D') ∧ ((yS m q H n false wn).2.2.2.2 = 0 → b' = -9 ∧ f' = 7) ∧ ((yS m q H n false wn).2.2.2.2 ≠ 0 → b' = nI (yS m q H n false wn).2.2.2.2 ∧ f' = nI (pc (yS m q H n false wn).2.2.2.2)) ∧ Off T79 D D' ∧ ∀ t, (t < 11 ∨ 22 ≤ t) → fG D' 79 t = fG D 79 t := by
  intro F
  have hMn := pMn (n := n) hm6 hn
  induction F with
  | zero => intro c D b f h1 h2; omega
  | succ F ih =>
    intro c D b f h1 h2 hF hX hL hV hb1 hb2
    have hw := m_ways (B := B) (n := n) hL.1 hn
    by_cases e : c = pM m ^ n
    · have c1 : nI (pM m ^ n) ≤ nI c := by rw [e]; exact nI_le (Nat.le_refl _) (by omega)
      rw [yS_K q H n false wn h0, ← e]
      refine ⟨D, b, f, ?_, hb1, hb2, Off.refl D, fun t _ => rfl⟩
      simp only [P_X8_bear_57, pureM_hp, ifB_t, ifB_f, decide_true, decide_false, ifB_hp, jn_hp, retZ_0, retZ_1, thn_some, cll0_w, cllV_w, getI_w, getL_w, getR_w, setI_w, setZ_w0, setZ_w1, setL_w, ald_w, ast_w, alen_w, aldR_2, aldR_3, aldR_4, aldR_22, cll0_pure, ↓reduceIte, if_true, if_false, Bool.false_eq_true, reduceCtorEq, and_true, true_and, and_false, false_and, ite_self, kI_1_9, kI_1_10, kI_5_4, kI_5_5, kI_5_6, kI_10_1, kI_11_4, kI_11_5, kI_11_6, kI_16_2, kI_16_3, kI_16_4, kI_16_5, kI_16_6, kI_17_2, kI_17_3, kI_21_4, kI_21_5, kI_21_6, kI_21_7, kI_21_8, kI_21_9, kI_21_10, kI_21_11, kI_26_2, kI_26_3, kI_29_2, kI_29_3, kI_32_2, kI_32_3, kI_35_2, kI_39_2, kI_39_3, kI_41_2, kI_41_3, kI_43_2, kI_43_3, kI_45_2, kI_45_3, kI_47_2, kI_47_3, kI_49_2, kI_49_3, kI_51_2, kI_51_3, kI_53_2, kI_53_3, kI_55_2, kI_55_3, kI_57_2, kI_57_3, kI_59_2, kI_59_3, kI_59_4, kI_59_5, kI_59_6, kI_60_2, kI_60_3, kI_64_2, kI_64_3, kI_64_4, kI_64_5, kI_64_6, kI_65_2, kI_65_3, kI_69_2, kI_69_3, kI_69_4, kI_69_5, kI_69_6, kI_70_2, kI_70_3, kI_74_10, kI_74_11, kI_74_12, kI_74_14, kI_74_18, kI_74_19, kI_74_20, kI_74_21, kI_74_22, kI_74_23, kI_74_29, kI_74_30, kI_74_31, kI_74_32, kI_74_33, kR_1_0, kR_1_1, kR_1_2, kR_1_3, kR_1_4, kR_1_5, kR_1_6, kR_1_7, kR_1_8, kR_5_0, kR_5_1, kR_5_2, kR_5_3, kR_10_0, kR_11_0, kR_11_1, kR_11_2, kR_11_3, kR_16_0, kR_16_1, kR_17_0, kR_17_1, kR_21_0, kR_21_1, kR_21_2, kR_21_3, kR_26_0, kR_26_1, kR_29_0, kR_29_1, kR_32_0, kR_32_1, kR_35_0, kR_35_1, kR_39_0, kR_41_0, kR_43_0, kR_45_0, kR_47_0, kR_49_0, kR_51_0, kR_53_0, kR_55_0, kR_57_0, kR_59_0, kR_59_1, kR_60_0, kR_60_1, kR_64_0, kR_64_1, kR_65_0, kR_65_1, kR_69_0, kR_69_1, kR_70_0, kR_70_1, kR_74_0, kR_74_1, kR_74_2, kR_74_3, kR_74_4, kR_74_5, kR_74_6, kR_74_7, kR_74_8, kR_74_9, kR_74_13, kR_74_17, kR_74_24, kR_74_25, kR_74_26, kR_74_27, kR_74_28, kR_74_34, kR_74_35, kR_74_36, kL_1_11, kL_1_12, kL_74_15, kL_74_16, kK_39_1, kK_41_1, kK_43_1, kK_45_1, kK_47_1, kK_49_1, kK_51_1, kK_53_1, kK_55_1, kK_57_1, kA_6, kA_7, kA_8, kA_9, kA_12, kA_13, kA_14, kA_15, kA_18, kA_19, kA_20, kA_23, kA_24, kA_25, kA_27, kA_28, kA_30, kA_31, kA_33, kA_34, kA_36, kA_37, kA_38, kA_40, kA_42, kA_44, kA_46, kA_48, kA_50, kA_52, kA_54, kA_56, kA_58, kA_61, kA_62, kA_63, kA_66, kA_67, kA_68, kA_71, kA_72, kA_73, kA_75, kA_76, kA_77, kA_78, kA_79, kA_80, kA_81, kA_82, kA_83, kA_84, kA_85, kA_86, kA_87, kA_88, kA_89, kA_90, kA_91, kA_92, kA_93, kA_94, kQ_2, kQ_3, kQ_4, kQ_22, kC_1, kC_5, kC_10, kC_11, kC_16, kC_17, kC_21, kC_26, kC_29, kC_32, kC_35, kC_39, kC_41, kC_43, kC_45, kC_47, kC_49, kC_51, kC_53, kC_55, kC_57, kC_59, kC_60, kC_64, kC_65, kC_69, kC_70, kC_74, hw, c1]
    · have c1 : ¬ nI (pM m ^ n) ≤ nI c := nI_ge (by omega) (by omega)
      obtain ⟨a, y1, y2, y3, y4⟩ := yK_ok (q := q) (H := H) (ex := false) (wn := wn) hm6 h0 hn1 c
      have ys := yK_s m q H n false wn c
      generalize hf0 : (yK m q H n false wn c).2.2.2.2 = f0 at *
      obtain ⟨w1, w2⟩ := who_dg (c := c) hm6 h0 hn1
      have hpo := m_peopleOf (B := B) (c := c) hm6 h0 hL hn (by omega)
      have hhm := fun h => m_howMany (h := h) w1
      have yn : okL false wn q H 0 (dgm m n c) = true → (yK m q H n false wn (c + 1)).2.2.2.2 = if bett f0 (whoN (dgm m n c)) = true then whoN (dgm m n c) else f0 := fun z => by
        rw [ys]
        unfold fC
        rw [if_pos z, ← hf0]
        rfl
      have yo : ¬ okL false wn q H 0 (dgm m n c) = true → (yK m q H n false wn (c + 1)).2.2.2.2 = f0 := fun z => by
        rw [ys]
        unfold fC
        rw [if_neg z, hf0]
      generalize whoN (dgm m n c) = s at *
      have bs := (bc_dec s w1).2
      have bf := (bc_dec f0 y4).2
      by_cases hbe : bett f0 s = true
      · -- fewer
        obtain ⟨D1, g1, g2, g3⟩ := m_isSo (B := B) (r := r) (c := c) (ex := false) hv hm6 h0 hW hF hX hL hn (by omega) hr hV
        rw [b2i_f] at g1
        have f1 : MF D1 m q := hF.off g2 (by unfold T79; omega) (fun a q1 q2 => by unfold T79; omega)
        have l1 : LPm D1 m := hL.off g2 (by unfold T79; omega) (by unfold T79; omega)
        have v1 : RMv D1 r n wn := hV.off g2 (by unfold T79; omega) (by unfold T79; omega)
        have x1 : MH D1 0 H := by
          obtain ⟨z1, z2, z3⟩ := hX
          exact ⟨(g3 0 (by omega)).trans z1, (g3 _ (by omega)).trans z2, fun k hk => (g3 _ (by omega)).trans (z3 k hk)⟩
        have step : ∀ b1 f1', ((yK m q H n false wn (c + 1)).2.2.2.2 = 0 → b1 = -9 ∧ f1' = 7) → ((yK m q H n false wn (c + 1)).2.2.2.2 ≠ 0 → b1 = nI (yK m q H n false wn (c + 1)).2.2.2.2 ∧ f1' = nI (pc (yK m q H n false wn (c + 1)).2.2.2.2)) → ∃ D' b' f', P_X8_bear_57 K 74 (nI r) (nI n) F b1 f1' (nI (c + 1)) (hp B D1) = K b' f' (hp B D') ∧ ((yS m q H n false wn).2.2.2.2 = 0 → b' = -9 ∧ f' = 7) ∧ ((yS m q H n false wn).2.2.2.2 ≠ 0 → b' = nI (yS m q H n false wn).2.2.2.2 ∧ f' = nI (pc (yS m q H n false wn).2.2.2.2)) ∧ Off T79 D D' ∧ ∀ t, (t < 11 ∨ 22 ≤ t) → fG D' 79 t = fG D 79 t := by
          intro b1 f1' z1 z2
          obtain ⟨D', b', f', t1, t2, t3, t4, t5⟩ := ih (c + 1) D1 b1 f1' (by omega) (by omega) f1 x1 l1 v1 z1 z2
          exact ⟨D', b', f', t1, t2, t3, g2.trans t4, fun t ht => by rw [t5 t ht, g3 t ht]⟩
        have cond : (nI (pc s) < f) ∨ (¬ nI (pc s) < f ∧ nI (pc s) = f ∧ ¬ b ≤ nI s) := by
          by_cases e0 : f0 = 0
          · obtain ⟨-, z2⟩ := hb1 e0
            rw [z2]
            exact Or.inl (show nI (pc s) < nI 7 from (nI_ltI (by omega) (by omega)).mpr (by omega))
          · obtain ⟨z1, z2⟩ := hb2 e0
            rw [z1, z2]
            unfold bett at hbe
            have hb' : f0 = 0 ∨ pc s < pc f0 ∨ (pc s = pc f0 ∧ s < f0) := by simpa using hbe
            rcases hb' with z | z | ⟨z, z'⟩
            · exact absurd z e0
            · exact Or.inl ((nI_ltI (by omega) (by omega)).mpr z)
            · exact Or.inr ⟨fun y => by have := (nI_ltI (by omega) (by omega)).mp y; omega, by rw [z], nI_ge (by omega) (by omega)⟩
        have n10 : ¬ (1 : Int32) = 0 := by decide
        by_cases hok : okL false wn q H 0 (dgm m n c) = true
        · have es : (yK m q H n false wn (c + 1)).2.2.2.2 = s := by rw [yn hok, if_pos hbe]
          obtain ⟨D', b', f', t1, t2⟩ := step (nI s) (nI (pc s)) (fun z => by rw [es] at z; omega) (fun _ => by rw [es]; exact ⟨rfl, rfl⟩)
          refine ⟨D', b', f', ?_, t2⟩
          rw [hok, b2i_t] at g1
          rcases cond with k1 | ⟨k1, k2, k3⟩
          · simp only [P_X8_bear_57, pureM_hp, ifB_t, ifB_f, decide_true, decide_false, ifB_hp, jn_hp, retZ_0, retZ_1, thn_some, cll0_w, cllV_w, getI_w, getL_w, getR_w, setI_w, setZ_w0, setZ_w1, setL_w, ald_w, ast_w, alen_w, aldR_2, aldR_3, aldR_4, aldR_22, cll0_pure, ↓reduceIte, if_true, if_false, Bool.false_eq_true, reduceCtorEq, and_true, true_and, and_false, false_and, ite_self, kI_1_9, kI_1_10, kI_5_4, kI_5_5, kI_5_6, kI_10_1, kI_11_4, kI_11_5, kI_11_6, kI_16_2, kI_16_3, kI_16_4, kI_16_5, kI_16_6, kI_17_2, kI_17_3, kI_21_4, kI_21_5, kI_21_6, kI_21_7, kI_21_8, kI_21_9, kI_21_10, kI_21_11, kI_26_2, kI_26_3, kI_29_2, kI_29_3, kI_32_2, kI_32_3, kI_35_2, kI_39_2, kI_39_3, kI_41_2, kI_41_3, kI_43_2, kI_43_3, kI_45_2, kI_45_3, kI_47_2, kI_47_3, kI_49_2, kI_49_3, kI_51_2, kI_51_3, kI_53_2, kI_53_3, kI_55_2, kI_55_3, kI_57_2, kI_57_3, kI_59_2, kI_59_3, kI_59_4, kI_59_5, kI_59_6, kI_60_2, kI_60_3, kI_64_2, kI_64_3, kI_64_4, kI_64_5, kI_64_6, kI_65_2, kI_65_3, kI_69_2, kI_69_3, kI_69_4, kI_69_5, kI_69_6, kI_70_2, kI_70_3, kI_74_10, kI_74_11, kI_74_12, kI_74_14, kI_74_18, kI_74_19, kI_74_20, kI_74_21, kI_74_22, kI_74_23, kI_74_29, kI_74_30, kI_74_31, kI_74_32, kI_74_33, kR_1_0, kR_1_1, kR_1_2, kR_1_3, kR_1_4, kR_1_5, kR_1_6, kR_1_7, kR_1_8, kR_5_0, kR_5_1, kR_5_2, kR_5_3, kR_10_0, kR_11_0, kR_11_1, kR_11_2, kR_11_3, kR_16_0, kR_16_1, kR_17_0, kR_17_1, kR_21_0, kR_21_1, kR_21_2, kR_21_3, kR_26_0, kR_26_1, kR_29_0, kR_29_1, kR_32_0, kR_32_1, kR_35_0, kR_35_1, kR_39_0, kR_41_0, kR_43_0, kR_45_0, kR_47_0, kR_49_0, kR_51_0, kR_53_0, kR_55_0, kR_57_0, kR_59_0, kR_59_1, kR_60_0, kR_60_1, kR_64_0, kR_64_1, kR_65_0, kR_65_1, kR_69_0, kR_69_1, kR_70_0, kR_70_1, kR_74_0, kR_74_1, kR_74_2, kR_74_3, kR_74_4, kR_74_5, kR_74_6, kR_74_7, kR_74_8, kR_74_9, kR_74_13, kR_74_17, kR_74_24, kR_74_25, kR_74_26, kR_74_27, kR_74_28, kR_74_34, kR_74_35, kR_74_36, kL_1_11, kL_1_12, kL_74_15, kL_74_16, kK_39_1, kK_41_1, kK_43_1, kK_45_1, kK_47_1, kK_49_1, kK_51_1, kK_53_1, kK_55_1, kK_57_1, kA_6, kA_7, kA_8, kA_9, kA_12, kA_13, kA_14, kA_15, kA_18, kA_19, kA_20, kA_23, kA_24, kA_25, kA_27, kA_28, kA_30, kA_31, kA_33, kA_34, kA_36, kA_37, kA_38, kA_40, kA_42, kA_44, kA_46, kA_48, kA_50, kA_52, kA_54, kA_56, kA_58, kA_61, kA_62, kA_63, kA_66, kA_67, kA_68, kA_71, kA_72, kA_73, kA_75, kA_76, kA_77, kA_78, kA_79, kA_80, kA_81, kA_82, kA_83, kA_84, kA_85, kA_86, kA_87, kA_88, kA_89, kA_90, kA_91, kA_92, kA_93, kA_94, kQ_2, kQ_3, kQ_4, kQ_22, kC_1, kC_5, kC_10, kC_11, kC_16, kC_17, kC_21, kC_26, kC_29, kC_32, kC_35, kC_39, kC_41, kC_43, kC_45, kC_47, kC_49, kC_51, kC_53, kC_55, kC_57, kC_59, kC_60, kC_64, kC_65, kC_69, kC_70, kC_74, hw, c1, hpo, hhm, k1, n10, g1, nI_p1, t1]
          · simp only [P_X8_bear_57, pureM_hp, ifB_t, ifB_f, decide_true, decide_false, ifB_hp, jn_hp, retZ_0, retZ_1, thn_some, cll0_w, cllV_w, getI_w, getL_w, getR_w, setI_w, setZ_w0, setZ_w1, setL_w, ald_w, ast_w, alen_w, aldR_2, aldR_3, aldR_4, aldR_22, cll0_pure, ↓reduceIte, if_true, if_false, Bool.false_eq_true, reduceCtorEq, and_true, true_and, and_false, false_and, ite_self, kI_1_9, kI_1_10, kI_5_4, kI_5_5, kI_5_6, kI_10_1, kI_11_4, kI_11_5, kI_11_6, kI_16_2, kI_16_3, kI_16_4, kI_16_5, kI_16_6, kI_17_2, kI_17_3, kI_21_4, kI_21_5, kI_21_6, kI_21_7, kI_21_8, kI_21_9, kI_21_10, kI_21_11, kI_26_2, kI_26_3, kI_29_2, kI_29_3, kI_32_2, kI_32_3, kI_35_2, kI_39_2, kI_39_3, kI_41_2, kI_41_3, kI_43_2, kI_43_3, kI_45_2, kI_45_3, kI_47_2, kI_47_3, kI_49_2, kI_49_3, kI_51_2, kI_51_3, kI_53_2, kI_53_3, kI_55_2, kI_55_3, kI_57_2, kI_57_3, kI_59_2, kI_59_3, kI_59_4, kI_59_5, kI_59_6, kI_60_2, kI_60_3, kI_64_2, kI_64_3, kI_64_4, kI_64_5, kI_64_6, kI_65_2, kI_65_3, kI_69_2, kI_69_3, kI_69_4, kI_69_5, kI_69_6, kI_70_2, kI_70_3, kI_74_10, kI_74_11, kI_74_12, kI_74_14, kI_74_18, kI_74_19, kI_74_20, kI_74_21, kI_74_22, kI_74_23, kI_74_29, kI_74_30, kI_74_31, kI_74_32, kI_74_33, kR_1_0, kR_1_1, kR_1_2, kR_1_3, kR_1_4, kR_1_5, kR_1_6, kR_1_7, kR_1_8, kR_5_0, kR_5_1, kR_5_2, kR_5_3, kR_10_0, kR_11_0, kR_11_1, kR_11_2, kR_11_3, kR_16_0, kR_16_1, kR_17_0, kR_17_1, kR_21_0, kR_21_1, kR_21_2, kR_21_3, kR_26_0, kR_26_1, kR_29_0, kR_29_1, kR_32_0, kR_32_1, kR_35_0, kR_35_1, kR_39_0, kR_41_0, kR_43_0, kR_45_0, kR_47_0, kR_49_0, kR_51_0, kR_53_0, kR_55_0, kR_57_0, kR_59_0, kR_59_1, kR_60_0, kR_60_1, kR_64_0, kR_64_1, kR_65_0, kR_65_1, kR_69_0, kR_69_1, kR_70_0, kR_70_1, kR_74_0, kR_74_1, kR_74_2, kR_74_3, kR_74_4, kR_74_5, kR_74_6, kR_74_7, kR_74_8, kR_74_9, kR_74_13, kR_74_17, kR_74_24, kR_74_25, kR_74_26, kR_74_27, kR_74_28, kR_74_34, kR_74_35, kR_74_36, kL_1_11, kL_1_12, kL_74_15, kL_74_16, kK_39_1, kK_41_1, kK_43_1, kK_45_1, kK_47_1, kK_49_1, kK_51_1, kK_53_1, kK_55_1, kK_57_1, kA_6, kA_7, kA_8, kA_9, kA_12, kA_13, kA_14, kA_15, kA_18, kA_19, kA_20, kA_23, kA_24, kA_25, kA_27, kA_28, kA_30, kA_31, kA_33, kA_34, kA_36, kA_37, kA_38, kA_40, kA_42, kA_44, kA_46, kA_48, kA_50, kA_52, kA_54, kA_56, kA_58, kA_61, kA_62, kA_63, kA_66, kA_67, kA_68, kA_71, kA_72, kA_73, kA_75, kA_76, kA_77, kA_78, kA_79, kA_80, kA_81, kA_82, kA_83, kA_84, kA_85, kA_86, kA_87, kA_88, kA_89, kA_90, kA_91, kA_92, kA_93, kA_94, kQ_2, kQ_3, kQ_4, kQ_22, kC_1, kC_5, kC_10, kC_11, kC_16, kC_17, kC_21, kC_26, kC_29, kC_32, kC_35, kC_39, kC_41, kC_43, kC_45, kC_47, kC_49, kC_51, kC_53, kC_55, kC_57, kC_59, kC_60, kC_64, kC_65, kC_69, kC_70, kC_74, hw, c1, hpo, hhm, k1, k2, k3, not_true_eq_false, n10, g1, nI_p1]
            rw [k2] at t1
            exact t1
        · have es := yo hok
          obtain ⟨D', b', f', t1, t2⟩ := step b f (by rw [es]; exact hb1) (by rw [es]; exact hb2)
          refine ⟨D', b', f', ?_, t2⟩
          rw [Bool.not_eq_true] at hok
          rw [hok, b2i_f] at g1
          rcases cond with k1 | ⟨k1, k2, k3⟩
          · simp only [P_X8_bear_57, pureM_hp, ifB_t, ifB_f, decide_true, decide_false, ifB_hp, jn_hp, retZ_0, retZ_1, thn_some, cll0_w, cllV_w, getI_w, getL_w, getR_w, setI_w, setZ_w0, setZ_w1, setL_w, ald_w, ast_w, alen_w, aldR_2, aldR_3, aldR_4, aldR_22, cll0_pure, ↓reduceIte, if_true, if_false, Bool.false_eq_true, reduceCtorEq, and_true, true_and, and_false, false_and, ite_self, kI_1_9, kI_1_10, kI_5_4, kI_5_5, kI_5_6, kI_10_1, kI_11_4, kI_11_5, kI_11_6, kI_16_2, kI_16_3, kI_16_4, kI_16_5, kI_16_6, kI_17_2, kI_17_3, kI_21_4, kI_21_5, kI_21_6, kI_21_7, kI_21_8, kI_21_9, kI_21_10, kI_21_11, kI_26_2, kI_26_3, kI_29_2, kI_29_3, kI_32_2, kI_32_3, kI_35_2, kI_39_2, kI_39_3, kI_41_2, kI_41_3, kI_43_2, kI_43_3, kI_45_2, kI_45_3, kI_47_2, kI_47_3, kI_49_2, kI_49_3, kI_51_2, kI_51_3, kI_53_2, kI_53_3, kI_55_2, kI_55_3, kI_57_2, kI_57_3, kI_59_2, kI_59_3, kI_59_4, kI_59_5, kI_59_6, kI_60_2, kI_60_3, kI_64_2, kI_64_3, kI_64_4, kI_64_5, kI_64_6, kI_65_2, kI_65_3, kI_69_2, kI_69_3, kI_69_4, kI_69_5, kI_69_6, kI_70_2, kI_70_3, kI_74_10, kI_74_11, kI_74_12, kI_74_14, kI_74_18, kI_74_19, kI_74_20, kI_74_21, kI_74_22, kI_74_23, kI_74_29, kI_74_30, kI_74_31, kI_74_32, kI_74_33, kR_1_0, kR_1_1, kR_1_2, kR_1_3, kR_1_4, kR_1_5, kR_1_6, kR_1_7, kR_1_8, kR_5_0, kR_5_1, kR_5_2, kR_5_3, kR_10_0, kR_11_0, kR_11_1, kR_11_2, kR_11_3, kR_16_0, kR_16_1, kR_17_0, kR_17_1, kR_21_0, kR_21_1, kR_21_2, kR_21_3, kR_26_0, kR_26_1, kR_29_0, kR_29_1, kR_32_0, kR_32_1, kR_35_0, kR_35_1, kR_39_0, kR_41_0, kR_43_0, kR_45_0, kR_47_0, kR_49_0, kR_51_0, kR_53_0, kR_55_0, kR_57_0, kR_59_0, kR_59_1, kR_60_0, kR_60_1, kR_64_0, kR_64_1, kR_65_0, kR_65_1, kR_69_0, kR_69_1, kR_70_0, kR_70_1, kR_74_0, kR_74_1, kR_74_2, kR_74_3, kR_74_4, kR_74_5, kR_74_6, kR_74_7, kR_74_8, kR_74_9, kR_74_13, kR_74_17, kR_74_24, kR_74_25, kR_74_26, kR_74_27, kR_74_28, kR_74_34, kR_74_35, kR_74_36, kL_1_11, kL_1_12, kL_74_15, kL_74_16, kK_39_1, kK_41_1, kK_43_1, kK_45_1, kK_47_1, kK_49_1, kK_51_1, kK_53_1, kK_55_1, kK_57_1, kA_6, kA_7, kA_8, kA_9, kA_12, kA_13, kA_14, kA_15, kA_18, kA_19, kA_20, kA_23, kA_24, kA_25, kA_27, kA_28, kA_30, kA_31, kA_33, kA_34, kA_36, kA_37, kA_38, kA_40, kA_42, kA_44, kA_46, kA_48, kA_50, kA_52, kA_54, kA_56, kA_58, kA_61, kA_62, kA_63, kA_66, kA_67, kA_68, kA_71, kA_72, kA_73, kA_75, kA_76, kA_77, kA_78, kA_79, kA_80, kA_81, kA_82, kA_83, kA_84, kA_85, kA_86, kA_87, kA_88, kA_89, kA_90, kA_91, kA_92, kA_93, kA_94, kQ_2, kQ_3, kQ_4, kQ_22, kC_1, kC_5, kC_10, kC_11, kC_16, kC_17, kC_21, kC_26, kC_29, kC_32, kC_35, kC_39, kC_41, kC_43, kC_45, kC_47, kC_49, kC_51, kC_53, kC_55, kC_57, kC_59, kC_60, kC_64, kC_65, kC_69, kC_70, kC_74, hw, c1, hpo, hhm, k1, n10, g1, nI_p1, t1]
          · simp only [P_X8_bear_57, pureM_hp, ifB_t, ifB_f, decide_true, decide_false, ifB_hp, jn_hp, retZ_0, retZ_1, thn_some, cll0_w, cllV_w, getI_w, getL_w, getR_w, setI_w, setZ_w0, setZ_w1, setL_w, ald_w, ast_w, alen_w, aldR_2, aldR_3, aldR_4, aldR_22, cll0_pure, ↓reduceIte, if_true, if_false, Bool.false_eq_true, reduceCtorEq, and_true, true_and, and_false, false_and, ite_self, kI_1_9, kI_1_10, kI_5_4, kI_5_5, kI_5_6, kI_10_1, kI_11_4, kI_11_5, kI_11_6, kI_16_2, kI_16_3, kI_16_4, kI_16_5, kI_16_6, kI_17_2, kI_17_3, kI_21_4, kI_21_5, kI_21_6, kI_21_7, kI_21_8, kI_21_9, kI_21_10, kI_21_11, kI_26_2, kI_26_3, kI_29_2, kI_29_3, kI_32_2, kI_32_3, kI_35_2, kI_39_2, kI_39_3, kI_41_2, kI_41_3, kI_43_2, kI_43_3, kI_45_2, kI_45_3, kI_47_2, kI_47_3, kI_49_2, kI_49_3, kI_51_2, kI_51_3, kI_53_2, kI_53_3, kI_55_2, kI_55_3, kI_57_2, kI_57_3, kI_59_2, kI_59_3, kI_59_4, kI_59_5, kI_59_6, kI_60_2, kI_60_3, kI_64_2, kI_64_3, kI_64_4, kI_64_5, kI_64_6, kI_65_2, kI_65_3, kI_69_2, kI_69_3, kI_69_4, kI_69_5, kI_69_6, kI_70_2, kI_70_3, kI_74_10, kI_74_11, kI_74_12, kI_74_14, kI_74_18, kI_74_19, kI_74_20, kI_74_21, kI_74_22, kI_74_23, kI_74_29, kI_74_30, kI_74_31, kI_74_32, kI_74_33, kR_1_0, kR_1_1, kR_1_2, kR_1_3, kR_1_4, kR_1_5, kR_1_6, kR_1_7, kR_1_8, kR_5_0, kR_5_1, kR_5_2, kR_5_3, kR_10_0, kR_11_0, kR_11_1, kR_11_2, kR_11_3, kR_16_0, kR_16_1, kR_17_0, kR_17_1, kR_21_0, kR_21_1, kR_21_2, kR_21_3, kR_26_0, kR_26_1, kR_29_0, kR_29_1, kR_32_0, kR_32_1, kR_35_0, kR_35_1, kR_39_0, kR_41_0, kR_43_0, kR_45_0, kR_47_0, kR_49_0, kR_51_0, kR_53_0, kR_55_0, kR_57_0, kR_59_0, kR_59_1, kR_60_0, kR_60_1, kR_64_0, kR_64_1, kR_65_0, kR_65_1, kR_69_0, kR_69_1, kR_70_0, kR_70_1, kR_74_0, kR_74_1, kR_74_2, kR_74_3, kR_74_4, kR_74_5, kR_74_6, kR_74_7, kR_74_8, kR_74_9, kR_74_13, kR_74_17, kR_74_24, kR_74_25, kR_74_26, kR_74_27, kR_74_28, kR_74_34, kR_74_35, kR_74_36, kL_1_11, kL_1_12, kL_74_15, kL_74_16, kK_39_1, kK_41_1, kK_43_1, kK_45_1, kK_47_1, kK_49_1, kK_51_1, kK_53_1, kK_55_1, kK_57_1, kA_6, kA_7, kA_8, kA_9, kA_12, kA_13, kA_14, kA_15, kA_18, kA_19, kA_20, kA_23, kA_24, kA_25, kA_27, kA_28, kA_30, kA_31, kA_33, kA_34, kA_36, kA_37, kA_38, kA_40, kA_42, kA_44, kA_46, kA_48, kA_50, kA_52, kA_54, kA_56, kA_58, kA_61, kA_62, kA_63, kA_66, kA_67, kA_68, kA_71, kA_72, kA_73, kA_75, kA_76, kA_77, kA_78, kA_79, kA_80, kA_81, kA_82, kA_83, kA_84, kA_85, kA_86, kA_87, kA_88, kA_89, kA_90, kA_91, kA_92, kA_93, kA_94, kQ_2, kQ_3, kQ_4, kQ_22, kC_1, kC_5, kC_10, kC_11, kC_16, kC_17, kC_21, kC_26, kC_29, kC_32, kC_35, kC_39, kC_41, kC_43, kC_45, kC_47, kC_49, kC_51, kC_53, kC_55, kC_57, kC_59, kC_60, kC_64, kC_65, kC_69, kC_70, kC_74, hw, c1, hpo, hhm, k1, k2, k3, not_true_eq_false, n10, g1, nI_p1]
            exact t1
      · have e0 : f0 ≠ 0 := fun z => hbe (by unfold bett; simp [z])
        obtain ⟨z1, z2⟩ := hb2 e0
        have es : (yK m q H n false wn (c + 1)).2.2.2.2 = f0 := by
          by_cases hok : okL false wn q H 0 (dgm m n c) = true
          · rw [yn hok, if_neg hbe]
          · exact yo hok
        have hb' : ¬ (f0 = 0 ∨ pc s < pc f0 ∨ (pc s = pc f0 ∧ s < f0)) := fun y => hbe (by unfold bett; simpa using y)
        obtain ⟨D', b', f', t1, t2⟩ := ih (c + 1) D b f (by omega) (by omega) hF hX hL hV (by rw [es]; exact hb1) (by rw [es]; exact hb2)
        refine ⟨D', b', f', ?_, t2⟩
        have k1 : ¬ nI (pc s) < f := by
          rw [z2]
          exact fun y => hb' (Or.inr (Or.inl ((nI_ltI (by omega) (by omega)).mp y)))
        by_cases k2 : nI (pc s) = f
        · have k3 : b ≤ nI s := by
            rw [z1]
            have k2' : pc s = pc f0 := (nI_eq (by omega) (by omega)).mp (k2.trans z2)
            have : ¬ s < f0 := fun y => hb' (Or.inr (Or.inr ⟨k2', y⟩))
            exact nI_le (by omega) (by omega)
          simp only [P_X8_bear_57, pureM_hp, ifB_t, ifB_f, decide_true, decide_false, ifB_hp, jn_hp, retZ_0, retZ_1, thn_some, cll0_w, cllV_w, getI_w, getL_w, getR_w, setI_w, setZ_w0, setZ_w1, setL_w, ald_w, ast_w, alen_w, aldR_2, aldR_3, aldR_4, aldR_22, cll0_pure, ↓reduceIte, if_true, if_false, Bool.false_eq_true, reduceCtorEq, and_true, true_and, and_false, false_and, ite_self, kI_1_9, kI_1_10, kI_5_4, kI_5_5, kI_5_6, kI_10_1, kI_11_4, kI_11_5, kI_11_6, kI_16_2, kI_16_3, kI_16_4, kI_16_5, kI_16_6, kI_17_2, kI_17_3, kI_21_4, kI_21_5, kI_21_6, kI_21_7, kI_21_8, kI_21_9, kI_21_10, kI_21_11, kI_26_2, kI_26_3, kI_29_2, kI_29_3, kI_32_2, kI_32_3, kI_35_2, kI_39_2, kI_39_3, kI_41_2, kI_41_3, kI_43_2, kI_43_3, kI_45_2, kI_45_3, kI_47_2, kI_47_3, kI_49_2, kI_49_3, kI_51_2, kI_51_3, kI_53_2, kI_53_3, kI_55_2, kI_55_3, kI_57_2, kI_57_3, kI_59_2, kI_59_3, kI_59_4, kI_59_5, kI_59_6, kI_60_2, kI_60_3, kI_64_2, kI_64_3, kI_64_4, kI_64_5, kI_64_6, kI_65_2, kI_65_3, kI_69_2, kI_69_3, kI_69_4, kI_69_5, kI_69_6, kI_70_2, kI_70_3, kI_74_10, kI_74_11, kI_74_12, kI_74_14, kI_74_18, kI_74_19, kI_74_20, kI_74_21, kI_74_22, kI_74_23, kI_74_29, kI_74_30, kI_74_31, kI_74_32, kI_74_33, kR_1_0, kR_1_1, kR_1_2, kR_1_3, kR_1_4, kR_1_5, kR_1_6, kR_1_7, kR_1_8, kR_5_0, kR_5_1, kR_5_2, kR_5_3, kR_10_0, kR_11_0, kR_11_1, kR_11_2, kR_11_3, kR_16_0, kR_16_1, kR_17_0, kR_17_1, kR_21_0, kR_21_1, kR_21_2, kR_21_3, kR_26_0, kR_26_1, kR_29_0, kR_29_1, kR_32_0, kR_32_1, kR_35_0, kR_35_1, kR_39_0, kR_41_0, kR_43_0, kR_45_0, kR_47_0, kR_49_0, kR_51_0, kR_53_0, kR_55_0, kR_57_0, kR_59_0, kR_59_1, kR_60_0, kR_60_1, kR_64_0, kR_64_1, kR_65_0, kR_65_1, kR_69_0, kR_69_1, kR_70_0, kR_70_1, kR_74_0, kR_74_1, kR_74_2, kR_74_3, kR_74_4, kR_74_5, kR_74_6, kR_74_7, kR_74_8, kR_74_9, kR_74_13, kR_74_17, kR_74_24, kR_74_25, kR_74_26, kR_74_27, kR_74_28, kR_74_34, kR_74_35, kR_74_36, kL_1_11, kL_1_12, kL_74_15, kL_74_16, kK_39_1, kK_41_1, kK_43_1, kK_45_1, kK_47_1, kK_49_1, kK_51_1, kK_53_1, kK_55_1, kK_57_1, kA_6, kA_7, kA_8, kA_9, kA_12, kA_13, kA_14, kA_15, kA_18, kA_19, kA_20, kA_23, kA_24, kA_25, kA_27, kA_28, kA_30, kA_31, kA_33, kA_34, kA_36, kA_37, kA_38, kA_40, kA_42, kA_44, kA_46, kA_48, kA_50, kA_52, kA_54, kA_56, kA_58, kA_61, kA_62, kA_63, kA_66, kA_67, kA_68, kA_71, kA_72, kA_73, kA_75, kA_76, kA_77, kA_78, kA_79, kA_80, kA_81, kA_82, kA_83, kA_84, kA_85, kA_86, kA_87, kA_88, kA_89, kA_90, kA_91, kA_92, kA_93, kA_94, kQ_2, kQ_3, kQ_4, kQ_22, kC_1, kC_5, kC_10, kC_11, kC_16, kC_17, kC_21, kC_26, kC_29, kC_32, kC_35, kC_39, kC_41, kC_43, kC_45, kC_47, kC_49, kC_51, kC_53, kC_55, kC_57, kC_59, kC_60, kC_64, kC_65, kC_69, kC_70, kC_74, hw, c1, hpo, hhm, k1, k2, k3, not_true_eq_false, nI_p1, t1]
          rw [if_neg (by rw [← k2]; exact fun z => by have := (nI_ltI (by omega) (by omega)).mp z; omega)]
        · simp only [P_X8_bear_57, pureM_hp, ifB_t, ifB_f, decide_true, decide_false, ifB_hp, jn_hp, retZ_0, retZ_1, thn_some, cll0_w, cllV_w, getI_w, getL_w, getR_w, setI_w, setZ_w0, setZ_w1, setL_w, ald_w, ast_w, alen_w, aldR_2, aldR_3, aldR_4, aldR_22, cll0_pure, ↓reduceIte, if_true, if_false, Bool.false_eq_true, reduceCtorEq, and_true, true_and, and_false, false_and, ite_self, kI_1_9, kI_1_10, kI_5_4, kI_5_5, kI_5_6, kI_10_1, kI_11_4, kI_11_5, kI_11_6, kI_16_2, kI_16_3, kI_16_4, kI_16_5, kI_16_6, kI_17_2, kI_17_3, kI_21_4, kI_21_5, kI_21_6, kI_21_7, kI_21_8, kI_21_9, kI_21_10, kI_21_11, kI_26_2, kI_26_3, kI_29_2, kI_29_3, kI_32_2, kI_32_3, kI_35_2, kI_39_2, kI_39_3, kI_41_2, kI_41_3, kI_43_2, kI_43_3, kI_45_2, kI_45_3, kI_47_2, kI_47_3, kI_49_2, kI_49_3, kI_51_2, kI_51_3, kI_53_2, kI_53_3, kI_55_2, kI_55_3, kI_57_2, kI_57_3, kI_59_2, kI_59_3, kI_59_4, kI_59_5, kI_59_6, kI_60_2, kI_60_3, kI_64_2, kI_64_3, kI_64_4, kI_64_5, kI_64_6, kI_65_2, kI_65_3, kI_69_2, kI_69_3, kI_69_4, kI_69_5, kI_69_6, kI_70_2, kI_70_3, kI_74_10, kI_74_11, kI_74_12, kI_74_14, kI_74_18, kI_74_19, kI_74_20, kI_74_21, kI_74_22, kI_74_23, kI_74_29, kI_74_30, kI_74_31, kI_74_32, kI_74_33, kR_1_0, kR_1_1, kR_1_2, kR_1_3, kR_1_4, kR_1_5, kR_1_6, kR_1_7, kR_1_8, kR_5_0, kR_5_1, kR_5_2, kR_5_3, kR_10_0, kR_11_0, kR_11_1, kR_11_2, kR_11_3, kR_16_0, kR_16_1, kR_17_0, kR_17_1, kR_21_0, kR_21_1, kR_21_2, kR_21_3, kR_26_0, kR_26_1, kR_29_0, kR_29_1, kR_32_0, kR_32_1, kR_35_0, kR_35_1, kR_39_0, kR_41_0, kR_43_0, kR_45_0, kR_47_0, kR_49_0, kR_51_0, kR_53_0, kR_55_0, kR_57_0, kR_59_0, kR_59_1, kR_60_0, kR_60_1, kR_64_0, kR_64_1, kR_65_0, kR_65_1, kR_69_0, kR_69_1, kR_70_0, kR_70_1, kR_74_0, kR_74_1, kR_74_2, kR_74_3, kR_74_4, kR_74_5, kR_74_6, kR_74_7, kR_74_8, kR_74_9, kR_74_13, kR_74_17, kR_74_24, kR_74_25, kR_74_26, kR_74_27, kR_74_28, kR_74_34, kR_74_35, kR_74_36, kL_1_11, kL_1_12, kL_74_15, kL_74_16, kK_39_1, kK_41_1, kK_43_1, kK_45_1, kK_47_1, kK_49_1, kK_51_1, kK_53_1, kK_55_1, kK_57_1, kA_6, kA_7, kA_8, kA_9, kA_12, kA_13, kA_14, kA_15, kA_18, kA_19, kA_20, kA_23, kA_24, kA_25, kA_27, kA_28, kA_30, kA_31, kA_33, kA_34, kA_36, kA_37, kA_38, kA_40, kA_42, kA_44, kA_46, kA_48, kA_50, kA_52, kA_54, kA_56, kA_58, kA_61, kA_62, kA_63, kA_66, kA_67, kA_68, kA_71, kA_72, kA_73, kA_75, kA_76, kA_77, kA_78, kA_79, kA_80, kA_81, kA_82, kA_83, kA_84, kA_85, kA_86, kA_87, kA_88, kA_89, kA_90, kA_91, kA_92, kA_93, kA_94, kQ_2, kQ_3, kQ_4, kQ_22, kC_1, kC_5, kC_10, kC_11, kC_16, kC_17, kC_21, kC_26, kC_29, kC_32, kC_35, kC_39, kC_41, kC_43, kC_45, kC_47, kC_49, kC_51, kC_53, kC_55, kC_57, kC_59, kC_60, kC_64, kC_65, kC_69, kC_70, kC_74, hw, c1, hpo, hhm, k1, k2, not_false_eq_true, nI_p1, t1]
end SO
