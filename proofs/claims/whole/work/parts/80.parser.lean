/-! The reference reads all. -/
section PARSER
variable {B : BT}
theorem it_le {n : Nat} {g : Nat → Int32} {p m : Nat} {q : QT} {f : Nat} (e : itP n g p m q = .inl f) : f ≤ p + 2 := by
  unfold itP at e
  by_cases h1 : sg n g p = 113
  · rw [if_pos h1] at e
    unfold itQ at e
    cases e1 : fgO (sg n g (p + 1)) with
    | none => rw [e1] at e; cases e; omega
    | some a =>
      rw [e1] at e
      dsimp only at e
      by_cases ha : a < m
      · rw [if_pos ha] at e
        cases e2 : fgO (sg n g (p + 2)) with
        | none => rw [e2] at e; cases e; omega
        | some b =>
          rw [e2] at e
          dsimp only at e
          by_cases hb : b < m ∧ ¬ a = b
          · rw [if_pos hb] at e; cases e
          · rw [if_neg hb] at e; cases e; omega
      · rw [if_neg ha] at e; cases e; omega
  · rw [if_neg h1] at e
    unfold itO at e
    cases e0 : kdO (sg n g p) with
    | none => rw [e0] at e; cases e; omega
    | some kd =>
      rw [e0] at e
      dsimp only at e
      by_cases hm : m < 6
      · rw [if_pos hm] at e
        cases e1 : fgO (sg n g (p + 1)) with
        | none => rw [e1] at e; cases e; omega
        | some a =>
          rw [e1] at e
          dsimp only at e
          cases e2 : fgO (sg n g (p + 2)) with
          | none => rw [e2] at e; cases e; omega
          | some b => rw [e2] at e; cases e
      · rw [if_neg hm] at e; cases e; omega
theorem kd_113 : kdO 113 = none := by decide
theorem m_kindOf (v : Int32) (h : AH) : P_X8_kindOf v h = match kdO v with
    | some k => some (nI k, h)
    | none => some (-9, h) := by
  have := kd_all (v := v) (fun k => (pureM (nI k) : PM Int32)) (pureM (-9)) h
  cases e : kdO v with
  | none => rw [e] at this; exact this
  | some k => rw [e] at this; exact this
theorem MRr.s18 {D : DT} {m : Nat} {q : QT} (h : MRr D m q) (v : Int32) : MRr (uI D 74 18 v) m q := h.sc ((Off.refl D).uI 74 18 v (by omega))
theorem m_rd_loop {t n : Nat} {g : Nat → Int32} (ht : t < 4) (K : PM Int32) : ∀ (f F p m : Nat) (q : QT) (D : DT), n ≤ p + 3 * f → f < F → p ≤ 64 → PI m q → MSt D t n g → fI D 74 18 = nI (sk n g p) → fI D 74 19 = -9 → MRr D m q → ∃ D', P_X8_read_33 K 74 (nI t) F (hp B D) = K (hp B D') ∧ Off Tit D D' ∧ (∀ e, lpP n g f p m q = .inl e → e < 1000 ∧ fI D' 74 19 = nI e) ∧ ∀ m' q', lpP n g f p m q = .inr (m', q') → fI D' 74 19 = -9 ∧ MRr D' m' q' := by
  intro f
  have n10 : ¬ (1 : Int32) = 0 := by decide
  have ct : 0 ≤ (nI t).toInt ∧ (nI t).toInt < ((4 : Nat) : Int) := ixc (by omega) (by omega)
  have clt := nI_clamp (show t < 2 ^ 31 by omega)
  induction f with
  | zero =>
    intro F p m q D h1 h2 h3 hP hT h18 h19 hM
    cases F with
    | zero => omega
    | succ F =>
      rw [sk_n (by omega)] at h18
      have c1 : nI n ≤ nI p := nI_le (by omega) (by omega)
      refine ⟨D, ?_, Off.refl D, fun e he => (by cases he), fun m' q' he => (by cases he; exact ⟨h19, hM⟩)⟩
      simp only [P_X8_read_33, pureM_hp, ifB_t, ifB_f, decide_true, decide_false, ifB_hp, jn_hp, retZ_0, retZ_1, thn_some, cll0_w, cllV_w, getI_w, getL_w, getR_w, setI_w, setZ_w0, setZ_w1, setL_w, ald_w, ast_w, alen_w, aldR_2, aldR_3, aldR_4, aldR_22, cll0_pure, ↓reduceIte, if_true, if_false, Bool.false_eq_true, reduceCtorEq, and_true, true_and, and_false, false_and, ite_self, kI_1_9, kI_1_10, kI_5_4, kI_5_5, kI_5_6, kI_10_1, kI_11_4, kI_11_5, kI_11_6, kI_16_2, kI_16_3, kI_16_4, kI_16_5, kI_16_6, kI_17_2, kI_17_3, kI_21_4, kI_21_5, kI_21_6, kI_21_7, kI_21_8, kI_21_9, kI_21_10, kI_21_11, kI_26_2, kI_26_3, kI_29_2, kI_29_3, kI_32_2, kI_32_3, kI_35_2, kI_39_2, kI_39_3, kI_41_2, kI_41_3, kI_43_2, kI_43_3, kI_45_2, kI_45_3, kI_47_2, kI_47_3, kI_49_2, kI_49_3, kI_51_2, kI_51_3, kI_53_2, kI_53_3, kI_55_2, kI_55_3, kI_57_2, kI_57_3, kI_59_2, kI_59_3, kI_59_4, kI_59_5, kI_59_6, kI_60_2, kI_60_3, kI_64_2, kI_64_3, kI_64_4, kI_64_5, kI_64_6, kI_65_2, kI_65_3, kI_69_2, kI_69_3, kI_69_4, kI_69_5, kI_69_6, kI_70_2, kI_70_3, kI_74_10, kI_74_11, kI_74_12, kI_74_14, kI_74_18, kI_74_19, kI_74_20, kI_74_21, kI_74_22, kI_74_23, kI_74_29, kI_74_30, kI_74_31, kI_74_32, kI_74_33, kR_1_0, kR_1_1, kR_1_2, kR_1_3, kR_1_4, kR_1_5, kR_1_6, kR_1_7, kR_1_8, kR_5_0, kR_5_1, kR_5_2, kR_5_3, kR_10_0, kR_11_0, kR_11_1, kR_11_2, kR_11_3, kR_16_0, kR_16_1, kR_17_0, kR_17_1, kR_21_0, kR_21_1, kR_21_2, kR_21_3, kR_26_0, kR_26_1, kR_29_0, kR_29_1, kR_32_0, kR_32_1, kR_35_0, kR_35_1, kR_39_0, kR_41_0, kR_43_0, kR_45_0, kR_47_0, kR_49_0, kR_51_0, kR_53_0, kR_55_0, kR_57_0, kR_59_0, kR_59_1, kR_60_0, kR_60_1, kR_64_0, kR_64_1, kR_65_0, kR_65_1, kR_69_0, kR_69_1, kR_70_0, kR_70_1, kR_74_0, kR_74_1, kR_74_2, kR_74_3, kR_74_4, kR_74_5, kR_74_6, kR_74_7, kR_74_8, kR_74_9, kR_74_13, kR_74_17, kR_74_24, kR_74_25, kR_74_26, kR_74_27, kR_74_28, kR_74_34, kR_74_35, kR_74_36, kL_1_11, kL_1_12, kL_74_15, kL_74_16, kK_39_1, kK_41_1, kK_43_1, kK_45_1, kK_47_1, kK_49_1, kK_51_1, kK_53_1, kK_55_1, kK_57_1, kA_6, kA_7, kA_8, kA_9, kA_12, kA_13, kA_14, kA_15, kA_18, kA_19, kA_20, kA_23, kA_24, kA_25, kA_27, kA_28, kA_30, kA_31, kA_33, kA_34, kA_36, kA_37, kA_38, kA_40, kA_42, kA_44, kA_46, kA_48, kA_50, kA_52, kA_54, kA_56, kA_58, kA_61, kA_62, kA_63, kA_66, kA_67, kA_68, kA_71, kA_72, kA_73, kA_75, kA_76, kA_77, kA_78, kA_79, kA_80, kA_81, kA_82, kA_83, kA_84, kA_85, kA_86, kA_87, kA_88, kA_89, kA_90, kA_91, kA_92, kA_93, kA_94, kQ_2, kQ_3, kQ_4, kQ_22, kC_1, kC_5, kC_10, kC_11, kC_16, kC_17, kC_21, kC_26, kC_29, kC_32, kC_35, kC_39, kC_41, kC_43, kC_45, kC_47, kC_49, kC_51, kC_53, kC_55, kC_57, kC_59, kC_60, kC_64, kC_65, kC_69, kC_70, kC_74, h19, not_true_eq_false, h18, ct, clt, hT.1.2.1, c1]
  | succ f ih =>
    intro F p m q D h1 h2 h3 hP hT h18 h19 hM
    cases F with
    | zero => omega
    | succ F =>
      have hn60 := hT.1.1
      obtain ⟨sl1, sl2⟩ := sk_le n g (n - p) p rfl
      have el : lpP n g (f + 1) p m q = if sk n g p < n then (match itP n g (sk n g p) m q with
        | .inl e => .inl e
        | .inr (m', q') => lpP n g f (sk n g p + 3) m' q') else .inr (m, q) := rfl
      generalize hsp : sk n g p = p1 at *
      by_cases hlt : p1 < n
      case neg =>
        rw [if_neg hlt] at el
        have c1 : nI n ≤ nI p1 := nI_le (by omega) (by omega)
        refine ⟨D, ?_, Off.refl D, fun e he => (by rw [el] at he; cases he), fun m' q' he => (by rw [el] at he; cases he; exact ⟨h19, hM⟩)⟩
        simp only [P_X8_read_33, pureM_hp, ifB_t, ifB_f, decide_true, decide_false, ifB_hp, jn_hp, retZ_0, retZ_1, thn_some, cll0_w, cllV_w, getI_w, getL_w, getR_w, setI_w, setZ_w0, setZ_w1, setL_w, ald_w, ast_w, alen_w, aldR_2, aldR_3, aldR_4, aldR_22, cll0_pure, ↓reduceIte, if_true, if_false, Bool.false_eq_true, reduceCtorEq, and_true, true_and, and_false, false_and, ite_self, kI_1_9, kI_1_10, kI_5_4, kI_5_5, kI_5_6, kI_10_1, kI_11_4, kI_11_5, kI_11_6, kI_16_2, kI_16_3, kI_16_4, kI_16_5, kI_16_6, kI_17_2, kI_17_3, kI_21_4, kI_21_5, kI_21_6, kI_21_7, kI_21_8, kI_21_9, kI_21_10, kI_21_11, kI_26_2, kI_26_3, kI_29_2, kI_29_3, kI_32_2, kI_32_3, kI_35_2, kI_39_2, kI_39_3, kI_41_2, kI_41_3, kI_43_2, kI_43_3, kI_45_2, kI_45_3, kI_47_2, kI_47_3, kI_49_2, kI_49_3, kI_51_2, kI_51_3, kI_53_2, kI_53_3, kI_55_2, kI_55_3, kI_57_2, kI_57_3, kI_59_2, kI_59_3, kI_59_4, kI_59_5, kI_59_6, kI_60_2, kI_60_3, kI_64_2, kI_64_3, kI_64_4, kI_64_5, kI_64_6, kI_65_2, kI_65_3, kI_69_2, kI_69_3, kI_69_4, kI_69_5, kI_69_6, kI_70_2, kI_70_3, kI_74_10, kI_74_11, kI_74_12, kI_74_14, kI_74_18, kI_74_19, kI_74_20, kI_74_21, kI_74_22, kI_74_23, kI_74_29, kI_74_30, kI_74_31, kI_74_32, kI_74_33, kR_1_0, kR_1_1, kR_1_2, kR_1_3, kR_1_4, kR_1_5, kR_1_6, kR_1_7, kR_1_8, kR_5_0, kR_5_1, kR_5_2, kR_5_3, kR_10_0, kR_11_0, kR_11_1, kR_11_2, kR_11_3, kR_16_0, kR_16_1, kR_17_0, kR_17_1, kR_21_0, kR_21_1, kR_21_2, kR_21_3, kR_26_0, kR_26_1, kR_29_0, kR_29_1, kR_32_0, kR_32_1, kR_35_0, kR_35_1, kR_39_0, kR_41_0, kR_43_0, kR_45_0, kR_47_0, kR_49_0, kR_51_0, kR_53_0, kR_55_0, kR_57_0, kR_59_0, kR_59_1, kR_60_0, kR_60_1, kR_64_0, kR_64_1, kR_65_0, kR_65_1, kR_69_0, kR_69_1, kR_70_0, kR_70_1, kR_74_0, kR_74_1, kR_74_2, kR_74_3, kR_74_4, kR_74_5, kR_74_6, kR_74_7, kR_74_8, kR_74_9, kR_74_13, kR_74_17, kR_74_24, kR_74_25, kR_74_26, kR_74_27, kR_74_28, kR_74_34, kR_74_35, kR_74_36, kL_1_11, kL_1_12, kL_74_15, kL_74_16, kK_39_1, kK_41_1, kK_43_1, kK_45_1, kK_47_1, kK_49_1, kK_51_1, kK_53_1, kK_55_1, kK_57_1, kA_6, kA_7, kA_8, kA_9, kA_12, kA_13, kA_14, kA_15, kA_18, kA_19, kA_20, kA_23, kA_24, kA_25, kA_27, kA_28, kA_30, kA_31, kA_33, kA_34, kA_36, kA_37, kA_38, kA_40, kA_42, kA_44, kA_46, kA_48, kA_50, kA_52, kA_54, kA_56, kA_58, kA_61, kA_62, kA_63, kA_66, kA_67, kA_68, kA_71, kA_72, kA_73, kA_75, kA_76, kA_77, kA_78, kA_79, kA_80, kA_81, kA_82, kA_83, kA_84, kA_85, kA_86, kA_87, kA_88, kA_89, kA_90, kA_91, kA_92, kA_93, kA_94, kQ_2, kQ_3, kQ_4, kQ_22, kC_1, kC_5, kC_10, kC_11, kC_16, kC_17, kC_21, kC_26, kC_29, kC_32, kC_35, kC_39, kC_41, kC_43, kC_45, kC_47, kC_49, kC_51, kC_53, kC_55, kC_57, kC_59, kC_60, kC_64, kC_65, kC_69, kC_70, kC_74, h19, not_true_eq_false, h18, ct, clt, hT.1.2.1, c1]
      rw [if_pos hlt] at el
      have c1 : ¬ nI n ≤ nI p1 := nI_ge hlt (by omega)
      have sgn := m_sign (B := B) ht hT h18 (by omega)
      have es : sm2 n g p1 = sg n g p1 := by unfold sm2 sg; rw [if_pos hlt, if_pos hlt]
      rw [es] at sgn
      -- behind the item
      have tail : ∀ D2, Off Tit D D2 → (∃ p', p' ≤ p1 + 4 ∧ fI D2 74 18 = nI p') → (∀ e, itP n g p1 m q = .inl e → fI D2 74 19 = nI e) → (∀ m' q', itP n g p1 m q = .inr (m', q') → fI D2 74 19 = -9 ∧ fI D2 74 18 = nI (p1 + 3) ∧ MRr D2 m' q') → ∃ D', cllV 8 74 (P_X8_blanks 74) (fun _ => P_X8_read_33 K 74 (nI t) F) (hp B D2) = K (hp B D') ∧ Off Tit D D' ∧ (∀ e, lpP n g (f + 1) p m q = .inl e → e < 1000 ∧ fI D' 74 19 = nI e) ∧ ∀ m' q', lpP n g (f + 1) p m q = .inr (m', q') → fI D' 74 19 = -9 ∧ MRr D' m' q' := by
        intro D2 o2 ⟨p', hp', e18⟩ b7 b8
        have T2 := hT.it o2
        cases eR : itP n g p1 m q with
        | inl e =>
          have z1 := b7 e eR
          have hle := it_le eR
          rw [eR] at el
          dsimp only at el
          have bl := m_blanks (B := B) ht 4000 p' D2 (by omega) (by omega) T2 e18
          have bl' : P_X8_blanks 74 (hp B D2) = some ((), hp B (uI D2 74 18 (nI (sk n g p')))) := bl
          have k19 : fI (uI D2 74 18 (nI (sk n g p'))) 74 19 = nI e := by rw [fI_uI, if_neg (by omega)]; exact z1
          refine ⟨uI D2 74 18 (nI (sk n g p')), ?_, o2.uI _ _ _ (by unfold Tit; omega), fun e' he => (by rw [el] at he; cases he; exact ⟨by omega, k19⟩), fun m' q' he => (by rw [el] at he; cases he)⟩
          rw [cllV_w, if_pos kC_74, bl', thn_some]
          cases F with
          | zero => omega
          | succ F =>
            simp only [P_X8_read_33, pureM_hp, ifB_t, ifB_f, decide_true, decide_false, ifB_hp, jn_hp, retZ_0, retZ_1, thn_some, cll0_w, cllV_w, getI_w, getL_w, getR_w, setI_w, setZ_w0, setZ_w1, setL_w, ald_w, ast_w, alen_w, aldR_2, aldR_3, aldR_4, aldR_22, cll0_pure, ↓reduceIte, if_true, if_false, Bool.false_eq_true, reduceCtorEq, and_true, true_and, and_false, false_and, ite_self, kI_1_9, kI_1_10, kI_5_4, kI_5_5, kI_5_6, kI_10_1, kI_11_4, kI_11_5, kI_11_6, kI_16_2, kI_16_3, kI_16_4, kI_16_5, kI_16_6, kI_17_2, kI_17_3, kI_21_4, kI_21_5, kI_21_6, kI_21_7, kI_21_8, kI_21_9, kI_21_10, kI_21_11, kI_26_2, kI_26_3, kI_29_2, kI_29_3, kI_32_2, kI_32_3, kI_35_2, kI_39_2, kI_39_3, kI_41_2, kI_41_3, kI_43_2, kI_43_3, kI_45_2, kI_45_3, kI_47_2, kI_47_3, kI_49_2, kI_49_3, kI_51_2, kI_51_3, kI_53_2, kI_53_3, kI_55_2, kI_55_3, kI_57_2, kI_57_3, kI_59_2, kI_59_3, kI_59_4, kI_59_5, kI_59_6, kI_60_2, kI_60_3, kI_64_2, kI_64_3, kI_64_4, kI_64_5, kI_64_6, kI_65_2, kI_65_3, kI_69_2, kI_69_3, kI_69_4, kI_69_5, kI_69_6, kI_70_2, kI_70_3, kI_74_10, kI_74_11, kI_74_12, kI_74_14, kI_74_18, kI_74_19, kI_74_20, kI_74_21, kI_74_22, kI_74_23, kI_74_29, kI_74_30, kI_74_31, kI_74_32, kI_74_33, kR_1_0, kR_1_1, kR_1_2, kR_1_3, kR_1_4, kR_1_5, kR_1_6, kR_1_7, kR_1_8, kR_5_0, kR_5_1, kR_5_2, kR_5_3, kR_10_0, kR_11_0, kR_11_1, kR_11_2, kR_11_3, kR_16_0, kR_16_1, kR_17_0, kR_17_1, kR_21_0, kR_21_1, kR_21_2, kR_21_3, kR_26_0, kR_26_1, kR_29_0, kR_29_1, kR_32_0, kR_32_1, kR_35_0, kR_35_1, kR_39_0, kR_41_0, kR_43_0, kR_45_0, kR_47_0, kR_49_0, kR_51_0, kR_53_0, kR_55_0, kR_57_0, kR_59_0, kR_59_1, kR_60_0, kR_60_1, kR_64_0, kR_64_1, kR_65_0, kR_65_1, kR_69_0, kR_69_1, kR_70_0, kR_70_1, kR_74_0, kR_74_1, kR_74_2, kR_74_3, kR_74_4, kR_74_5, kR_74_6, kR_74_7, kR_74_8, kR_74_9, kR_74_13, kR_74_17, kR_74_24, kR_74_25, kR_74_26, kR_74_27, kR_74_28, kR_74_34, kR_74_35, kR_74_36, kL_1_11, kL_1_12, kL_74_15, kL_74_16, kK_39_1, kK_41_1, kK_43_1, kK_45_1, kK_47_1, kK_49_1, kK_51_1, kK_53_1, kK_55_1, kK_57_1, kA_6, kA_7, kA_8, kA_9, kA_12, kA_13, kA_14, kA_15, kA_18, kA_19, kA_20, kA_23, kA_24, kA_25, kA_27, kA_28, kA_30, kA_31, kA_33, kA_34, kA_36, kA_37, kA_38, kA_40, kA_42, kA_44, kA_46, kA_48, kA_50, kA_52, kA_54, kA_56, kA_58, kA_61, kA_62, kA_63, kA_66, kA_67, kA_68, kA_71, kA_72, kA_73, kA_75, kA_76, kA_77, kA_78, kA_79, kA_80, kA_81, kA_82, kA_83, kA_84, kA_85, kA_86, kA_87, kA_88, kA_89, kA_90, kA_91, kA_92, kA_93, kA_94, kQ_2, kQ_3, kQ_4, kQ_22, kC_1, kC_5, kC_10, kC_11, kC_16, kC_17, kC_21, kC_26, kC_29, kC_32, kC_35, kC_39, kC_41, kC_43, kC_45, kC_47, kC_49, kC_51, kC_53, kC_55, kC_57, kC_59, kC_60, kC_64, kC_65, kC_69, kC_70, kC_74, k19, ne9g (show e < 1000 by omega), not_false_eq_true]
        | inr r =>
          obtain ⟨m', q'⟩ := r
          obtain ⟨z1, z2, z3⟩ := b8 m' q' eR
          rw [eR] at el
          dsimp only at el
          have bl := m_blanks (B := B) ht 4000 (p1 + 3) D2 (by omega) (by omega) T2 z2
          have bl' : P_X8_blanks 74 (hp B D2) = some ((), hp B (uI D2 74 18 (nI (sk n g (p1 + 3))))) := bl
          have o3 : Off Tit D (uI D2 74 18 (nI (sk n g (p1 + 3)))) := o2.uI _ _ _ (by unfold Tit; omega)
          obtain ⟨D', t1, t2, t3, t4⟩ := ih F (p1 + 3) m' q' (uI D2 74 18 (nI (sk n g (p1 + 3)))) (by omega) (by omega) (by omega) (PI_it hP eR) (hT.it o3) (by rw [fI_uI, if_pos ⟨rfl, rfl⟩]) (by rw [fI_uI, if_neg (by omega)]; exact z1) (z3.s18 _)
          refine ⟨D', ?_, o3.trans t2, fun e he => t3 e (by rw [← el]; exact he), fun m'' q'' he => t4 m'' q'' (by rw [← el]; exact he)⟩
          rw [cllV_w, if_pos kC_74, bl', thn_some]
          exact t1
      have kO := m_kindOf (sg n g p1) (hp B D)
      have head : P_X8_read_33 K 74 (nI t) (F + 1) (hp B D) = (match kdO (sg n g p1) with
        | some k => cllV 8 74 (P_X8_readOne 74 (nI k)) (fun _ => cllV 8 74 (P_X8_blanks 74) (fun _ => P_X8_read_33 K 74 (nI t) F)) (hp B D)
        | none => if sg n g p1 = 113 then cllV 8 74 (P_X8_readQuarrel 74) (fun _ => cllV 8 74 (P_X8_blanks 74) (fun _ => P_X8_read_33 K 74 (nI t) F)) (hp B D) else cllV 8 74 (P_X8_blanks 74) (fun _ => P_X8_read_33 K 74 (nI t) F) (hp B (uI D 74 19 (nI p1)))) := by
        rw [P_X8_read_33, getI_hp D 8 19 74 _ kI_74_19, h19, ifB_hp, if_neg (fun z => z rfl), getI_hp D 8 18 74 _ kI_74_18, h18, getR_hp D 8 3 74 78 _ kR_74_3, ald_hp D 78 4 _ _ kA_78 ct, clt, hT.1.2.1, ifB_hp, if_neg c1, cllV_w, if_pos kC_74, sgn, thn_some, cll0_w, kO]
        cases e0 : kdO (sg n g p1) with
        | some k =>
          dsimp only
          have kl := kdO_lt e0
          rw [thn_some, jn_hp, ifB_hp, if_neg (ne9g (by omega))]
        | none =>
          dsimp only
          rw [thn_some, jn_hp, ifB_hp, if_pos rfl, cllV_w, if_pos kC_74, sgn, thn_some, jn_hp, ifB_hp]
          by_cases h113 : sg n g p1 = 113
          · rw [if_neg (fun z => z h113), if_pos h113]
            dsimp only
            rw [getI_hp D 8 18 74 _ kI_74_18, h18, cllV_w, if_pos kC_74, w_ok h19 n10, thn_some, ifB_hp, if_neg n10]
          · rw [if_pos h113, if_neg h113]
            dsimp only
            rw [getI_hp D 8 18 74 _ kI_74_18, h18, cllV_w, if_pos kC_74, w_bad (show p1 < 1000 by omega) h19, thn_some, ifB_hp, if_pos rfl]
      rw [head]
      cases e0 : kdO (sg n g p1) with
      | some k =>
        dsimp only
        have n113 : ¬ sg n g p1 = 113 := fun z => by rw [z, kd_113] at e0; cases e0
        have eI : itP n g p1 m q = itO n g p1 m q := if_neg n113
        obtain ⟨D2, b1, b2, b3, b7, b8⟩ := m_readOne (B := B) ht hT h18 (by omega) h19 hP hM e0
        rw [cllV_w, if_pos kC_74, b1, thn_some]
        exact tail D2 b2 b3 (fun e he => b7 e (by rw [← eI]; exact he)) (fun m' q' he => b8 m' q' (by rw [← eI]; exact he))
      | none =>
        dsimp only
        by_cases h113 : sg n g p1 = 113
        · rw [if_pos h113]
          have eI : itP n g p1 m q = itQ n g p1 m q := if_pos h113
          obtain ⟨D2, b1, b2, b3, b7, b8⟩ := m_readQu (B := B) ht hT h18 (by omega) h19 hP hM
          rw [cllV_w, if_pos kC_74, b1, thn_some]
          exact tail D2 b2 b3 (fun e he => b7 e (by rw [← eI]; exact he)) (fun m' q' he => b8 m' q' (by rw [← eI]; exact he))
        · rw [if_neg h113]
          have eI : itP n g p1 m q = .inl p1 := by
            unfold itP
            rw [if_neg h113]
            unfold itO
            rw [e0]
          exact tail (uI D 74 19 (nI p1)) ((Off.refl D).uI _ _ _ (by unfold Tit; omega)) ⟨p1, by omega, by rw [fI_uI, if_neg (by omega)]; exact h18⟩ (fun e he => (by rw [eI] at he; cases he; rw [fI_uI, if_pos ⟨rfl, rfl⟩])) (fun m' q' he => (by rw [eI] at he; cases he))
def Trm : Nat → Nat → Prop := fun a k => (a = 74 ∧ 18 ≤ k ∧ k ≤ 23) ∨ (87 ≤ a ∧ a ≤ 90)
theorem m_read {D : DT} {t n : Nat} {g : Nat → Int32} {q0 : QT} (ht : t < 4) (hT : TMv D t n g) (hq0 : ∀ k, q0.2.2.2 k = 0) : ∃ D' v, P_X8_read 74 (nI t) (hp B D) = some (v, hp B D') ∧ Off Trm D D' ∧ (∀ e, rdP n g q0 = .inl e → v = nI e) ∧ ∀ s c m q, rdP n g q0 = .inr (s, c, m, q) → v = -9 ∧ MRr D' m q ∧ fI D' 74 22 = nI s ∧ fI D' 74 23 = nI c := by
  have hn60 := hT.1
  have ct : 0 ≤ (nI t).toInt ∧ (nI t).toInt < ((4 : Nat) : Int) := ixc (by omega) (by omega)
  have clt := nI_clamp (show t < 2 ^ 31 by omega)
  have n10 : ¬ (1 : Int32) = 0 := by decide
  have o1 : Off Trm D (uI (uI (uI (uI D 74 20 (nI t)) 74 18 0) 74 19 (-9)) 74 21 0) := ((((Off.refl D).uI _ _ _ (by unfold Trm; omega)).uI _ _ _ (by unfold Trm; omega)).uI _ _ _ (by unfold Trm; omega)).uI _ _ _ (by unfold Trm; omega)
  have e1 : P_X8_read 74 (nI t) (hp B D) = cllV 8 74 (P_X8_blanks 74) (fun _ => cllV 8 74 (P_X8_readFirst 74) fun _ => cllV 8 74 (P_X8_blanks 74) fun _ => P_X8_read_33 (getI 8 21 74 fun v1 => jn (fun (j2 : Nat) (j3 : Int32) => getR 8 3 74 fun v4 => ald v4 (nI t) fun v5 => cllV 8 j2 (P_X8_want j2 j3 v5) fun v6 => getI 8 19 74 fun v7 => pureM v7) fun k8 => ifB (decide (v1 ≤ 1)) (k8 74 0) (k8 74 1)) 74 (nI t) 4000) (hp B (uI (uI (uI (uI D 74 20 (nI t)) 74 18 0) 74 19 (-9)) 74 21 0)) := by
    unfold P_X8_read
    rw [setI_hp _ 8 20 74 _ _ kI_74_20, setI_hp _ 8 18 74 _ _ kI_74_18, setI_hp _ 8 19 74 _ _ kI_74_19, setI_hp _ 8 21 74 _ _ kI_74_21]
    rfl
  generalize hE : uI (uI (uI (uI D 74 20 (nI t)) 74 18 0) 74 19 (-9)) 74 21 0 = E at *
  have E18 : fI E 74 18 = nI 0 := by rw [← hE]; simp [fI_uI]; rfl
  have E19 : fI E 74 19 = -9 := by rw [← hE]; simp [fI_uI]
  have E21 : fI E 74 21 = nI 0 := by rw [← hE]; simp [fI_uI]; rfl
  have T1 : MSt E t n g := ⟨hT.off o1 (by unfold Trm; omega) (by unfold Trm; omega), by rw [← hE]; simp [fI_uI]⟩
  rw [e1]
  have bl : P_X8_blanks 74 (hp B E) = some ((), hp B (uI E 74 18 (nI (sk n g 0)))) := m_blanks (B := B) ht 4000 0 E (by omega) (by omega) T1 E18
  rw [cllV_w, if_pos kC_74, bl, thn_some]
  obtain ⟨sl1, sl2⟩ := sk_le n g (n - 0) 0 rfl
  have o2 : Off Tit E (uI E 74 18 (nI (sk n g 0))) := (Off.refl E).uI _ _ _ (by unfold Tit; omega)
  have T2 := T1.it o2
  have G18 : fI (uI E 74 18 (nI (sk n g 0))) 74 18 = nI (sk n g 0) := by rw [fI_uI, if_pos ⟨rfl, rfl⟩]
  have G19 : fI (uI E 74 18 (nI (sk n g 0))) 74 19 = -9 := by rw [fI_uI, if_neg (by omega)]; exact E19
  have G21 : fI (uI E 74 18 (nI (sk n g 0))) 74 21 = nI 0 := by rw [fI_uI, if_neg (by omega)]; exact E21
  have oG : Off Trm D (uI E 74 18 (nI (sk n g 0))) := o1.uI _ _ _ (by unfold Trm; omega)
  generalize hG : uI E 74 18 (nI (sk n g 0)) = G at *
  generalize hsp : sk n g 0 = p0 at *
  obtain ⟨D3, b1, b2, ⟨p', hp', b3⟩, b4, b5⟩ := m_first (B := B) ht T2 G18 (by omega) G19
  rw [cllV_w, if_pos kC_74, b1, thn_some]
  have T3 := T2.fr b2
  have o3 : Off Trm D D3 := oG.trans (b2.mono (fun a k z => by unfold Tfr at z; unfold Trm; omega))
  have bl2 : P_X8_blanks 74 (hp B D3) = some ((), hp B (uI D3 74 18 (nI (sk n g p')))) := m_blanks (B := B) ht 4000 p' D3 (by omega) (by omega) T3 b3
  rw [cllV_w, if_pos kC_74, bl2, thn_some]
  have o4 : Off Trm D (uI D3 74 18 (nI (sk n g p'))) := o3.uI _ _ _ (by unfold Trm; omega)
  have T4 : MSt (uI D3 74 18 (nI (sk n g p'))) t n g := T3.it ((Off.refl D3).uI _ _ _ (by unfold Tit; omega))
  have H21 : fI (uI D3 74 18 (nI (sk n g p'))) 74 21 = nI 0 := by rw [fI_uI, if_neg (by omega), (b2.1 74 21 (by unfold Tfr; omega)).1]; exact G21
  generalize hK : (getI 8 21 74 fun v1 => jn (fun (j2 : Nat) (j3 : Int32) => getR 8 3 74 fun v4 => ald v4 (nI t) fun v5 => cllV 8 j2 (P_X8_want j2 j3 v5) fun v6 => getI 8 19 74 fun v7 => pureM v7) fun k8 => ifB (decide (v1 ≤ 1)) (k8 74 0) (k8 74 1)) = K
  have Kno : ∀ (X : DT) (f : Nat), f < 1000 → fI X 74 19 = nI f → K (hp B X) = some (nI f, hp B X) := fun X f hf h => by
    rw [← hK]
    by_cases hx : fI X 74 21 ≤ 1
    · simp only [pureM_hp, ifB_t, ifB_f, decide_true, decide_false, ifB_hp, jn_hp, retZ_0, retZ_1, thn_some, cll0_w, cllV_w, getI_w, getL_w, getR_w, setI_w, setZ_w0, setZ_w1, setL_w, ald_w, ast_w, alen_w, aldR_2, aldR_3, aldR_4, aldR_22, cll0_pure, ↓reduceIte, if_true, if_false, Bool.false_eq_true, reduceCtorEq, and_true, true_and, and_false, false_and, ite_self, kI_1_9, kI_1_10, kI_5_4, kI_5_5, kI_5_6, kI_10_1, kI_11_4, kI_11_5, kI_11_6, kI_16_2, kI_16_3, kI_16_4, kI_16_5, kI_16_6, kI_17_2, kI_17_3, kI_21_4, kI_21_5, kI_21_6, kI_21_7, kI_21_8, kI_21_9, kI_21_10, kI_21_11, kI_26_2, kI_26_3, kI_29_2, kI_29_3, kI_32_2, kI_32_3, kI_35_2, kI_39_2, kI_39_3, kI_41_2, kI_41_3, kI_43_2, kI_43_3, kI_45_2, kI_45_3, kI_47_2, kI_47_3, kI_49_2, kI_49_3, kI_51_2, kI_51_3, kI_53_2, kI_53_3, kI_55_2, kI_55_3, kI_57_2, kI_57_3, kI_59_2, kI_59_3, kI_59_4, kI_59_5, kI_59_6, kI_60_2, kI_60_3, kI_64_2, kI_64_3, kI_64_4, kI_64_5, kI_64_6, kI_65_2, kI_65_3, kI_69_2, kI_69_3, kI_69_4, kI_69_5, kI_69_6, kI_70_2, kI_70_3, kI_74_10, kI_74_11, kI_74_12, kI_74_14, kI_74_18, kI_74_19, kI_74_20, kI_74_21, kI_74_22, kI_74_23, kI_74_29, kI_74_30, kI_74_31, kI_74_32, kI_74_33, kR_1_0, kR_1_1, kR_1_2, kR_1_3, kR_1_4, kR_1_5, kR_1_6, kR_1_7, kR_1_8, kR_5_0, kR_5_1, kR_5_2, kR_5_3, kR_10_0, kR_11_0, kR_11_1, kR_11_2, kR_11_3, kR_16_0, kR_16_1, kR_17_0, kR_17_1, kR_21_0, kR_21_1, kR_21_2, kR_21_3, kR_26_0, kR_26_1, kR_29_0, kR_29_1, kR_32_0, kR_32_1, kR_35_0, kR_35_1, kR_39_0, kR_41_0, kR_43_0, kR_45_0, kR_47_0, kR_49_0, kR_51_0, kR_53_0, kR_55_0, kR_57_0, kR_59_0, kR_59_1, kR_60_0, kR_60_1, kR_64_0, kR_64_1, kR_65_0, kR_65_1, kR_69_0, kR_69_1, kR_70_0, kR_70_1, kR_74_0, kR_74_1, kR_74_2, kR_74_3, kR_74_4, kR_74_5, kR_74_6, kR_74_7, kR_74_8, kR_74_9, kR_74_13, kR_74_17, kR_74_24, kR_74_25, kR_74_26, kR_74_27, kR_74_28, kR_74_34, kR_74_35, kR_74_36, kL_1_11, kL_1_12, kL_74_15, kL_74_16, kK_39_1, kK_41_1, kK_43_1, kK_45_1, kK_47_1, kK_49_1, kK_51_1, kK_53_1, kK_55_1, kK_57_1, kA_6, kA_7, kA_8, kA_9, kA_12, kA_13, kA_14, kA_15, kA_18, kA_19, kA_20, kA_23, kA_24, kA_25, kA_27, kA_28, kA_30, kA_31, kA_33, kA_34, kA_36, kA_37, kA_38, kA_40, kA_42, kA_44, kA_46, kA_48, kA_50, kA_52, kA_54, kA_56, kA_58, kA_61, kA_62, kA_63, kA_66, kA_67, kA_68, kA_71, kA_72, kA_73, kA_75, kA_76, kA_77, kA_78, kA_79, kA_80, kA_81, kA_82, kA_83, kA_84, kA_85, kA_86, kA_87, kA_88, kA_89, kA_90, kA_91, kA_92, kA_93, kA_94, kQ_2, kQ_3, kQ_4, kQ_22, kC_1, kC_5, kC_10, kC_11, kC_16, kC_17, kC_21, kC_26, kC_29, kC_32, kC_35, kC_39, kC_41, kC_43, kC_45, kC_47, kC_49, kC_51, kC_53, kC_55, kC_57, kC_59, kC_60, kC_64, kC_65, kC_69, kC_70, kC_74, hx, ct, clt, w_no hf h, h]
    · simp only [pureM_hp, ifB_t, ifB_f, decide_true, decide_false, ifB_hp, jn_hp, retZ_0, retZ_1, thn_some, cll0_w, cllV_w, getI_w, getL_w, getR_w, setI_w, setZ_w0, setZ_w1, setL_w, ald_w, ast_w, alen_w, aldR_2, aldR_3, aldR_4, aldR_22, cll0_pure, ↓reduceIte, if_true, if_false, Bool.false_eq_true, reduceCtorEq, and_true, true_and, and_false, false_and, ite_self, kI_1_9, kI_1_10, kI_5_4, kI_5_5, kI_5_6, kI_10_1, kI_11_4, kI_11_5, kI_11_6, kI_16_2, kI_16_3, kI_16_4, kI_16_5, kI_16_6, kI_17_2, kI_17_3, kI_21_4, kI_21_5, kI_21_6, kI_21_7, kI_21_8, kI_21_9, kI_21_10, kI_21_11, kI_26_2, kI_26_3, kI_29_2, kI_29_3, kI_32_2, kI_32_3, kI_35_2, kI_39_2, kI_39_3, kI_41_2, kI_41_3, kI_43_2, kI_43_3, kI_45_2, kI_45_3, kI_47_2, kI_47_3, kI_49_2, kI_49_3, kI_51_2, kI_51_3, kI_53_2, kI_53_3, kI_55_2, kI_55_3, kI_57_2, kI_57_3, kI_59_2, kI_59_3, kI_59_4, kI_59_5, kI_59_6, kI_60_2, kI_60_3, kI_64_2, kI_64_3, kI_64_4, kI_64_5, kI_64_6, kI_65_2, kI_65_3, kI_69_2, kI_69_3, kI_69_4, kI_69_5, kI_69_6, kI_70_2, kI_70_3, kI_74_10, kI_74_11, kI_74_12, kI_74_14, kI_74_18, kI_74_19, kI_74_20, kI_74_21, kI_74_22, kI_74_23, kI_74_29, kI_74_30, kI_74_31, kI_74_32, kI_74_33, kR_1_0, kR_1_1, kR_1_2, kR_1_3, kR_1_4, kR_1_5, kR_1_6, kR_1_7, kR_1_8, kR_5_0, kR_5_1, kR_5_2, kR_5_3, kR_10_0, kR_11_0, kR_11_1, kR_11_2, kR_11_3, kR_16_0, kR_16_1, kR_17_0, kR_17_1, kR_21_0, kR_21_1, kR_21_2, kR_21_3, kR_26_0, kR_26_1, kR_29_0, kR_29_1, kR_32_0, kR_32_1, kR_35_0, kR_35_1, kR_39_0, kR_41_0, kR_43_0, kR_45_0, kR_47_0, kR_49_0, kR_51_0, kR_53_0, kR_55_0, kR_57_0, kR_59_0, kR_59_1, kR_60_0, kR_60_1, kR_64_0, kR_64_1, kR_65_0, kR_65_1, kR_69_0, kR_69_1, kR_70_0, kR_70_1, kR_74_0, kR_74_1, kR_74_2, kR_74_3, kR_74_4, kR_74_5, kR_74_6, kR_74_7, kR_74_8, kR_74_9, kR_74_13, kR_74_17, kR_74_24, kR_74_25, kR_74_26, kR_74_27, kR_74_28, kR_74_34, kR_74_35, kR_74_36, kL_1_11, kL_1_12, kL_74_15, kL_74_16, kK_39_1, kK_41_1, kK_43_1, kK_45_1, kK_47_1, kK_49_1, kK_51_1, kK_53_1, kK_55_1, kK_57_1, kA_6, kA_7, kA_8, kA_9, kA_12, kA_13, kA_14, kA_15, kA_18, kA_19, kA_20, kA_23, kA_24, kA_25, kA_27, kA_28, kA_30, kA_31, kA_33, kA_34, kA_36, kA_37, kA_38, kA_40, kA_42, kA_44, kA_46, kA_48, kA_50, kA_52, kA_54, kA_56, kA_58, kA_61, kA_62, kA_63, kA_66, kA_67, kA_68, kA_71, kA_72, kA_73, kA_75, kA_76, kA_77, kA_78, kA_79, kA_80, kA_81, kA_82, kA_83, kA_84, kA_85, kA_86, kA_87, kA_88, kA_89, kA_90, kA_91, kA_92, kA_93, kA_94, kQ_2, kQ_3, kQ_4, kQ_22, kC_1, kC_5, kC_10, kC_11, kC_16, kC_17, kC_21, kC_26, kC_29, kC_32, kC_35, kC_39, kC_41, kC_43, kC_45, kC_47, kC_49, kC_51, kC_53, kC_55, kC_57, kC_59, kC_60, kC_64, kC_65, kC_69, kC_70, kC_74, hx, ct, clt, w_no hf h, h]
  have Kyes : ∀ (X : DT) (m : Nat), m ≤ 6 → 2 ≤ m → fI X 74 19 = -9 → fI X 74 21 = nI m → K (hp B X) = some (-9, hp B X) := fun X m hm6 hm2 h h21 => by
    rw [← hK]
    have c1 : ¬ nI m ≤ 1 := show ¬ nI m ≤ nI 1 from nI_ge (by omega) (by omega)
    simp only [pureM_hp, ifB_t, ifB_f, decide_true, decide_false, ifB_hp, jn_hp, retZ_0, retZ_1, thn_some, cll0_w, cllV_w, getI_w, getL_w, getR_w, setI_w, setZ_w0, setZ_w1, setL_w, ald_w, ast_w, alen_w, aldR_2, aldR_3, aldR_4, aldR_22, cll0_pure, ↓reduceIte, if_true, if_false, Bool.false_eq_true, reduceCtorEq, and_true, true_and, and_false, false_and, ite_self, kI_1_9, kI_1_10, kI_5_4, kI_5_5, kI_5_6, kI_10_1, kI_11_4, kI_11_5, kI_11_6, kI_16_2, kI_16_3, kI_16_4, kI_16_5, kI_16_6, kI_17_2, kI_17_3, kI_21_4, kI_21_5, kI_21_6, kI_21_7, kI_21_8, kI_21_9, kI_21_10, kI_21_11, kI_26_2, kI_26_3, kI_29_2, kI_29_3, kI_32_2, kI_32_3, kI_35_2, kI_39_2, kI_39_3, kI_41_2, kI_41_3, kI_43_2, kI_43_3, kI_45_2, kI_45_3, kI_47_2, kI_47_3, kI_49_2, kI_49_3, kI_51_2, kI_51_3, kI_53_2, kI_53_3, kI_55_2, kI_55_3, kI_57_2, kI_57_3, kI_59_2, kI_59_3, kI_59_4, kI_59_5, kI_59_6, kI_60_2, kI_60_3, kI_64_2, kI_64_3, kI_64_4, kI_64_5, kI_64_6, kI_65_2, kI_65_3, kI_69_2, kI_69_3, kI_69_4, kI_69_5, kI_69_6, kI_70_2, kI_70_3, kI_74_10, kI_74_11, kI_74_12, kI_74_14, kI_74_18, kI_74_19, kI_74_20, kI_74_21, kI_74_22, kI_74_23, kI_74_29, kI_74_30, kI_74_31, kI_74_32, kI_74_33, kR_1_0, kR_1_1, kR_1_2, kR_1_3, kR_1_4, kR_1_5, kR_1_6, kR_1_7, kR_1_8, kR_5_0, kR_5_1, kR_5_2, kR_5_3, kR_10_0, kR_11_0, kR_11_1, kR_11_2, kR_11_3, kR_16_0, kR_16_1, kR_17_0, kR_17_1, kR_21_0, kR_21_1, kR_21_2, kR_21_3, kR_26_0, kR_26_1, kR_29_0, kR_29_1, kR_32_0, kR_32_1, kR_35_0, kR_35_1, kR_39_0, kR_41_0, kR_43_0, kR_45_0, kR_47_0, kR_49_0, kR_51_0, kR_53_0, kR_55_0, kR_57_0, kR_59_0, kR_59_1, kR_60_0, kR_60_1, kR_64_0, kR_64_1, kR_65_0, kR_65_1, kR_69_0, kR_69_1, kR_70_0, kR_70_1, kR_74_0, kR_74_1, kR_74_2, kR_74_3, kR_74_4, kR_74_5, kR_74_6, kR_74_7, kR_74_8, kR_74_9, kR_74_13, kR_74_17, kR_74_24, kR_74_25, kR_74_26, kR_74_27, kR_74_28, kR_74_34, kR_74_35, kR_74_36, kL_1_11, kL_1_12, kL_74_15, kL_74_16, kK_39_1, kK_41_1, kK_43_1, kK_45_1, kK_47_1, kK_49_1, kK_51_1, kK_53_1, kK_55_1, kK_57_1, kA_6, kA_7, kA_8, kA_9, kA_12, kA_13, kA_14, kA_15, kA_18, kA_19, kA_20, kA_23, kA_24, kA_25, kA_27, kA_28, kA_30, kA_31, kA_33, kA_34, kA_36, kA_37, kA_38, kA_40, kA_42, kA_44, kA_46, kA_48, kA_50, kA_52, kA_54, kA_56, kA_58, kA_61, kA_62, kA_63, kA_66, kA_67, kA_68, kA_71, kA_72, kA_73, kA_75, kA_76, kA_77, kA_78, kA_79, kA_80, kA_81, kA_82, kA_83, kA_84, kA_85, kA_86, kA_87, kA_88, kA_89, kA_90, kA_91, kA_92, kA_93, kA_94, kQ_2, kQ_3, kQ_4, kQ_22, kC_1, kC_5, kC_10, kC_11, kC_16, kC_17, kC_21, kC_26, kC_29, kC_32, kC_35, kC_39, kC_41, kC_43, kC_45, kC_47, kC_49, kC_51, kC_53, kC_55, kC_57, kC_59, kC_60, kC_64, kC_65, kC_69, kC_70, kC_74, h21, c1, ct, clt, w_ok h n10, h]
  have Kfew : ∀ (X : DT) (m : Nat), ¬ 2 ≤ m → fI X 74 19 = -9 → fI X 74 21 = nI m → fG X 78 t = nI n → K (hp B X) = some (nI n, hp B (uI X 74 19 (nI n))) := fun X m hm2 h h21 h78 => by
    rw [← hK]
    have c1 : nI m ≤ 1 := show nI m ≤ nI 1 from nI_le (by omega) (by omega)
    simp only [pureM_hp, ifB_t, ifB_f, decide_true, decide_false, ifB_hp, jn_hp, retZ_0, retZ_1, thn_some, cll0_w, cllV_w, getI_w, getL_w, getR_w, setI_w, setZ_w0, setZ_w1, setL_w, ald_w, ast_w, alen_w, aldR_2, aldR_3, aldR_4, aldR_22, cll0_pure, ↓reduceIte, if_true, if_false, Bool.false_eq_true, reduceCtorEq, and_true, true_and, and_false, false_and, ite_self, kI_1_9, kI_1_10, kI_5_4, kI_5_5, kI_5_6, kI_10_1, kI_11_4, kI_11_5, kI_11_6, kI_16_2, kI_16_3, kI_16_4, kI_16_5, kI_16_6, kI_17_2, kI_17_3, kI_21_4, kI_21_5, kI_21_6, kI_21_7, kI_21_8, kI_21_9, kI_21_10, kI_21_11, kI_26_2, kI_26_3, kI_29_2, kI_29_3, kI_32_2, kI_32_3, kI_35_2, kI_39_2, kI_39_3, kI_41_2, kI_41_3, kI_43_2, kI_43_3, kI_45_2, kI_45_3, kI_47_2, kI_47_3, kI_49_2, kI_49_3, kI_51_2, kI_51_3, kI_53_2, kI_53_3, kI_55_2, kI_55_3, kI_57_2, kI_57_3, kI_59_2, kI_59_3, kI_59_4, kI_59_5, kI_59_6, kI_60_2, kI_60_3, kI_64_2, kI_64_3, kI_64_4, kI_64_5, kI_64_6, kI_65_2, kI_65_3, kI_69_2, kI_69_3, kI_69_4, kI_69_5, kI_69_6, kI_70_2, kI_70_3, kI_74_10, kI_74_11, kI_74_12, kI_74_14, kI_74_18, kI_74_19, kI_74_20, kI_74_21, kI_74_22, kI_74_23, kI_74_29, kI_74_30, kI_74_31, kI_74_32, kI_74_33, kR_1_0, kR_1_1, kR_1_2, kR_1_3, kR_1_4, kR_1_5, kR_1_6, kR_1_7, kR_1_8, kR_5_0, kR_5_1, kR_5_2, kR_5_3, kR_10_0, kR_11_0, kR_11_1, kR_11_2, kR_11_3, kR_16_0, kR_16_1, kR_17_0, kR_17_1, kR_21_0, kR_21_1, kR_21_2, kR_21_3, kR_26_0, kR_26_1, kR_29_0, kR_29_1, kR_32_0, kR_32_1, kR_35_0, kR_35_1, kR_39_0, kR_41_0, kR_43_0, kR_45_0, kR_47_0, kR_49_0, kR_51_0, kR_53_0, kR_55_0, kR_57_0, kR_59_0, kR_59_1, kR_60_0, kR_60_1, kR_64_0, kR_64_1, kR_65_0, kR_65_1, kR_69_0, kR_69_1, kR_70_0, kR_70_1, kR_74_0, kR_74_1, kR_74_2, kR_74_3, kR_74_4, kR_74_5, kR_74_6, kR_74_7, kR_74_8, kR_74_9, kR_74_13, kR_74_17, kR_74_24, kR_74_25, kR_74_26, kR_74_27, kR_74_28, kR_74_34, kR_74_35, kR_74_36, kL_1_11, kL_1_12, kL_74_15, kL_74_16, kK_39_1, kK_41_1, kK_43_1, kK_45_1, kK_47_1, kK_49_1, kK_51_1, kK_53_1, kK_55_1, kK_57_1, kA_6, kA_7, kA_8, kA_9, kA_12, kA_13, kA_14, kA_15, kA_18, kA_19, kA_20, kA_23, kA_24, kA_25, kA_27, kA_28, kA_30, kA_31, kA_33, kA_34, kA_36, kA_37, kA_38, kA_40, kA_42, kA_44, kA_46, kA_48, kA_50, kA_52, kA_54, kA_56, kA_58, kA_61, kA_62, kA_63, kA_66, kA_67, kA_68, kA_71, kA_72, kA_73, kA_75, kA_76, kA_77, kA_78, kA_79, kA_80, kA_81, kA_82, kA_83, kA_84, kA_85, kA_86, kA_87, kA_88, kA_89, kA_90, kA_91, kA_92, kA_93, kA_94, kQ_2, kQ_3, kQ_4, kQ_22, kC_1, kC_5, kC_10, kC_11, kC_16, kC_17, kC_21, kC_26, kC_29, kC_32, kC_35, kC_39, kC_41, kC_43, kC_45, kC_47, kC_49, kC_51, kC_53, kC_55, kC_57, kC_59, kC_60, kC_64, kC_65, kC_69, kC_70, kC_74, h21, c1, ct, clt, h78, w_bad (show n < 1000 by omega) h, fI_uI, and_self]
  have hd := hd_in (n := n) (g := g) (p := p0)
  cases eH : hdP n g p0 with
  | inl f =>
    have er : rdP n g q0 = .inl f := by unfold rdP; rw [hsp, eH]
    have hf := hd.1 f eH
    have k19 : fI (uI D3 74 18 (nI (sk n g p'))) 74 19 = nI f := by rw [fI_uI, if_neg (by omega)]; exact b4 f eH
    refine ⟨uI D3 74 18 (nI (sk n g p')), nI f, ?_, o4, fun e he => (by rw [er] at he; cases he; rfl), fun s c m q he => (by rw [er] at he; cases he)⟩
    rw [show (4000 : Nat) = 3999 + 1 from rfl, P_X8_read_33, getI_hp _ 8 19 74 _ kI_74_19, k19, ifB_hp, if_pos (ne9g (show f < 1000 by omega))]
    exact Kno _ f (by omega) k19
  | inr sc =>
    obtain ⟨s, c⟩ := sc
    obtain ⟨z1, z2, z3, z4⟩ := b5 s c eH
    have ep : p' = p0 + 4 := (nI_eq (by omega) (by omega)).mp (b3.symm.trans z2)
    subst ep
    obtain ⟨D5, y1, y2, y4, y5⟩ := m_rd_loop (B := B) (g := g) ht K 60 4000 (p0 + 4) 0 q0 (uI D3 74 18 (nI (sk n g (p0 + 4)))) (by omega) (by omega) (by omega) ⟨by omega, fun k hk => by omega, fun k _ => hq0 k⟩ T4 (by rw [fI_uI, if_pos ⟨rfl, rfl⟩]) (by rw [fI_uI, if_neg (by omega)]; exact z1) ⟨H21, fun k hk => by omega⟩
    have oF : Off Trm D D5 := o4.trans (y2.mono (fun a k z => by unfold Tit at z; unfold Trm; omega))
    have s22 : fI D5 74 22 = nI s := by rw [(y2.1 74 22 (by unfold Tit; omega)).1, fI_uI, if_neg (by omega)]; exact z3
    have s23 : fI D5 74 23 = nI c := by rw [(y2.1 74 23 (by unfold Tit; omega)).1, fI_uI, if_neg (by omega)]; exact z4
    rw [y1]
    cases eL : lpP n g 60 (p0 + 4) 0 q0 with
    | inl e =>
      have er : rdP n g q0 = .inl e := by
        unfold rdP
        rw [hsp, eH]
        dsimp only
        rw [eL]
      obtain ⟨w1, w2⟩ := y4 e eL
      exact ⟨D5, nI e, Kno D5 e w1 w2, oF, fun e' he => (by rw [er] at he; cases he; rfl), fun s c m q he => (by rw [er] at he; cases he)⟩
    | inr mq =>
      obtain ⟨m, q⟩ := mq
      obtain ⟨w1, w2⟩ := y5 m q eL
      have er : rdP n g q0 = if 2 ≤ m then .inr (s, c, m, q) else .inl n := by
        unfold rdP
        rw [hsp, eH]
        dsimp only
        rw [eL]
      by_cases hm : 2 ≤ m
      · rw [if_pos hm] at er
        have hm6 : m ≤ 6 := by
          have key : ∀ (f p m : Nat) (q : QT) (m' : Nat) (q' : QT), PI m q → lpP n g f p m q = .inr (m', q') → PI m' q' := by
            intro f
            induction f with
            | zero => intro p m q m' q' hP h; cases h; exact hP
            | succ f ih =>
              intro p m q m' q' hP h
              rw [show lpP n g (f + 1) p m q = if sk n g p < n then (match itP n g (sk n g p) m q with
                | .inl e => .inl e
                | .inr (m', q') => lpP n g f (sk n g p + 3) m' q') else .inr (m, q) from rfl] at h
              by_cases hlt : sk n g p < n
              · rw [if_pos hlt] at h
                cases eR : itP n g (sk n g p) m q with
                | inl e => rw [eR] at h; cases h
                | inr r =>
                  obtain ⟨m1, q1⟩ := r
                  rw [eR] at h
                  exact ih _ m1 q1 m' q' (PI_it hP eR) h
              · rw [if_neg hlt] at h
                cases h
                exact hP
          exact (key 60 (p0 + 4) 0 q0 m q ⟨by omega, fun k hk => by omega, fun k _ => hq0 k⟩ eL).1
        refine ⟨D5, -9, Kyes D5 m hm6 hm w1 w2.1, oF, fun e' he => (by rw [er] at he; cases he), fun s' c' m' q' he => ?_⟩
        rw [er] at he
        cases he
        exact ⟨rfl, w2, s22, s23⟩
      · rw [if_neg hm] at er
        refine ⟨uI D5 74 19 (nI n), nI n, Kfew D5 m hm w1 w2.1 (by rw [oF.2 78 (by unfold Trm; omega)]; exact hT.2.1), oF.uI _ _ _ (by unfold Trm; omega), fun e' he => (by rw [er] at he; cases he; rfl), fun s' c' m' q' he => (by rw [er] at he; cases he)⟩
theorem rd_in {n : Nat} {g : Nat → Int32} {q0 : QT} {s c m : Nat} {q : QT} (h : rdP n g q0 = .inr (s, c, m, q)) : s ≤ 40 ∧ c ≤ 9 ∧ 2 ≤ m := by
  unfold rdP at h
  have hd := hd_in (n := n) (g := g) (p := sk n g 0)
  cases eH : hdP n g (sk n g 0) with
  | inl f => rw [eH] at h; cases h
  | inr sc =>
    obtain ⟨s', c'⟩ := sc
    rw [eH] at h
    dsimp only at h
    cases eL : lpP n g 60 (sk n g 0 + 4) 0 q0 with
    | inl e => rw [eL] at h; cases h
    | inr mq =>
      obtain ⟨m', q'⟩ := mq
      rw [eL] at h
      dsimp only at h
      by_cases hm : 2 ≤ m'
      · rw [if_pos hm] at h
        cases h
        exact ⟨(hd.2 s c eH).1, (hd.2 s c eH).2, hm⟩
      · rw [if_neg hm] at h; cases h
end PARSER
