/-! The reference reads: items, all. -/
section PARSEI
variable {B : BT}
def MRr (D : DT) (m : Nat) (q : QT) : Prop := fI D 74 21 = nI m ∧ ∀ k, k < m → fG D 87 k = q.1 k ∧ fG D 88 k = q.2.1 k ∧ fG D 89 k = q.2.2.1 k ∧ fG D 90 k = q.2.2.2 k
theorem MRr.sc {D D' : DT} {m : Nat} {q : QT} (h : MRr D m q) (o : Off (fun a k => a = 74 ∧ (k = 18 ∨ k = 19)) D D') : MRr D' m q := by
  unfold MRr
  rw [(o.1 74 21 (by omega)).1, o.2 87 (by omega), o.2 88 (by omega), o.2 89 (by omega), o.2 90 (by omega)]
  exact h
/-- one item -/
def ItM (B : BT) (D : DT) (P : PM Unit) (p : Nat) (R : PRt) : Prop := ∃ D', P (hp B D) = some ((), hp B D') ∧ Off Tit D D' ∧ (∃ p', p' ≤ p + 4 ∧ fI D' 74 18 = nI p') ∧ (∀ f, R = .inl f → fI D' 74 19 = nI f) ∧ ∀ m' q', R = .inr (m', q') → fI D' 74 19 = -9 ∧ fI D' 74 18 = nI (p + 3) ∧ MRr D' m' q'
theorem Tit_sc {a k : Nat} (h : a = 74 ∧ (k = 18 ∨ k = 19)) : Tit a k := by unfold Tit; omega
theorem m_readOne {D : DT} {t n p m kd : Nat} {g : Nat → Int32} {q : QT} (ht : t < 4) (hT : MSt D t n g) (h18 : fI D 74 18 = nI p) (hp64 : p ≤ 64) (h19 : fI D 74 19 = -9) (hP : PI m q) (hM : MRr D m q) (h0 : kdO (sg n g p) = some kd) : ItM B D (P_X8_readOne 74 (nI kd)) p (itO n g p m q) := by
  have n10 : ¬ (1 : Int32) = 0 := by decide
  have hm6 := hP.1
  have h21 := hM.1
  by_cases hm : m < 6
  case neg =>
    have c6 : (6 : Int32) ≤ nI m := show nI 6 ≤ nI m from nI_le (by omega) (by omega)
    have eR : itO n g p m q = .inl p := by unfold itO; rw [h0]; dsimp only; rw [if_neg hm]
    refine ⟨uI D 74 19 (nI p), ?_, (Off.refl D).uI _ _ _ (by unfold Tit; omega), ⟨p, by omega, by rw [fI_uI, if_neg (by omega)]; exact h18⟩, fun f hf => (by rw [eR] at hf; cases hf; rw [fI_uI, if_pos ⟨rfl, rfl⟩]), fun m' q' hf => (by rw [eR] at hf; cases hf)⟩
    simp only [P_X8_readOne, pureM_hp, ifB_t, ifB_f, decide_true, decide_false, ifB_hp, jn_hp, retZ_0, retZ_1, thn_some, cll0_w, cllV_w, getI_w, getL_w, getR_w, setI_w, setZ_w0, setZ_w1, setL_w, ald_w, ast_w, alen_w, aldR_2, aldR_3, aldR_4, aldR_22, cll0_pure, ↓reduceIte, if_true, if_false, Bool.false_eq_true, reduceCtorEq, and_true, true_and, and_false, false_and, ite_self, kI_1_9, kI_1_10, kI_5_4, kI_5_5, kI_5_6, kI_10_1, kI_11_4, kI_11_5, kI_11_6, kI_16_2, kI_16_3, kI_16_4, kI_16_5, kI_16_6, kI_17_2, kI_17_3, kI_21_4, kI_21_5, kI_21_6, kI_21_7, kI_21_8, kI_21_9, kI_21_10, kI_21_11, kI_26_2, kI_26_3, kI_29_2, kI_29_3, kI_32_2, kI_32_3, kI_35_2, kI_39_2, kI_39_3, kI_41_2, kI_41_3, kI_43_2, kI_43_3, kI_45_2, kI_45_3, kI_47_2, kI_47_3, kI_49_2, kI_49_3, kI_51_2, kI_51_3, kI_53_2, kI_53_3, kI_55_2, kI_55_3, kI_57_2, kI_57_3, kI_59_2, kI_59_3, kI_59_4, kI_59_5, kI_59_6, kI_60_2, kI_60_3, kI_64_2, kI_64_3, kI_64_4, kI_64_5, kI_64_6, kI_65_2, kI_65_3, kI_69_2, kI_69_3, kI_69_4, kI_69_5, kI_69_6, kI_70_2, kI_70_3, kI_74_10, kI_74_11, kI_74_12, kI_74_14, kI_74_18, kI_74_19, kI_74_20, kI_74_21, kI_74_22, kI_74_23, kI_74_29, kI_74_30, kI_74_31, kI_74_32, kI_74_33, kR_1_0, kR_1_1, kR_1_2, kR_1_3, kR_1_4, kR_1_5, kR_1_6, kR_1_7, kR_1_8, kR_5_0, kR_5_1, kR_5_2, kR_5_3, kR_10_0, kR_11_0, kR_11_1, kR_11_2, kR_11_3, kR_16_0, kR_16_1, kR_17_0, kR_17_1, kR_21_0, kR_21_1, kR_21_2, kR_21_3, kR_26_0, kR_26_1, kR_29_0, kR_29_1, kR_32_0, kR_32_1, kR_35_0, kR_35_1, kR_39_0, kR_41_0, kR_43_0, kR_45_0, kR_47_0, kR_49_0, kR_51_0, kR_53_0, kR_55_0, kR_57_0, kR_59_0, kR_59_1, kR_60_0, kR_60_1, kR_64_0, kR_64_1, kR_65_0, kR_65_1, kR_69_0, kR_69_1, kR_70_0, kR_70_1, kR_74_0, kR_74_1, kR_74_2, kR_74_3, kR_74_4, kR_74_5, kR_74_6, kR_74_7, kR_74_8, kR_74_9, kR_74_13, kR_74_17, kR_74_24, kR_74_25, kR_74_26, kR_74_27, kR_74_28, kR_74_34, kR_74_35, kR_74_36, kL_1_11, kL_1_12, kL_74_15, kL_74_16, kK_39_1, kK_41_1, kK_43_1, kK_45_1, kK_47_1, kK_49_1, kK_51_1, kK_53_1, kK_55_1, kK_57_1, kA_6, kA_7, kA_8, kA_9, kA_12, kA_13, kA_14, kA_15, kA_18, kA_19, kA_20, kA_23, kA_24, kA_25, kA_27, kA_28, kA_30, kA_31, kA_33, kA_34, kA_36, kA_37, kA_38, kA_40, kA_42, kA_44, kA_46, kA_48, kA_50, kA_52, kA_54, kA_56, kA_58, kA_61, kA_62, kA_63, kA_66, kA_67, kA_68, kA_71, kA_72, kA_73, kA_75, kA_76, kA_77, kA_78, kA_79, kA_80, kA_81, kA_82, kA_83, kA_84, kA_85, kA_86, kA_87, kA_88, kA_89, kA_90, kA_91, kA_92, kA_93, kA_94, kQ_2, kQ_3, kQ_4, kQ_22, kC_1, kC_5, kC_10, kC_11, kC_16, kC_17, kC_21, kC_26, kC_29, kC_32, kC_35, kC_39, kC_41, kC_43, kC_45, kC_47, kC_49, kC_51, kC_53, kC_55, kC_57, kC_59, kC_60, kC_64, kC_65, kC_69, kC_70, kC_74, h21, c6, h18, w_bad (show p < 1000 by omega) h19, not_true_eq_false]
  have c6 : ¬ (6 : Int32) ≤ nI m := show ¬ nI 6 ≤ nI m from nI_ge (by omega) (by omega)
  have cm : 0 ≤ (nI m).toInt ∧ (nI m).toInt < ((6 : Nat) : Int) := ixc (by omega) (by omega)
  have clm := nI_clamp (show m < 2 ^ 31 by omega)
  -- the first part
  have o1 : Off Tit D (uG (uI D 74 18 (nI (p + 1))) 87 (upd (fG D 87) m (nI kd))) := ((Off.refl D).uI _ _ _ (by unfold Tit; omega)).uG _ _ (by unfold Tit; omega)
  generalize hE : uG (uI D 74 18 (nI (p + 1))) 87 (upd (fG D 87) m (nI kd)) = E at *
  have E18 : fI E 74 18 = nI (p + 1) := by rw [← hE, fI_uG, fI_uI, if_pos ⟨rfl, rfl⟩]
  have E19 : fI E 74 19 = -9 := by rw [← hE, fI_uG, fI_uI, if_neg (by omega)]; exact h19
  have E21 : fI E 74 21 = nI m := by rw [← hE, fI_uG, fI_uI, if_neg (by omega)]; exact h21
  have E87 : fG E 87 = upd (fG D 87) m (nI kd) := by rw [← hE, fG_uG, if_pos rfl]
  have Eo : ∀ a, a ≠ 87 → fG E a = fG D a := fun a ha => by rw [← hE, fG_uG, if_neg ha, fG_uI]
  have T1 := hT.it o1
  have unf : P_X8_readOne 74 (nI kd) (hp B D) = cllV 8 74 (P_X8_figure 74) (fun v11 => ast 88 (nI m) v11 <| getR 8 26 74 fun v12 => getI 8 21 74 fun v13 => cllV 8 74 (P_X8_figure 74) fun v14 => ast v12 v13 v14 <| getR 8 27 74 fun v15 => getI 8 21 74 fun v16 => ast v15 v16 0 <| getI 8 21 74 fun v17 => setI 8 21 74 (v17 + 1) <| pureM ()) (hp B E) := by
    unfold P_X8_readOne
    rw [getI_hp D 8 21 74 _ kI_74_21, h21, jn_hp, ifB_hp, if_neg c6]
    dsimp only
    rw [getI_hp D 8 18 74 _ kI_74_18, cllV_w, if_pos kC_74, w_ok h19 n10, thn_some, ifB_hp, if_pos n10, getI_hp D 8 18 74 _ kI_74_18, h18, nI_p1, setI_hp D 8 18 74 _ _ kI_74_18, getR_hp _ 8 24 74 87 _ kR_74_24, getI_hp _ 8 21 74 _ kI_74_21, fI_uI, if_neg (by omega), h21, ast_hp _ 87 6 _ _ _ kA_87 cm, clm, fG_uI, hE, getR_hp _ 8 25 74 88 _ kR_74_25, getI_hp _ 8 21 74 _ kI_74_21, E21]
  -- the last part
  have last : ∀ (G : DT) (v14 : Int32), fI G 74 21 = nI m → (ast 89 (nI m) v14 <| getR 8 27 74 fun v15 => getI 8 21 74 fun v16 => ast v15 v16 0 <| getI 8 21 74 fun v17 => setI 8 21 74 (v17 + 1) <| pureM ()) (hp B G) = some ((), hp B (uI (uG (uG G 89 (upd (fG G 89) m v14)) 90 (upd (fG G 90) m 0)) 74 21 (nI (m + 1)))) := fun G v14 hG => by
    simp only [pureM_hp, ifB_t, ifB_f, decide_true, decide_false, ifB_hp, jn_hp, retZ_0, retZ_1, thn_some, cll0_w, cllV_w, getI_w, getL_w, getR_w, setI_w, setZ_w0, setZ_w1, setL_w, ald_w, ast_w, alen_w, aldR_2, aldR_3, aldR_4, aldR_22, cll0_pure, ↓reduceIte, if_true, if_false, Bool.false_eq_true, reduceCtorEq, and_true, true_and, and_false, false_and, ite_self, kI_1_9, kI_1_10, kI_5_4, kI_5_5, kI_5_6, kI_10_1, kI_11_4, kI_11_5, kI_11_6, kI_16_2, kI_16_3, kI_16_4, kI_16_5, kI_16_6, kI_17_2, kI_17_3, kI_21_4, kI_21_5, kI_21_6, kI_21_7, kI_21_8, kI_21_9, kI_21_10, kI_21_11, kI_26_2, kI_26_3, kI_29_2, kI_29_3, kI_32_2, kI_32_3, kI_35_2, kI_39_2, kI_39_3, kI_41_2, kI_41_3, kI_43_2, kI_43_3, kI_45_2, kI_45_3, kI_47_2, kI_47_3, kI_49_2, kI_49_3, kI_51_2, kI_51_3, kI_53_2, kI_53_3, kI_55_2, kI_55_3, kI_57_2, kI_57_3, kI_59_2, kI_59_3, kI_59_4, kI_59_5, kI_59_6, kI_60_2, kI_60_3, kI_64_2, kI_64_3, kI_64_4, kI_64_5, kI_64_6, kI_65_2, kI_65_3, kI_69_2, kI_69_3, kI_69_4, kI_69_5, kI_69_6, kI_70_2, kI_70_3, kI_74_10, kI_74_11, kI_74_12, kI_74_14, kI_74_18, kI_74_19, kI_74_20, kI_74_21, kI_74_22, kI_74_23, kI_74_29, kI_74_30, kI_74_31, kI_74_32, kI_74_33, kR_1_0, kR_1_1, kR_1_2, kR_1_3, kR_1_4, kR_1_5, kR_1_6, kR_1_7, kR_1_8, kR_5_0, kR_5_1, kR_5_2, kR_5_3, kR_10_0, kR_11_0, kR_11_1, kR_11_2, kR_11_3, kR_16_0, kR_16_1, kR_17_0, kR_17_1, kR_21_0, kR_21_1, kR_21_2, kR_21_3, kR_26_0, kR_26_1, kR_29_0, kR_29_1, kR_32_0, kR_32_1, kR_35_0, kR_35_1, kR_39_0, kR_41_0, kR_43_0, kR_45_0, kR_47_0, kR_49_0, kR_51_0, kR_53_0, kR_55_0, kR_57_0, kR_59_0, kR_59_1, kR_60_0, kR_60_1, kR_64_0, kR_64_1, kR_65_0, kR_65_1, kR_69_0, kR_69_1, kR_70_0, kR_70_1, kR_74_0, kR_74_1, kR_74_2, kR_74_3, kR_74_4, kR_74_5, kR_74_6, kR_74_7, kR_74_8, kR_74_9, kR_74_13, kR_74_17, kR_74_24, kR_74_25, kR_74_26, kR_74_27, kR_74_28, kR_74_34, kR_74_35, kR_74_36, kL_1_11, kL_1_12, kL_74_15, kL_74_16, kK_39_1, kK_41_1, kK_43_1, kK_45_1, kK_47_1, kK_49_1, kK_51_1, kK_53_1, kK_55_1, kK_57_1, kA_6, kA_7, kA_8, kA_9, kA_12, kA_13, kA_14, kA_15, kA_18, kA_19, kA_20, kA_23, kA_24, kA_25, kA_27, kA_28, kA_30, kA_31, kA_33, kA_34, kA_36, kA_37, kA_38, kA_40, kA_42, kA_44, kA_46, kA_48, kA_50, kA_52, kA_54, kA_56, kA_58, kA_61, kA_62, kA_63, kA_66, kA_67, kA_68, kA_71, kA_72, kA_73, kA_75, kA_76, kA_77, kA_78, kA_79, kA_80, kA_81, kA_82, kA_83, kA_84, kA_85, kA_86, kA_87, kA_88, kA_89, kA_90, kA_91, kA_92, kA_93, kA_94, kQ_2, kQ_3, kQ_4, kQ_22, kC_1, kC_5, kC_10, kC_11, kC_16, kC_17, kC_21, kC_26, kC_29, kC_32, kC_35, kC_39, kC_41, kC_43, kC_45, kC_47, kC_49, kC_51, kC_53, kC_55, kC_57, kC_59, kC_60, kC_64, kC_65, kC_69, kC_70, kC_74, cm, clm, hG, fI_uG, fG_uG, Nat.reduceEqDiff, nI_p1]
  rw [show ItM B D (P_X8_readOne 74 (nI kd)) p (itO n g p m q) = ∃ D', P_X8_readOne 74 (nI kd) (hp B D) = some ((), hp B D') ∧ Off Tit D D' ∧ (∃ p', p' ≤ p + 4 ∧ fI D' 74 18 = nI p') ∧ (∀ f, itO n g p m q = .inl f → fI D' 74 19 = nI f) ∧ ∀ m' q', itO n g p m q = .inr (m', q') → fI D' 74 19 = -9 ∧ fI D' 74 18 = nI (p + 3) ∧ MRr D' m' q' from rfl, unf]
  have oL : ∀ (G : DT) (v14 : Int32), Off Tit G (uI (uG (uG G 89 (upd (fG G 89) m v14)) 90 (upd (fG G 90) m 0)) 74 21 (nI (m + 1))) := fun G v14 => (((Off.refl G).uG _ _ (by unfold Tit; omega)).uG _ _ (by unfold Tit; omega)).uI _ _ _ (by unfold Tit; omega)
  cases e1 : fgO (sg n g (p + 1)) with
  | none =>
    have eR : itO n g p m q = .inl (p + 1) := by unfold itO; rw [h0]; dsimp only; rw [if_pos hm, e1]
    have g1 := m_fig_bad (B := B) ht T1 E18 (by omega) E19 e1
    have o2 : Off Tit E (uG (uI E 74 19 (nI (p + 1))) 88 (upd (fG E 88) m 0)) := ((Off.refl E).uI _ _ _ (by unfold Tit; omega)).uG _ _ (by unfold Tit; omega)
    generalize hG : uG (uI E 74 19 (nI (p + 1))) 88 (upd (fG E 88) m 0) = G at *
    have G18 : fI G 74 18 = nI (p + 1) := by rw [← hG, fI_uG, fI_uI, if_neg (by omega)]; exact E18
    have G19 : fI G 74 19 = nI (p + 1) := by rw [← hG, fI_uG, fI_uI, if_pos ⟨rfl, rfl⟩]
    have G21 : fI G 74 21 = nI m := by rw [← hG, fI_uG, fI_uI, if_neg (by omega)]; exact E21
    have g2 := m_fig_no (B := B) ht (T1.it o2) G18 (by omega) (show p + 1 < 1000 by omega) G19
    refine ⟨uI (uG (uG G 89 (upd (fG G 89) m 0)) 90 (upd (fG G 90) m 0)) 74 21 (nI (m + 1)), ?_, (o1.trans o2).trans (oL G 0), ⟨p + 1, by omega, by rw [fI_uI, if_neg (by omega), fI_uG, fI_uG]; exact G18⟩, fun f hf => (by rw [eR] at hf; cases hf; rw [fI_uI, if_neg (by omega), fI_uG, fI_uG]; exact G19), fun m' q' hf => (by rw [eR] at hf; cases hf)⟩
    rw [cllV_w, if_pos kC_74, g1, thn_some, ast_hp _ 88 6 _ _ _ kA_88 cm, clm, fG_uI, hG, getR_hp _ 8 26 74 89 _ kR_74_26, getI_hp _ 8 21 74 _ kI_74_21, G21, cllV_w, if_pos kC_74, g2, thn_some]
    exact last G 0 G21
  | some a =>
    obtain ⟨a9, -⟩ := fgO_lt e1
    have g1 := m_fig_ok (B := B) ht T1 E18 (by omega) E19 e1
    have o2 : Off Tit E (uG (uI E 74 18 (nI (p + 1 + 1))) 88 (upd (fG E 88) m (nI a))) := ((Off.refl E).uI _ _ _ (by unfold Tit; omega)).uG _ _ (by unfold Tit; omega)
    generalize hG : uG (uI E 74 18 (nI (p + 1 + 1))) 88 (upd (fG E 88) m (nI a)) = G at *
    have G18 : fI G 74 18 = nI (p + 2) := by rw [← hG, fI_uG, fI_uI, if_pos ⟨rfl, rfl⟩]
    have G19 : fI G 74 19 = -9 := by rw [← hG, fI_uG, fI_uI, if_neg (by omega)]; exact E19
    have G21 : fI G 74 21 = nI m := by rw [← hG, fI_uG, fI_uI, if_neg (by omega)]; exact E21
    have G88 : fG G 88 = upd (fG D 88) m (nI a) := by rw [← hG, fG_uG, if_pos rfl, Eo 88 (by omega)]
    have Go : ∀ x, x ≠ 88 → fG G x = fG E x := fun x hx => by rw [← hG, fG_uG, if_neg hx, fG_uI]
    have T2 := T1.it o2
    rw [cllV_w, if_pos kC_74, g1, thn_some, ast_hp _ 88 6 _ _ _ kA_88 cm, clm, fG_uI, hG, getR_hp _ 8 26 74 89 _ kR_74_26, getI_hp _ 8 21 74 _ kI_74_21, G21]
    cases e2 : fgO (sg n g (p + 2)) with
    | none =>
      have eR : itO n g p m q = .inl (p + 2) := by unfold itO; rw [h0]; dsimp only; rw [if_pos hm, e1]; dsimp only; rw [e2]
      have g2 := m_fig_bad (B := B) ht T2 G18 (by omega) G19 e2
      have o3 : Off Tit G (uI G 74 19 (nI (p + 2))) := (Off.refl G).uI _ _ _ (by unfold Tit; omega)
      refine ⟨_, ?_, ((o1.trans o2).trans o3).trans (oL (uI G 74 19 (nI (p + 2))) 0), ⟨p + 2, by omega, by rw [fI_uI, if_neg (by omega), fI_uG, fI_uG, fI_uI, if_neg (by omega)]; exact G18⟩, fun f hf => (by rw [eR] at hf; cases hf; rw [fI_uI, if_neg (by omega), fI_uG, fI_uG, fI_uI, if_pos ⟨rfl, rfl⟩]), fun m' q' hf => (by rw [eR] at hf; cases hf)⟩
      rw [cllV_w, if_pos kC_74, g2, thn_some]
      exact last _ 0 (by rw [fI_uI, if_neg (by omega)]; exact G21)
    | some b =>
      obtain ⟨b9, -⟩ := fgO_lt e2
      have eR : itO n g p m q = .inr (m + 1, adP m q kd a b) := by unfold itO; rw [h0]; dsimp only; rw [if_pos hm, e1]; dsimp only; rw [e2]
      have g2 := m_fig_ok (B := B) ht T2 G18 (by omega) G19 e2
      have o3 : Off Tit G (uI G 74 18 (nI (p + 2 + 1))) := (Off.refl G).uI _ _ _ (by unfold Tit; omega)
      have z18 : fI (uI (uG (uG (uI G 74 18 (nI (p + 2 + 1))) 89 (upd (fG (uI G 74 18 (nI (p + 2 + 1))) 89) m (nI b))) 90 (upd (fG (uI G 74 18 (nI (p + 2 + 1))) 90) m 0)) 74 21 (nI (m + 1))) 74 18 = nI (p + 3) := by rw [fI_uI, if_neg (by omega), fI_uG, fI_uG, fI_uI, if_pos ⟨rfl, rfl⟩]
      refine ⟨_, ?_, ((o1.trans o2).trans o3).trans (oL (uI G 74 18 (nI (p + 2 + 1))) (nI b)), ⟨p + 3, by omega, z18⟩, fun f hf => (by rw [eR] at hf; cases hf), fun m' q' hf => ?_⟩
      · rw [cllV_w, if_pos kC_74, g2, thn_some]
        exact last _ (nI b) (by rw [fI_uI, if_neg (by omega)]; exact G21)
      · rw [eR] at hf
        cases hf
        refine ⟨by rw [fI_uI, if_neg (by omega), fI_uG, fI_uG, fI_uI, if_neg (by omega)]; exact G19, z18, by rw [fI_uI, if_pos ⟨rfl, rfl⟩], fun k hk => ?_⟩
        have hq0 := hP.2.2 m (Nat.le_refl _)
        unfold adP
        dsimp only
        have x87 : fG G 87 = upd (fG D 87) m (nI kd) := by rw [Go 87 (by omega)]; exact E87
        have x89 : fG G 89 = fG D 89 := by rw [Go 89 (by omega), Eo 89 (by omega)]
        have x90 : fG G 90 = fG D 90 := by rw [Go 90 (by omega), Eo 90 (by omega)]
        simp only [fG_uI, fG_uG, Nat.reduceEqDiff, if_true, if_false, x87, G88, x89, x90]
        unfold upd
        by_cases e : k = m
        · subst e
          simp only [if_true]
          exact ⟨trivial, trivial, trivial, hq0.symm⟩
        · simp only [e, if_false]
          exact hM.2 k (by omega)
end PARSEI
