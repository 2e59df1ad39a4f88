/-! pairs: the call -/
section PAIROP
variable {B : BT}
theorem m_layWay {D : DT} {m c : Nat} {q : QT} {H : HT} (hm6 : m ≤ 6) (hc : c < 2 ^ 28) (hF : MF D m q) (hX : MH D 0 H) : ∃ D', (∀ w ps, wyF m c = some (0, w, ps) → P_X8_layWay 74 (nI c) (hp B D) = some (psS q H ps, hp B D') ∧ ∀ k, k < m → fG D' 92 k = w k) ∧ ((∀ w ps, wyF m c ≠ some (0, w, ps)) → P_X8_layWay 74 (nI c) (hp B D) = some (-1, hp B D')) ∧ Off T92 D D' := by
  have lp : ∀ (K : PM Int32) (p2 p3 p4 : Int32) (F k : Nat) (D : DT), k ≤ m → m - k < F → fI D 74 10 = nI m → (∀ j, j < k → fG D 92 j = -2) → ∃ D', P_X8_layWay_15 K 74 p2 p3 p4 F (nI k) (hp B D) = K (hp B D') ∧ (∀ j, j < m → fG D' 92 j = -2) ∧ Off T92 D D' := by
    intro K p2 p3 p4 F
    induction F with
    | zero => intro k D h1 h2; omega
    | succ F ih =>
      intro k D h1 h2 hm hg
      by_cases e : k = m
      · have c1 : nI m ≤ nI k := by rw [e]; exact nI_le (Nat.le_refl _) (by omega)
        refine ⟨D, ?_, fun j hj => hg j (by omega), Off.refl D⟩
        simp only [P_X8_layWay_15, pureM_hp, ifB_t, ifB_f, decide_true, decide_false, ifB_hp, jn_hp, retZ_0, retZ_1, thn_some, cll0_w, cllV_w, getI_w, getL_w, getR_w, setI_w, setZ_w0, setZ_w1, setL_w, ald_w, ast_w, alen_w, aldR_2, aldR_3, aldR_4, aldR_22, cll0_pure, ↓reduceIte, if_true, if_false, Bool.false_eq_true, reduceCtorEq, and_true, true_and, and_false, false_and, ite_self, kI_1_9, kI_1_10, kI_5_4, kI_5_5, kI_5_6, kI_10_1, kI_11_4, kI_11_5, kI_11_6, kI_16_2, kI_16_3, kI_16_4, kI_16_5, kI_16_6, kI_17_2, kI_17_3, kI_21_4, kI_21_5, kI_21_6, kI_21_7, kI_21_8, kI_21_9, kI_21_10, kI_21_11, kI_26_2, kI_26_3, kI_29_2, kI_29_3, kI_32_2, kI_32_3, kI_35_2, kI_39_2, kI_39_3, kI_41_2, kI_41_3, kI_43_2, kI_43_3, kI_45_2, kI_45_3, kI_47_2, kI_47_3, kI_49_2, kI_49_3, kI_51_2, kI_51_3, kI_53_2, kI_53_3, kI_55_2, kI_55_3, kI_57_2, kI_57_3, kI_59_2, kI_59_3, kI_59_4, kI_59_5, kI_59_6, kI_60_2, kI_60_3, kI_64_2, kI_64_3, kI_64_4, kI_64_5, kI_64_6, kI_65_2, kI_65_3, kI_69_2, kI_69_3, kI_69_4, kI_69_5, kI_69_6, kI_70_2, kI_70_3, kI_74_10, kI_74_11, kI_74_12, kI_74_14, kI_74_18, kI_74_19, kI_74_20, kI_74_21, kI_74_22, kI_74_23, kI_74_29, kI_74_30, kI_74_31, kI_74_32, kI_74_33, kR_1_0, kR_1_1, kR_1_2, kR_1_3, kR_1_4, kR_1_5, kR_1_6, kR_1_7, kR_1_8, kR_5_0, kR_5_1, kR_5_2, kR_5_3, kR_10_0, kR_11_0, kR_11_1, kR_11_2, kR_11_3, kR_16_0, kR_16_1, kR_17_0, kR_17_1, kR_21_0, kR_21_1, kR_21_2, kR_21_3, kR_26_0, kR_26_1, kR_29_0, kR_29_1, kR_32_0, kR_32_1, kR_35_0, kR_35_1, kR_39_0, kR_41_0, kR_43_0, kR_45_0, kR_47_0, kR_49_0, kR_51_0, kR_53_0, kR_55_0, kR_57_0, kR_59_0, kR_59_1, kR_60_0, kR_60_1, kR_64_0, kR_64_1, kR_65_0, kR_65_1, kR_69_0, kR_69_1, kR_70_0, kR_70_1, kR_74_0, kR_74_1, kR_74_2, kR_74_3, kR_74_4, kR_74_5, kR_74_6, kR_74_7, kR_74_8, kR_74_9, kR_74_13, kR_74_17, kR_74_24, kR_74_25, kR_74_26, kR_74_27, kR_74_28, kR_74_34, kR_74_35, kR_74_36, kL_1_11, kL_1_12, kL_74_15, kL_74_16, kK_39_1, kK_41_1, kK_43_1, kK_45_1, kK_47_1, kK_49_1, kK_51_1, kK_53_1, kK_55_1, kK_57_1, kA_6, kA_7, kA_8, kA_9, kA_12, kA_13, kA_14, kA_15, kA_18, kA_19, kA_20, kA_23, kA_24, kA_25, kA_27, kA_28, kA_30, kA_31, kA_33, kA_34, kA_36, kA_37, kA_38, kA_40, kA_42, kA_44, kA_46, kA_48, kA_50, kA_52, kA_54, kA_56, kA_58, kA_61, kA_62, kA_63, kA_66, kA_67, kA_68, kA_71, kA_72, kA_73, kA_75, kA_76, kA_77, kA_78, kA_79, kA_80, kA_81, kA_82, kA_83, kA_84, kA_85, kA_86, kA_87, kA_88, kA_89, kA_90, kA_91, kA_92, kA_93, kA_94, kQ_2, kQ_3, kQ_4, kQ_22, kC_1, kC_5, kC_10, kC_11, kC_16, kC_17, kC_21, kC_26, kC_29, kC_32, kC_35, kC_39, kC_41, kC_43, kC_45, kC_47, kC_49, kC_51, kC_53, kC_55, kC_57, kC_59, kC_60, kC_64, kC_65, kC_69, kC_70, kC_74, hm, c1]
      · have c1 : ¬ nI m ≤ nI k := nI_ge (by omega) (by omega)
        have cx : 0 ≤ (nI k).toInt ∧ (nI k).toInt < ((6 : Nat) : Int) := ixc (by omega) (by omega)
        have o1 : Off T92 D (uG D 92 (upd (fG D 92) k (-2))) := (Off.refl D).uG _ _ ⟨rfl, rfl⟩
        obtain ⟨D', r1, r2, r3⟩ := ih (k + 1) (uG D 92 (upd (fG D 92) k (-2))) (by omega) (by omega) (by rw [fI_uG]; exact hm) (fun j hj => by
          rw [fG_uG, if_pos rfl]
          unfold upd
          by_cases ej : j = k
          · rw [if_pos ej]
          · rw [if_neg ej]; exact hg j (by omega))
        refine ⟨D', ?_, r2, o1.trans r3⟩
        simp only [P_X8_layWay_15, pureM_hp, ifB_t, ifB_f, decide_true, decide_false, ifB_hp, jn_hp, retZ_0, retZ_1, thn_some, cll0_w, cllV_w, getI_w, getL_w, getR_w, setI_w, setZ_w0, setZ_w1, setL_w, ald_w, ast_w, alen_w, aldR_2, aldR_3, aldR_4, aldR_22, cll0_pure, ↓reduceIte, if_true, if_false, Bool.false_eq_true, reduceCtorEq, and_true, true_and, and_false, false_and, ite_self, kI_1_9, kI_1_10, kI_5_4, kI_5_5, kI_5_6, kI_10_1, kI_11_4, kI_11_5, kI_11_6, kI_16_2, kI_16_3, kI_16_4, kI_16_5, kI_16_6, kI_17_2, kI_17_3, kI_21_4, kI_21_5, kI_21_6, kI_21_7, kI_21_8, kI_21_9, kI_21_10, kI_21_11, kI_26_2, kI_26_3, kI_29_2, kI_29_3, kI_32_2, kI_32_3, kI_35_2, kI_39_2, kI_39_3, kI_41_2, kI_41_3, kI_43_2, kI_43_3, kI_45_2, kI_45_3, kI_47_2, kI_47_3, kI_49_2, kI_49_3, kI_51_2, kI_51_3, kI_53_2, kI_53_3, kI_55_2, kI_55_3, kI_57_2, kI_57_3, kI_59_2, kI_59_3, kI_59_4, kI_59_5, kI_59_6, kI_60_2, kI_60_3, kI_64_2, kI_64_3, kI_64_4, kI_64_5, kI_64_6, kI_65_2, kI_65_3, kI_69_2, kI_69_3, kI_69_4, kI_69_5, kI_69_6, kI_70_2, kI_70_3, kI_74_10, kI_74_11, kI_74_12, kI_74_14, kI_74_18, kI_74_19, kI_74_20, kI_74_21, kI_74_22, kI_74_23, kI_74_29, kI_74_30, kI_74_31, kI_74_32, kI_74_33, kR_1_0, kR_1_1, kR_1_2, kR_1_3, kR_1_4, kR_1_5, kR_1_6, kR_1_7, kR_1_8, kR_5_0, kR_5_1, kR_5_2, kR_5_3, kR_10_0, kR_11_0, kR_11_1, kR_11_2, kR_11_3, kR_16_0, kR_16_1, kR_17_0, kR_17_1, kR_21_0, kR_21_1, kR_21_2, kR_21_3, kR_26_0, kR_26_1, kR_29_0, kR_29_1, kR_32_0, kR_32_1, kR_35_0, kR_35_1, kR_39_0, kR_41_0, kR_43_0, kR_45_0, kR_47_0, kR_49_0, kR_51_0, kR_53_0, kR_55_0, kR_57_0, kR_59_0, kR_59_1, kR_60_0, kR_60_1, kR_64_0, kR_64_1, kR_65_0, kR_65_1, kR_69_0, kR_69_1, kR_70_0, kR_70_1, kR_74_0, kR_74_1, kR_74_2, kR_74_3, kR_74_4, kR_74_5, kR_74_6, kR_74_7, kR_74_8, kR_74_9, kR_74_13, kR_74_17, kR_74_24, kR_74_25, kR_74_26, kR_74_27, kR_74_28, kR_74_34, kR_74_35, kR_74_36, kL_1_11, kL_1_12, kL_74_15, kL_74_16, kK_39_1, kK_41_1, kK_43_1, kK_45_1, kK_47_1, kK_49_1, kK_51_1, kK_53_1, kK_55_1, kK_57_1, kA_6, kA_7, kA_8, kA_9, kA_12, kA_13, kA_14, kA_15, kA_18, kA_19, kA_20, kA_23, kA_24, kA_25, kA_27, kA_28, kA_30, kA_31, kA_33, kA_34, kA_36, kA_37, kA_38, kA_40, kA_42, kA_44, kA_46, kA_48, kA_50, kA_52, kA_54, kA_56, kA_58, kA_61, kA_62, kA_63, kA_66, kA_67, kA_68, kA_71, kA_72, kA_73, kA_75, kA_76, kA_77, kA_78, kA_79, kA_80, kA_81, kA_82, kA_83, kA_84, kA_85, kA_86, kA_87, kA_88, kA_89, kA_90, kA_91, kA_92, kA_93, kA_94, kQ_2, kQ_3, kQ_4, kQ_22, kC_1, kC_5, kC_10, kC_11, kC_16, kC_17, kC_21, kC_26, kC_29, kC_32, kC_35, kC_39, kC_41, kC_43, kC_45, kC_47, kC_49, kC_51, kC_53, kC_55, kC_57, kC_59, kC_60, kC_64, kC_65, kC_69, kC_70, kC_74, hm, c1, cx, nI_clamp (show k < 2 ^ 31 by omega), nI_p1, r1]
  have ne2 : ¬ (2 : Int32) = 0 := by decide
  have m2 : nI m % 2 = nI (m % 2) := nI_mod (b := 2) (by omega) (by omega)
  obtain ⟨D1, a1, a2, a3⟩ := lp (jn (fun (e3 : Int32) (e4 : Int32) => ifB (decide (e3 ≤ 0)) (pureM e4) (pureM ((-1)))) fun k5 => P_X8_layWay_42 k5 74 4000 (nI c) (nI (m % 2)) 0 0) (nI c) (nI (m % 2)) 0 4000 0 D (by omega) (by omega) hF.1 (fun j hj => by omega)
  rw [nI_0] at a1
  obtain ⟨D2, b1, b2, b3⟩ := m_lw_loop (B := B) hm6 (fun (e3 : Int32) (e4 : Int32) => ifB (decide (e3 ≤ 0)) (pureM e4) (pureM ((-1)))) m 4000 0 c (m % 2) (fun _ => -2) [] D1 (by omega) (by omega) hc (by omega) (T92_f hF a3) (MH_of hX (a3.2 79 (by unfold T92; omega))) a2
  rw [nI_0, show psS q H [] = 0 from rfl] at b1 b2
  have e1 : P_X8_layWay 74 (nI c) (hp B D) = P_X8_layWay_42 (fun (e3 : Int32) (e4 : Int32) => ifB (decide (e3 ≤ 0)) (pureM e4) (pureM ((-1)))) 74 4000 (nI c) (nI (m % 2)) 0 0 (hp B D1) := by
    unfold P_X8_layWay
    rw [getI_hp D 8 10 74 _ kI_74_10, remI_hp _ _ _ ne2, jn_hp, hF.1, m2, a1, jn_hp]
  rw [e1]
  refine ⟨D2, fun w ps h => ?_, fun h => ?_, a3.trans b3⟩
  · obtain ⟨z1, z2, z3⟩ := b1 0 w ps h
    rw [z1]
    refine ⟨?_, z3⟩
    rw [ifB_hp, if_pos (show nI 0 ≤ 0 by decide), pureM_hp]
  · cases e : wyF m c with
    | none => exact b2 e
    | some v =>
      obtain ⟨l', w, ps⟩ := v
      obtain ⟨z1, z2, z3⟩ := b1 l' w ps e
      have hl : l' ≠ 0 := fun z => h w ps (by rw [e, z])
      rw [z1, ifB_hp, if_neg (show ¬ nI l' ≤ (0 : Int32) from nI_ge (b := l') (a := 0) (by omega) (by omega)), pureM_hp]
def ahF (w v : Nat → Int32) : Nat → Nat → Bool
  | 0, _ => false
  | t + 1, k => if w k = v k then ahF w v t (k + 1) else decide (w k < v k)
theorem ahF_L (w v : Nat → Int32) : ∀ t k, ahL (lst (fun j => w (k + j)) t) (lst (fun j => v (k + j)) t) = ahF w v t k := by
  intro t
  induction t with
  | zero => intro k; rfl
  | succ t ih =>
    intro k
    have e : ∀ u : Nat → Int32, lst (fun j => u (k + j)) (t + 1) = u k :: lst (fun j => u (k + 1 + j)) t := fun u => by
      rw [Nat.add_comm t 1, lst_add]
      show [u (k + 0)] ++ _ = _
      rw [lst_eq (h' := fun j => u (k + 1 + j)) t (fun j _ => by rw [Nat.add_assoc])]
      rfl
    rw [e, e]
    show (if w k = v k then _ else _) = (if w k = v k then _ else _)
    rw [ih]
theorem m_isAhead {D : DT} {m : Nat} {w v : Nat → Int32} (hm6 : m ≤ 6) (hm : fI D 74 10 = nI m) (hw : ∀ k, k < m → fG D 92 k = w k) (hv : ∀ k, k < m → fG D 93 k = v k) : P_X8_isAhead 74 (hp B D) = some (b2i (ahL (lst w m) (lst v m)), hp B D) := by
  have lp : ∀ (t F k : Nat), k + t = m → t < F → P_X8_isAhead_2 (fun (e1 : Int32) => getI 8 10 74 fun v2 => jn (retZ 0) fun k3 => ifB (decide (v2 ≤ e1)) (k3) (getR 8 34 74 fun v4 => ald v4 e1 fun v5 => getR 8 35 74 fun v6 => ald v6 e1 fun v7 => ifB (decide (v7 ≤ v5)) (k3) (retZ 1))) 74 F (nI k) (hp B D) = some (b2i (ahF w v t k), hp B D) := by
    intro t
    induction t with
    | zero =>
      intro F k h1 h2
      cases F with
      | zero => omega
      | succ F =>
        have c1 : nI m ≤ nI k := nI_le (by omega) (by omega)
        simp only [P_X8_isAhead_2, pureM_hp, ifB_t, ifB_f, decide_true, decide_false, ifB_hp, jn_hp, retZ_0, retZ_1, thn_some, cll0_w, cllV_w, getI_w, getL_w, getR_w, setI_w, setZ_w0, setZ_w1, setL_w, ald_w, ast_w, alen_w, aldR_2, aldR_3, aldR_4, aldR_22, cll0_pure, ↓reduceIte, if_true, if_false, Bool.false_eq_true, reduceCtorEq, and_true, true_and, and_false, false_and, ite_self, kI_1_9, kI_1_10, kI_5_4, kI_5_5, kI_5_6, kI_10_1, kI_11_4, kI_11_5, kI_11_6, kI_16_2, kI_16_3, kI_16_4, kI_16_5, kI_16_6, kI_17_2, kI_17_3, kI_21_4, kI_21_5, kI_21_6, kI_21_7, kI_21_8, kI_21_9, kI_21_10, kI_21_11, kI_26_2, kI_26_3, kI_29_2, kI_29_3, kI_32_2, kI_32_3, kI_35_2, kI_39_2, kI_39_3, kI_41_2, kI_41_3, kI_43_2, kI_43_3, kI_45_2, kI_45_3, kI_47_2, kI_47_3, kI_49_2, kI_49_3, kI_51_2, kI_51_3, kI_53_2, kI_53_3, kI_55_2, kI_55_3, kI_57_2, kI_57_3, kI_59_2, kI_59_3, kI_59_4, kI_59_5, kI_59_6, kI_60_2, kI_60_3, kI_64_2, kI_64_3, kI_64_4, kI_64_5, kI_64_6, kI_65_2, kI_65_3, kI_69_2, kI_69_3, kI_69_4, kI_69_5, kI_69_6, kI_70_2, kI_70_3, kI_74_10, kI_74_11, kI_74_12, kI_74_14, kI_74_18, kI_74_19, kI_74_20, kI_74_21, kI_74_22, kI_74_23, kI_74_29, kI_74_30, kI_74_31, kI_74_32, kI_74_33, kR_1_0, kR_1_1, kR_1_2, kR_1_3, kR_1_4, kR_1_5, kR_1_6, kR_1_7, kR_1_8, kR_5_0, kR_5_1, kR_5_2, kR_5_3, kR_10_0, kR_11_0, kR_11_1, kR_11_2, kR_11_3, kR_16_0, kR_16_1, kR_17_0, kR_17_1, kR_21_0, kR_21_1, kR_21_2, kR_21_3, kR_26_0, kR_26_1, kR_29_0, kR_29_1, kR_32_0, kR_32_1, kR_35_0, kR_35_1, kR_39_0, kR_41_0, kR_43_0, kR_45_0, kR_47_0, kR_49_0, kR_51_0, kR_53_0, kR_55_0, kR_57_0, kR_59_0, kR_59_1, kR_60_0, kR_60_1, kR_64_0, kR_64_1, kR_65_0, kR_65_1, kR_69_0, kR_69_1, kR_70_0, kR_70_1, kR_74_0, kR_74_1, kR_74_2, kR_74_3, kR_74_4, kR_74_5, kR_74_6, kR_74_7, kR_74_8, kR_74_9, kR_74_13, kR_74_17, kR_74_24, kR_74_25, kR_74_26, kR_74_27, kR_74_28, kR_74_34, kR_74_35, kR_74_36, kL_1_11, kL_1_12, kL_74_15, kL_74_16, kK_39_1, kK_41_1, kK_43_1, kK_45_1, kK_47_1, kK_49_1, kK_51_1, kK_53_1, kK_55_1, kK_57_1, kA_6, kA_7, kA_8, kA_9, kA_12, kA_13, kA_14, kA_15, kA_18, kA_19, kA_20, kA_23, kA_24, kA_25, kA_27, kA_28, kA_30, kA_31, kA_33, kA_34, kA_36, kA_37, kA_38, kA_40, kA_42, kA_44, kA_46, kA_48, kA_50, kA_52, kA_54, kA_56, kA_58, kA_61, kA_62, kA_63, kA_66, kA_67, kA_68, kA_71, kA_72, kA_73, kA_75, kA_76, kA_77, kA_78, kA_79, kA_80, kA_81, kA_82, kA_83, kA_84, kA_85, kA_86, kA_87, kA_88, kA_89, kA_90, kA_91, kA_92, kA_93, kA_94, kQ_2, kQ_3, kQ_4, kQ_22, kC_1, kC_5, kC_10, kC_11, kC_16, kC_17, kC_21, kC_26, kC_29, kC_32, kC_35, kC_39, kC_41, kC_43, kC_45, kC_47, kC_49, kC_51, kC_53, kC_55, kC_57, kC_59, kC_60, kC_64, kC_65, kC_69, kC_70, kC_74, hm, c1]
        rfl
    | succ t ih =>
      intro F k h1 h2
      cases F with
      | zero => omega
      | succ F =>
        have c1 : ¬ nI m ≤ nI k := nI_ge (by omega) (by omega)
        have cx : 0 ≤ (nI k).toInt ∧ (nI k).toInt < ((6 : Nat) : Int) := ixc (by omega) (by omega)
        have clk := nI_clamp (show k < 2 ^ 31 by omega)
        have i1 := ih F (k + 1) (by omega) (by omega)
        have gw := hw k (by omega)
        have gv := hv k (by omega)
        rw [show ahF w v (t + 1) k = if w k = v k then ahF w v t (k + 1) else decide (w k < v k) from rfl]
        by_cases e : w k = v k
        · rw [if_pos e]
          simp only [P_X8_isAhead_2, ifB_hp, getI_w, getR_w, ald_w, ↓reduceIte, if_true, if_false, Bool.false_eq_true, reduceCtorEq, and_true, true_and, and_false, false_and, ite_self, kI_1_9, kI_1_10, kI_5_4, kI_5_5, kI_5_6, kI_10_1, kI_11_4, kI_11_5, kI_11_6, kI_16_2, kI_16_3, kI_16_4, kI_16_5, kI_16_6, kI_17_2, kI_17_3, kI_21_4, kI_21_5, kI_21_6, kI_21_7, kI_21_8, kI_21_9, kI_21_10, kI_21_11, kI_26_2, kI_26_3, kI_29_2, kI_29_3, kI_32_2, kI_32_3, kI_35_2, kI_39_2, kI_39_3, kI_41_2, kI_41_3, kI_43_2, kI_43_3, kI_45_2, kI_45_3, kI_47_2, kI_47_3, kI_49_2, kI_49_3, kI_51_2, kI_51_3, kI_53_2, kI_53_3, kI_55_2, kI_55_3, kI_57_2, kI_57_3, kI_59_2, kI_59_3, kI_59_4, kI_59_5, kI_59_6, kI_60_2, kI_60_3, kI_64_2, kI_64_3, kI_64_4, kI_64_5, kI_64_6, kI_65_2, kI_65_3, kI_69_2, kI_69_3, kI_69_4, kI_69_5, kI_69_6, kI_70_2, kI_70_3, kI_74_10, kI_74_11, kI_74_12, kI_74_14, kI_74_18, kI_74_19, kI_74_20, kI_74_21, kI_74_22, kI_74_23, kI_74_29, kI_74_30, kI_74_31, kI_74_32, kI_74_33, kR_1_0, kR_1_1, kR_1_2, kR_1_3, kR_1_4, kR_1_5, kR_1_6, kR_1_7, kR_1_8, kR_5_0, kR_5_1, kR_5_2, kR_5_3, kR_10_0, kR_11_0, kR_11_1, kR_11_2, kR_11_3, kR_16_0, kR_16_1, kR_17_0, kR_17_1, kR_21_0, kR_21_1, kR_21_2, kR_21_3, kR_26_0, kR_26_1, kR_29_0, kR_29_1, kR_32_0, kR_32_1, kR_35_0, kR_35_1, kR_39_0, kR_41_0, kR_43_0, kR_45_0, kR_47_0, kR_49_0, kR_51_0, kR_53_0, kR_55_0, kR_57_0, kR_59_0, kR_59_1, kR_60_0, kR_60_1, kR_64_0, kR_64_1, kR_65_0, kR_65_1, kR_69_0, kR_69_1, kR_70_0, kR_70_1, kR_74_0, kR_74_1, kR_74_2, kR_74_3, kR_74_4, kR_74_5, kR_74_6, kR_74_7, kR_74_8, kR_74_9, kR_74_13, kR_74_17, kR_74_24, kR_74_25, kR_74_26, kR_74_27, kR_74_28, kR_74_34, kR_74_35, kR_74_36, kL_1_11, kL_1_12, kL_74_15, kL_74_16, kK_39_1, kK_41_1, kK_43_1, kK_45_1, kK_47_1, kK_49_1, kK_51_1, kK_53_1, kK_55_1, kK_57_1, kA_6, kA_7, kA_8, kA_9, kA_12, kA_13, kA_14, kA_15, kA_18, kA_19, kA_20, kA_23, kA_24, kA_25, kA_27, kA_28, kA_30, kA_31, kA_33, kA_34, kA_36, kA_37, kA_38, kA_40, kA_42, kA_44, kA_46, kA_48, kA_50, kA_52, kA_54, kA_56, kA_58, kA_61, kA_62, kA_63, kA_66, kA_67, kA_68, kA_71, kA_72, kA_73, kA_75, kA_76, kA_77, kA_78, kA_79, kA_80, kA_81, kA_82, kA_83, kA_84, kA_85, kA_86, kA_87, kA_88, kA_89, kA_90, kA_91, kA_92, kA_93, kA_94, kQ_2, kQ_3, kQ_4, kQ_22, kC_1, kC_5, kC_10, kC_11, kC_16, kC_17, kC_21, kC_26, kC_29, kC_32, kC_35, kC_39, kC_41, kC_43, kC_45, kC_47, kC_49, kC_51, kC_53, kC_55, kC_57, kC_59, kC_60, kC_64, kC_65, kC_69, kC_70, kC_74, hm, c1, cx, clk, gw, gv, e, not_true_eq_false, nI_p1]
          exact i1
        · rw [if_neg e]
          by_cases hlt : w k < v k
          · have c2 : ¬ v k ≤ w k := Int32.not_le.mpr hlt
            simp only [P_X8_isAhead_2, pureM_hp, ifB_t, ifB_f, decide_true, decide_false, ifB_hp, jn_hp, retZ_0, retZ_1, thn_some, cll0_w, cllV_w, getI_w, getL_w, getR_w, setI_w, setZ_w0, setZ_w1, setL_w, ald_w, ast_w, alen_w, aldR_2, aldR_3, aldR_4, aldR_22, cll0_pure, ↓reduceIte, if_true, if_false, Bool.false_eq_true, reduceCtorEq, and_true, true_and, and_false, false_and, ite_self, kI_1_9, kI_1_10, kI_5_4, kI_5_5, kI_5_6, kI_10_1, kI_11_4, kI_11_5, kI_11_6, kI_16_2, kI_16_3, kI_16_4, kI_16_5, kI_16_6, kI_17_2, kI_17_3, kI_21_4, kI_21_5, kI_21_6, kI_21_7, kI_21_8, kI_21_9, kI_21_10, kI_21_11, kI_26_2, kI_26_3, kI_29_2, kI_29_3, kI_32_2, kI_32_3, kI_35_2, kI_39_2, kI_39_3, kI_41_2, kI_41_3, kI_43_2, kI_43_3, kI_45_2, kI_45_3, kI_47_2, kI_47_3, kI_49_2, kI_49_3, kI_51_2, kI_51_3, kI_53_2, kI_53_3, kI_55_2, kI_55_3, kI_57_2, kI_57_3, kI_59_2, kI_59_3, kI_59_4, kI_59_5, kI_59_6, kI_60_2, kI_60_3, kI_64_2, kI_64_3, kI_64_4, kI_64_5, kI_64_6, kI_65_2, kI_65_3, kI_69_2, kI_69_3, kI_69_4, kI_69_5, kI_69_6, kI_70_2, kI_70_3, kI_74_10, kI_74_11, kI_74_12, kI_74_14, kI_74_18, kI_74_19, kI_74_20, kI_74_21, kI_74_22, kI_74_23, kI_74_29, kI_74_30, kI_74_31, kI_74_32, kI_74_33, kR_1_0, kR_1_1, kR_1_2, kR_1_3, kR_1_4, kR_1_5, kR_1_6, kR_1_7, kR_1_8, kR_5_0, kR_5_1, kR_5_2, kR_5_3, kR_10_0, kR_11_0, kR_11_1, kR_11_2, kR_11_3, kR_16_0, kR_16_1, kR_17_0, kR_17_1, kR_21_0, kR_21_1, kR_21_2, kR_21_3, kR_26_0, kR_26_1, kR_29_0, kR_29_1, kR_32_0, kR_32_1, kR_35_0, kR_35_1, kR_39_0, kR_41_0, kR_43_0, kR_45_0, kR_47_0, kR_49_0, kR_51_0, kR_53_0, kR_55_0, kR_57_0, kR_59_0, kR_59_1, kR_60_0, kR_60_1, kR_64_0, kR_64_1, kR_65_0, kR_65_1, kR_69_0, kR_69_1, kR_70_0, kR_70_1, kR_74_0, kR_74_1, kR_74_2, kR_74_3, kR_74_4, kR_74_5, kR_74_6, kR_74_7, kR_74_8, kR_74_9, kR_74_13, kR_74_17, kR_74_24, kR_74_25, kR_74_26, kR_74_27, kR_74_28, kR_74_34, kR_74_35, kR_74_36, kL_1_11, kL_1_12, kL_74_15, kL_74_16, kK_39_1, kK_41_1, kK_43_1, kK_45_1, kK_47_1, kK_49_1, kK_51_1, kK_53_1, kK_55_1, kK_57_1, kA_6, kA_7, kA_8, kA_9, kA_12, kA_13, kA_14, kA_15, kA_18, kA_19, kA_20, kA_23, kA_24, kA_25, kA_27, kA_28, kA_30, kA_31, kA_33, kA_34, kA_36, kA_37, kA_38, kA_40, kA_42, kA_44, kA_46, kA_48, kA_50, kA_52, kA_54, kA_56, kA_58, kA_61, kA_62, kA_63, kA_66, kA_67, kA_68, kA_71, kA_72, kA_73, kA_75, kA_76, kA_77, kA_78, kA_79, kA_80, kA_81, kA_82, kA_83, kA_84, kA_85, kA_86, kA_87, kA_88, kA_89, kA_90, kA_91, kA_92, kA_93, kA_94, kQ_2, kQ_3, kQ_4, kQ_22, kC_1, kC_5, kC_10, kC_11, kC_16, kC_17, kC_21, kC_26, kC_29, kC_32, kC_35, kC_39, kC_41, kC_43, kC_45, kC_47, kC_49, kC_51, kC_53, kC_55, kC_57, kC_59, kC_60, kC_64, kC_65, kC_69, kC_70, kC_74, hm, c1, cx, clk, gw, gv, e, not_false_eq_true, c2, hlt, b2i_t]
          · have c2 : v k ≤ w k := Int32.not_lt.mp hlt
            simp only [P_X8_isAhead_2, pureM_hp, ifB_t, ifB_f, decide_true, decide_false, ifB_hp, jn_hp, retZ_0, retZ_1, thn_some, cll0_w, cllV_w, getI_w, getL_w, getR_w, setI_w, setZ_w0, setZ_w1, setL_w, ald_w, ast_w, alen_w, aldR_2, aldR_3, aldR_4, aldR_22, cll0_pure, ↓reduceIte, if_true, if_false, Bool.false_eq_true, reduceCtorEq, and_true, true_and, and_false, false_and, ite_self, kI_1_9, kI_1_10, kI_5_4, kI_5_5, kI_5_6, kI_10_1, kI_11_4, kI_11_5, kI_11_6, kI_16_2, kI_16_3, kI_16_4, kI_16_5, kI_16_6, kI_17_2, kI_17_3, kI_21_4, kI_21_5, kI_21_6, kI_21_7, kI_21_8, kI_21_9, kI_21_10, kI_21_11, kI_26_2, kI_26_3, kI_29_2, kI_29_3, kI_32_2, kI_32_3, kI_35_2, kI_39_2, kI_39_3, kI_41_2, kI_41_3, kI_43_2, kI_43_3, kI_45_2, kI_45_3, kI_47_2, kI_47_3, kI_49_2, kI_49_3, kI_51_2, kI_51_3, kI_53_2, kI_53_3, kI_55_2, kI_55_3, kI_57_2, kI_57_3, kI_59_2, kI_59_3, kI_59_4, kI_59_5, kI_59_6, kI_60_2, kI_60_3, kI_64_2, kI_64_3, kI_64_4, kI_64_5, kI_64_6, kI_65_2, kI_65_3, kI_69_2, kI_69_3, kI_69_4, kI_69_5, kI_69_6, kI_70_2, kI_70_3, kI_74_10, kI_74_11, kI_74_12, kI_74_14, kI_74_18, kI_74_19, kI_74_20, kI_74_21, kI_74_22, kI_74_23, kI_74_29, kI_74_30, kI_74_31, kI_74_32, kI_74_33, kR_1_0, kR_1_1, kR_1_2, kR_1_3, kR_1_4, kR_1_5, kR_1_6, kR_1_7, kR_1_8, kR_5_0, kR_5_1, kR_5_2, kR_5_3, kR_10_0, kR_11_0, kR_11_1, kR_11_2, kR_11_3, kR_16_0, kR_16_1, kR_17_0, kR_17_1, kR_21_0, kR_21_1, kR_21_2, kR_21_3, kR_26_0, kR_26_1, kR_29_0, kR_29_1, kR_32_0, kR_32_1, kR_35_0, kR_35_1, kR_39_0, kR_41_0, kR_43_0, kR_45_0, kR_47_0, kR_49_0, kR_51_0, kR_53_0, kR_55_0, kR_57_0, kR_59_0, kR_59_1, kR_60_0, kR_60_1, kR_64_0, kR_64_1, kR_65_0, kR_65_1, kR_69_0, kR_69_1, kR_70_0, kR_70_1, kR_74_0, kR_74_1, kR_74_2, kR_74_3, kR_74_4, kR_74_5, kR_74_6, kR_74_7, kR_74_8, kR_74_9, kR_74_13, kR_74_17, kR_74_24, kR_74_25, kR_74_26, kR_74_27, kR_74_28, kR_74_34, kR_74_35, kR_74_36, kL_1_11, kL_1_12, kL_74_15, kL_74_16, kK_39_1, kK_41_1, kK_43_1, kK_45_1, kK_47_1, kK_49_1, kK_51_1, kK_53_1, kK_55_1, kK_57_1, kA_6, kA_7, kA_8, kA_9, kA_12, kA_13, kA_14, kA_15, kA_18, kA_19, kA_20, kA_23, kA_24, kA_25, kA_27, kA_28, kA_30, kA_31, kA_33, kA_34, kA_36, kA_37, kA_38, kA_40, kA_42, kA_44, kA_46, kA_48, kA_50, kA_52, kA_54, kA_56, kA_58, kA_61, kA_62, kA_63, kA_66, kA_67, kA_68, kA_71, kA_72, kA_73, kA_75, kA_76, kA_77, kA_78, kA_79, kA_80, kA_81, kA_82, kA_83, kA_84, kA_85, kA_86, kA_87, kA_88, kA_89, kA_90, kA_91, kA_92, kA_93, kA_94, kQ_2, kQ_3, kQ_4, kQ_22, kC_1, kC_5, kC_10, kC_11, kC_16, kC_17, kC_21, kC_26, kC_29, kC_32, kC_35, kC_39, kC_41, kC_43, kC_45, kC_47, kC_49, kC_51, kC_53, kC_55, kC_57, kC_59, kC_60, kC_64, kC_65, kC_69, kC_70, kC_74, hm, c1, cx, clk, gw, gv, e, not_false_eq_true, c2, hlt, b2i_f]
  have t := lp m 4000 0 (by omega) (by omega)
  rw [nI_0, ← ahF_L] at t
  simp only [Nat.zero_add] at t
  unfold P_X8_isAhead
  rw [jn_hp]
  exact t
def T93 : Nat → Nat → Prop := fun a k => (a = 92 ∨ a = 93) ∧ k = 63
theorem m_cp_loop {m : Nat} (hm6 : m ≤ 6) (K : Int32 → PM Int32) (p1 p2 p3 p4 : Int32) : ∀ (F k : Nat) (D : DT), k ≤ m → m - k < F → fI D 74 10 = nI m → (∀ j, j < k → fG D 93 j = fG D 92 j) → ∃ D', P_X8_pairs_99 K 74 p1 p2 p3 p4 F (nI k) (hp B D) = K p3 (hp B D') ∧ (∀ j, j < m → fG D' 93 j = fG D 92 j) ∧ Off (fun a k => a = 93 ∧ k = 63) D D' := by
  intro F
  induction F with
  | zero => intro k D h1 h2; omega
  | succ F ih =>
    intro k D h1 h2 hm hg
    by_cases e : k = m
    · have c1 : nI m ≤ nI k := by rw [e]; exact nI_le (Nat.le_refl _) (by omega)
      refine ⟨D, ?_, fun j hj => hg j (by omega), Off.refl D⟩
      simp only [P_X8_pairs_99, pureM_hp, ifB_t, ifB_f, decide_true, decide_false, ifB_hp, jn_hp, retZ_0, retZ_1, thn_some, cll0_w, cllV_w, getI_w, getL_w, getR_w, setI_w, setZ_w0, setZ_w1, setL_w, ald_w, ast_w, alen_w, aldR_2, aldR_3, aldR_4, aldR_22, cll0_pure, ↓reduceIte, if_true, if_false, Bool.false_eq_true, reduceCtorEq, and_true, true_and, and_false, false_and, ite_self, kI_1_9, kI_1_10, kI_5_4, kI_5_5, kI_5_6, kI_10_1, kI_11_4, kI_11_5, kI_11_6, kI_16_2, kI_16_3, kI_16_4, kI_16_5, kI_16_6, kI_17_2, kI_17_3, kI_21_4, kI_21_5, kI_21_6, kI_21_7, kI_21_8, kI_21_9, kI_21_10, kI_21_11, kI_26_2, kI_26_3, kI_29_2, kI_29_3, kI_32_2, kI_32_3, kI_35_2, kI_39_2, kI_39_3, kI_41_2, kI_41_3, kI_43_2, kI_43_3, kI_45_2, kI_45_3, kI_47_2, kI_47_3, kI_49_2, kI_49_3, kI_51_2, kI_51_3, kI_53_2, kI_53_3, kI_55_2, kI_55_3, kI_57_2, kI_57_3, kI_59_2, kI_59_3, kI_59_4, kI_59_5, kI_59_6, kI_60_2, kI_60_3, kI_64_2, kI_64_3, kI_64_4, kI_64_5, kI_64_6, kI_65_2, kI_65_3, kI_69_2, kI_69_3, kI_69_4, kI_69_5, kI_69_6, kI_70_2, kI_70_3, kI_74_10, kI_74_11, kI_74_12, kI_74_14, kI_74_18, kI_74_19, kI_74_20, kI_74_21, kI_74_22, kI_74_23, kI_74_29, kI_74_30, kI_74_31, kI_74_32, kI_74_33, kR_1_0, kR_1_1, kR_1_2, kR_1_3, kR_1_4, kR_1_5, kR_1_6, kR_1_7, kR_1_8, kR_5_0, kR_5_1, kR_5_2, kR_5_3, kR_10_0, kR_11_0, kR_11_1, kR_11_2, kR_11_3, kR_16_0, kR_16_1, kR_17_0, kR_17_1, kR_21_0, kR_21_1, kR_21_2, kR_21_3, kR_26_0, kR_26_1, kR_29_0, kR_29_1, kR_32_0, kR_32_1, kR_35_0, kR_35_1, kR_39_0, kR_41_0, kR_43_0, kR_45_0, kR_47_0, kR_49_0, kR_51_0, kR_53_0, kR_55_0, kR_57_0, kR_59_0, kR_59_1, kR_60_0, kR_60_1, kR_64_0, kR_64_1, kR_65_0, kR_65_1, kR_69_0, kR_69_1, kR_70_0, kR_70_1, kR_74_0, kR_74_1, kR_74_2, kR_74_3, kR_74_4, kR_74_5, kR_74_6, kR_74_7, kR_74_8, kR_74_9, kR_74_13, kR_74_17, kR_74_24, kR_74_25, kR_74_26, kR_74_27, kR_74_28, kR_74_34, kR_74_35, kR_74_36, kL_1_11, kL_1_12, kL_74_15, kL_74_16, kK_39_1, kK_41_1, kK_43_1, kK_45_1, kK_47_1, kK_49_1, kK_51_1, kK_53_1, kK_55_1, kK_57_1, kA_6, kA_7, kA_8, kA_9, kA_12, kA_13, kA_14, kA_15, kA_18, kA_19, kA_20, kA_23, kA_24, kA_25, kA_27, kA_28, kA_30, kA_31, kA_33, kA_34, kA_36, kA_37, kA_38, kA_40, kA_42, kA_44, kA_46, kA_48, kA_50, kA_52, kA_54, kA_56, kA_58, kA_61, kA_62, kA_63, kA_66, kA_67, kA_68, kA_71, kA_72, kA_73, kA_75, kA_76, kA_77, kA_78, kA_79, kA_80, kA_81, kA_82, kA_83, kA_84, kA_85, kA_86, kA_87, kA_88, kA_89, kA_90, kA_91, kA_92, kA_93, kA_94, kQ_2, kQ_3, kQ_4, kQ_22, kC_1, kC_5, kC_10, kC_11, kC_16, kC_17, kC_21, kC_26, kC_29, kC_32, kC_35, kC_39, kC_41, kC_43, kC_45, kC_47, kC_49, kC_51, kC_53, kC_55, kC_57, kC_59, kC_60, kC_64, kC_65, kC_69, kC_70, kC_74, hm, c1]
    · have c1 : ¬ nI m ≤ nI k := nI_ge (by omega) (by omega)
      have cx : 0 ≤ (nI k).toInt ∧ (nI k).toInt < ((6 : Nat) : Int) := ixc (by omega) (by omega)
      have o1 : Off (fun a k => a = 93 ∧ k = 63) D (uG D 93 (upd (fG D 93) k (fG D 92 k))) := (Off.refl D).uG 93 _ ⟨rfl, rfl⟩
      have e92 : fG (uG D 93 (upd (fG D 93) k (fG D 92 k))) 92 = fG D 92 := by rw [fG_uG, if_neg (by omega)]
      obtain ⟨D', r1, r2, r3⟩ := ih (k + 1) (uG D 93 (upd (fG D 93) k (fG D 92 k))) (by omega) (by omega) (by rw [fI_uG]; exact hm) (fun j hj => by
        rw [e92, fG_uG, if_pos rfl]
        unfold upd
        by_cases ej : j = k
        · rw [if_pos ej, ej]
        · rw [if_neg ej]; exact hg j (by omega))
      rw [e92] at r2
      refine ⟨D', ?_, r2, o1.trans r3⟩
      simp only [P_X8_pairs_99, pureM_hp, ifB_t, ifB_f, decide_true, decide_false, ifB_hp, jn_hp, retZ_0, retZ_1, thn_some, cll0_w, cllV_w, getI_w, getL_w, getR_w, setI_w, setZ_w0, setZ_w1, setL_w, ald_w, ast_w, alen_w, aldR_2, aldR_3, aldR_4, aldR_22, cll0_pure, ↓reduceIte, if_true, if_false, Bool.false_eq_true, reduceCtorEq, and_true, true_and, and_false, false_and, ite_self, kI_1_9, kI_1_10, kI_5_4, kI_5_5, kI_5_6, kI_10_1, kI_11_4, kI_11_5, kI_11_6, kI_16_2, kI_16_3, kI_16_4, kI_16_5, kI_16_6, kI_17_2, kI_17_3, kI_21_4, kI_21_5, kI_21_6, kI_21_7, kI_21_8, kI_21_9, kI_21_10, kI_21_11, kI_26_2, kI_26_3, kI_29_2, kI_29_3, kI_32_2, kI_32_3, kI_35_2, kI_39_2, kI_39_3, kI_41_2, kI_41_3, kI_43_2, kI_43_3, kI_45_2, kI_45_3, kI_47_2, kI_47_3, kI_49_2, kI_49_3, kI_51_2, kI_51_3, kI_53_2, kI_53_3, kI_55_2, kI_55_3, kI_57_2, kI_57_3, kI_59_2, kI_59_3, kI_59_4, kI_59_5, kI_59_6, kI_60_2, kI_60_3, kI_64_2, kI_64_3, kI_64_4, kI_64_5, kI_64_6, kI_65_2, kI_65_3, kI_69_2, kI_69_3, kI_69_4, kI_69_5, kI_69_6, kI_70_2, kI_70_3, kI_74_10, kI_74_11, kI_74_12, kI_74_14, kI_74_18, kI_74_19, kI_74_20, kI_74_21, kI_74_22, kI_74_23, kI_74_29, kI_74_30, kI_74_31, kI_74_32, kI_74_33, kR_1_0, kR_1_1, kR_1_2, kR_1_3, kR_1_4, kR_1_5, kR_1_6, kR_1_7, kR_1_8, kR_5_0, kR_5_1, kR_5_2, kR_5_3, kR_10_0, kR_11_0, kR_11_1, kR_11_2, kR_11_3, kR_16_0, kR_16_1, kR_17_0, kR_17_1, kR_21_0, kR_21_1, kR_21_2, kR_21_3, kR_26_0, kR_26_1, kR_29_0, kR_29_1, kR_32_0, kR_32_1, kR_35_0, kR_35_1, kR_39_0, kR_41_0, kR_43_0, kR_45_0, kR_47_0, kR_49_0, kR_51_0, kR_53_0, kR_55_0, kR_57_0, kR_59_0, kR_59_1, kR_60_0, kR_60_1, kR_64_0, kR_64_1, kR_65_0, kR_65_1, kR_69_0, kR_69_1, kR_70_0, kR_70_1, kR_74_0, kR_74_1, kR_74_2, kR_74_3, kR_74_4, kR_74_5, kR_74_6, kR_74_7, kR_74_8, kR_74_9, kR_74_13, kR_74_17, kR_74_24, kR_74_25, kR_74_26, kR_74_27, kR_74_28, kR_74_34, kR_74_35, kR_74_36, kL_1_11, kL_1_12, kL_74_15, kL_74_16, kK_39_1, kK_41_1, kK_43_1, kK_45_1, kK_47_1, kK_49_1, kK_51_1, kK_53_1, kK_55_1, kK_57_1, kA_6, kA_7, kA_8, kA_9, kA_12, kA_13, kA_14, kA_15, kA_18, kA_19, kA_20, kA_23, kA_24, kA_25, kA_27, kA_28, kA_30, kA_31, kA_33, kA_34, kA_36, kA_37, kA_38, kA_40, kA_42, kA_44, kA_46, kA_48, kA_50, kA_52, kA_54, kA_56, kA_58, kA_61, kA_62, kA_63, kA_66, kA_67, kA_68, kA_71, kA_72, kA_73, kA_75, kA_76, kA_77, kA_78, kA_79, kA_80, kA_81, kA_82, kA_83, kA_84, kA_85, kA_86, kA_87, kA_88, kA_89, kA_90, kA_91, kA_92, kA_93, kA_94, kQ_2, kQ_3, kQ_4, kQ_22, kC_1, kC_5, kC_10, kC_11, kC_16, kC_17, kC_21, kC_26, kC_29, kC_32, kC_35, kC_39, kC_41, kC_43, kC_45, kC_47, kC_49, kC_51, kC_53, kC_55, kC_57, kC_59, kC_60, kC_64, kC_65, kC_69, kC_70, kC_74, hm, c1, cx, nI_clamp (show k < 2 ^ 31 by omega), nI_p1, r1]
def vld (m c a : Nat) : Prop := ∃ w ps, wyF m c = some (0, w, ps) ∧ lst w m = (TB m).getD a []
theorem vld_s {m c a : Nat} {q : QT} {H : HT} (h2 : 2 ≤ m) (h6 : m ≤ 6) (hc : c < NC m) (ha : a < (TB m).length) {w : Nat → Int32} {ps : List Nat} (hw : wyF m c = some (0, w, ps)) (hl : lst w m = (TB m).getD a []) : psS q H ps = fT q H m a ∧ ∀ k, k < m → w k = pl m a k := by
  obtain ⟨h3, h4⟩ := tbB h2 h6 hc hw
  have hk : ∀ k, k < m → w k = pl m a k := fun k hk => by
    unfold pl
    rw [← hl, lst_get _ 0 _ _ hk]
  refine ⟨?_, hk⟩
  have hvp : ∀ k, k < m → w k = -9 ∨ ∃ j, j < m ∧ w k = nI j := fun k hk' => by
    have h5 := (tbE h2 h6 h3).2 (w k)
    exact h5 (by rw [← lst_get w 0 m k hk']; exact getD_mem 0 _ k (by rw [lst_len]; exact hk'))
  rw [h4, psS_N h6 hvp m (Nat.le_refl _)]
  exact sumP_eq m hk
def Best (q : QT) (H : HT) (m c : Nat) (D : DT) (mo : Int32) : Prop := (mo = -1 ∧ ∀ c', c' < c → ∀ a, a < (TB m).length → ¬ vld m c' a) ∨ ∃ b, b < (TB m).length ∧ mo = fT q H m b ∧ (∀ k, k < m → fG D 93 k = pl m b k) ∧ ∀ c', c' < c → ∀ a, a < (TB m).length → vld m c' a → (fT q H m a).toInt < (fT q H m b).toInt ∨ (fT q H m a = fT q H m b ∧ b ≤ a)
theorem pa_unf {D D1 : DT} {N c F : Nat} {mo v x1 : Int32} (K : Int32 → PM Int32) (c1 : ¬ nI N ≤ nI c) (g1 : P_X8_layWay 74 (nI c) (hp B D) = some (v, hp B D1)) : P_X8_pairs_55 K 74 x1 (nI N) (F + 1) mo (nI c) (hp B D) = ifB (decide (mo < v)) (P_X8_pairs_99 (fun j12 => P_X8_pairs_55 K 74 x1 (nI N) F j12 (nI (c + 1))) 74 x1 (nI N) v (nI c) 4000 0) (ifB (decide (v < 0)) (P_X8_pairs_55 K 74 x1 (nI N) F mo (nI (c + 1))) (ifB (decide (¬ v = mo)) (P_X8_pairs_55 K 74 x1 (nI N) F mo (nI (c + 1))) (cllV 8 74 (P_X8_isAhead 74) fun v19 => ifB (decide (v19 = 0)) (P_X8_pairs_55 K 74 x1 (nI N) F mo (nI (c + 1))) (P_X8_pairs_99 (fun j12 => P_X8_pairs_55 K 74 x1 (nI N) F j12 (nI (c + 1))) 74 x1 (nI N) v (nI c) 4000 0)))) (hp B D1) := by
  rw [P_X8_pairs_55, ifB_hp, if_neg c1, cllV_w, if_pos kC_74, g1, thn_some, jn_hp, jn_hp, nI_p1]
theorem m_pa_loop {m : Nat} {q : QT} {H : HT} (h2 : 2 ≤ m) (h6 : m ≤ 6) (hq : QV m q) (hV : ∀ k, ∃ u, u ≤ 30 ∧ H.2.2 k = nI u) (hN : NC m ≤ 343) (K : Int32 → PM Int32) (x1 : Int32) : ∀ (F c : Nat) (D : DT) (mo : Int32), c ≤ NC m → NC m - c < F → MF D m q → MH D 0 H → Best q H m c D mo → ∃ D' mo', P_X8_pairs_55 K 74 x1 (nI (NC m)) F mo (nI c) (hp B D) = K mo' (hp B D') ∧ Best q H m (NC m) D' mo' ∧ Off T93 D D' := by
  intro F
  have e1 : ((-1 : Int32)).toInt = -1 := rfl
  induction F with
  | zero => intro c D mo k1 k2; omega
  | succ F ih =>
    intro c D mo k1 k2 hF hX hB
    by_cases e : c = NC m
    · have c1 : nI (NC m) ≤ nI c := by rw [e]; exact nI_le (Nat.le_refl _) (by omega)
      refine ⟨D, mo, ?_, by rw [← e]; exact hB, Off.refl D⟩
      simp only [P_X8_pairs_55, pureM_hp, ifB_t, ifB_f, decide_true, decide_false, ifB_hp, jn_hp, retZ_0, retZ_1, thn_some, cll0_w, cllV_w, getI_w, getL_w, getR_w, setI_w, setZ_w0, setZ_w1, setL_w, ald_w, ast_w, alen_w, aldR_2, aldR_3, aldR_4, aldR_22, cll0_pure, ↓reduceIte, if_true, if_false, Bool.false_eq_true, reduceCtorEq, and_true, true_and, and_false, false_and, ite_self, c1]
    · have c1 : ¬ nI (NC m) ≤ nI c := nI_ge (by omega) (by omega)
      have hc : c < NC m := by omega
      obtain ⟨D1, a1, a2, a3⟩ := m_layWay (B := B) (c := c) h6 (by omega) hF hX
      have a3' : Off T93 D D1 := a3.mono (fun a k z => by unfold T92 at z; unfold T93; omega)
      have f1 := T92_f hF a3
      have x1' := MH_of hX (a3.2 79 (by unfold T92; omega))
      have e93 : fG D1 93 = fG D 93 := a3.2 93 (by unfold T92; omega)
      have skip : ∀ mo, Best q H m (c + 1) D1 mo → ∃ D' mo', P_X8_pairs_55 K 74 x1 (nI (NC m)) F mo (nI (c + 1)) (hp B D1) = K mo' (hp B D') ∧ Best q H m (NC m) D' mo' ∧ Off T93 D D' := fun mo hB' => by
        obtain ⟨D', mo', t1, t2, t3⟩ := ih (c + 1) D1 mo (by omega) (by omega) f1 x1' hB'
        exact ⟨D', mo', t1, t2, a3'.trans t3⟩
      have mono : (mo.toInt = -1 ∨ 0 ≤ mo.toInt) := by
        rcases hB with ⟨z, -⟩ | ⟨b, hb, z, -⟩
        · exact Or.inl (by rw [z]; rfl)
        · exact Or.inr (by rw [z]; exact fT_b h2 h6 hq hV hb)
      by_cases hval : ∃ w ps, wyF m c = some (0, w, ps)
      case neg =>
        have hno : ∀ w ps, wyF m c ≠ some (0, w, ps) := fun w ps z => hval ⟨w, ps, z⟩
        have g1 := a2 hno
        have nv : ∀ a, ¬ vld m c a := fun a ⟨w, ps, z, _⟩ => hno w ps z
        obtain ⟨D', mo', t1, t2⟩ := skip mo (by
          rcases hB with ⟨z1, z2⟩ | ⟨b, hb, z1, z2, z3⟩
          · exact Or.inl ⟨z1, fun c' hc' a ha => by
              by_cases ec : c' = c
              · rw [ec]; exact nv a
              · exact z2 c' (by omega) a ha⟩
          · exact Or.inr ⟨b, hb, z1, fun k hk => by rw [e93]; exact z2 k hk, fun c' hc' a ha hv => by
              by_cases ec : c' = c
              · rw [ec] at hv; exact absurd hv (nv a)
              · exact z3 c' (by omega) a ha hv⟩)
        refine ⟨D', mo', ?_, t2⟩
        have c2 : ¬ mo < -1 := by rw [lt_i, e1]; omega
        have c3 : (-1 : Int32) < 0 := by decide
        rw [pa_unf K c1 g1, ifB_hp, if_neg c2, ifB_hp, if_pos c3]
        exact t1
      obtain ⟨w, ps, hw⟩ := hval
      obtain ⟨g1, g2⟩ := a1 w ps hw
      obtain ⟨hmem, -⟩ := tbB h2 h6 hc hw
      obtain ⟨a, ha, hea⟩ := mem_getD [] (TB m) _ hmem
      obtain ⟨hs, hwp⟩ := vld_s (q := q) (H := H) h2 h6 hc ha hw hea.symm
      rw [hs] at g1
      have hfa := fT_b (H := H) h2 h6 hq hV ha
      have uniq : ∀ a', a' < (TB m).length → vld m c a' → a' = a := fun a' ha' ⟨w', ps', z1, z2⟩ => by
        rw [hw] at z1
        cases z1
        exact tb_inj h2 h6 ha' ha (by rw [← z2, hea])
      have c3 : ¬ fT q H m a < 0 := by rw [lt_i, i0]; omega
      have copy : (∀ c', c' < c → ∀ a', a' < (TB m).length → vld m c' a' → (fT q H m a').toInt < (fT q H m a).toInt ∨ (fT q H m a' = fT q H m a ∧ a ≤ a')) → ∃ D' mo', (P_X8_pairs_99 (fun j12 => P_X8_pairs_55 K 74 x1 (nI (NC m)) F j12 (nI (c + 1))) 74 x1 (nI (NC m)) (fT q H m a) (nI c) 4000 0 (hp B D1)) = K mo' (hp B D') ∧ Best q H m (NC m) D' mo' ∧ Off T93 D D' := by
        intro hall
        obtain ⟨D2, b1, b2, b3⟩ := m_cp_loop (B := B) h6 (fun j12 => P_X8_pairs_55 K 74 x1 (nI (NC m)) F j12 (nI (c + 1))) x1 (nI (NC m)) (fT q H m a) (nI c) 4000 0 D1 (by omega) (by omega) f1.1 (fun j hj => by omega)
        rw [nI_0] at b1
        have b3' : Off T93 D1 D2 := b3.mono (fun a k z => by unfold T93; omega)
        obtain ⟨D', mo', t1, t2, t3⟩ := ih (c + 1) D2 (fT q H m a) (by omega) (by omega) (f1.off b3' (by unfold T93; omega) (fun a q1 q2 => by unfold T93; omega)) (MH_of x1' (b3.2 79 (by omega))) (Or.inr ⟨a, ha, rfl, fun k hk => by rw [b2 k hk, g2 k hk]; exact hwp k hk, fun c' hc' a' ha' hv => by
          by_cases ec : c' = c
          · rw [ec] at hv
            exact Or.inr ⟨by rw [uniq a' ha' hv], by rw [uniq a' ha' hv]; exact Nat.le_refl _⟩
          · exact hall c' (by omega) a' ha' hv⟩)
        exact ⟨D', mo', by rw [b1, t1], t2, (a3'.trans b3').trans t3⟩
      rcases hB with ⟨z1, z2⟩ | ⟨b, hb, z1, z2, z3⟩
      · obtain ⟨D', mo', t1, t2⟩ := copy (fun c' hc' a' ha' hv => absurd hv (z2 c' hc' a' ha'))
        refine ⟨D', mo', ?_, t2⟩
        have c2 : mo < fT q H m a := by rw [lt_i, z1, e1]; omega
        rw [pa_unf K c1 g1, ifB_hp, if_pos c2]
        exact t1
      · by_cases hlt : mo < fT q H m a
        · obtain ⟨D', mo', t1, t2⟩ := copy (fun c' hc' a' ha' hv => by
            rw [z1, lt_i] at hlt
            rcases z3 c' hc' a' ha' hv with y | ⟨y, y'⟩
            · exact Or.inl (by omega)
            · exact Or.inl (by rw [y]; exact hlt))
          refine ⟨D', mo', ?_, t2⟩
          rw [pa_unf K c1 g1, ifB_hp, if_pos hlt]
          exact t1
        · by_cases heq : fT q H m a = mo
          · have ah := m_isAhead (B := B) (w := w) (v := pl m b) h6 f1.1 g2 (fun k hk => by rw [e93]; exact z2 k hk)
            have elb : lst (pl m b) m = (TB m).getD b [] := by
              have h5 := (tbE h2 h6 (getD_mem [] (TB m) b hb)).1
              have h7 := lst_ofA 0 ((TB m).getD b [])
              rw [h5] at h7
              exact h7
            rw [elb, ← hea, tbD h2 h6 ha hb] at ah
            by_cases hab : a < b
            · rw [decide_eq_true hab, b2i_t] at ah
              obtain ⟨D', mo', t1, t2⟩ := copy (fun c' hc' a' ha' hv => by
                rcases z3 c' hc' a' ha' hv with y | ⟨y, y'⟩
                · exact Or.inl (by rw [heq, z1]; exact y)
                · exact Or.inr ⟨by rw [y, heq, z1], by omega⟩)
              refine ⟨D', mo', ?_, t2⟩
              have n10 : ¬ (1 : Int32) = 0 := by decide
              rw [heq] at t1 g1 c3
              have hlt' : ¬ mo < mo := fun z => by
                rw [lt_i] at z
                omega
              rw [pa_unf K c1 g1, ifB_hp, if_neg hlt', ifB_hp, if_neg c3, ifB_hp, if_neg (fun z => z rfl), cllV_w, if_pos kC_74, ah, thn_some, ifB_hp, if_neg n10]
              exact t1
            · rw [decide_eq_false hab, b2i_f] at ah
              obtain ⟨D', mo', t1, t2⟩ := skip mo (Or.inr ⟨b, hb, z1, fun k hk => by rw [e93]; exact z2 k hk, fun c' hc' a' ha' hv => by
                by_cases ec : c' = c
                · rw [ec] at hv
                  rw [uniq a' ha' hv]
                  exact Or.inr ⟨by rw [heq, z1], by omega⟩
                · exact z3 c' (by omega) a' ha' hv⟩)
              refine ⟨D', mo', ?_, t2⟩
              rw [heq] at g1 c3
              have hlt' : ¬ mo < mo := fun z => by
                rw [lt_i] at z
                omega
              rw [pa_unf K c1 g1, ifB_hp, if_neg hlt', ifB_hp, if_neg c3, ifB_hp, if_neg (fun z => z rfl), cllV_w, if_pos kC_74, ah, thn_some, ifB_hp, if_pos rfl]
              exact t1
          · obtain ⟨D', mo', t1, t2⟩ := skip mo (Or.inr ⟨b, hb, z1, fun k hk => by rw [e93]; exact z2 k hk, fun c' hc' a' ha' hv => by
              by_cases ec : c' = c
              · rw [ec] at hv
                rw [uniq a' ha' hv]
                refine Or.inl ?_
                have : (fT q H m a).toInt ≠ mo.toInt := fun y => heq (Int32.toInt_inj.mp y)
                rw [lt_i] at hlt
                rw [← z1]
                omega
              · exact z3 c' (by omega) a' ha' hv⟩)
            refine ⟨D', mo', ?_, t2⟩
            rw [pa_unf K c1 g1, ifB_hp, if_neg hlt, ifB_hp, if_neg c3, ifB_hp, if_pos heq]
            exact t1
end PAIROP
