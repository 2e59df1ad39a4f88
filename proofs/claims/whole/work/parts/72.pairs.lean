/-! pairs -/
section PAIRS
variable {B : BT}
theorem lst_ofA {α : Type} (d : α) : ∀ l : List α, lst (fun k => l.getD k d) l.length = l := by
  intro l
  induction l with
  | nil => rfl
  | cons c l ih =>
    show lst (fun k => (c :: l).getD k d) (l.length + 1) = c :: l
    rw [Nat.add_comm, lst_add]
    show [c] ++ lst (fun k => (c :: l).getD (1 + k) d) l.length = c :: l
    rw [lst_eq (h' := fun k => l.getD k d) l.length (fun k _ => by rw [Nat.add_comm]; rfl), ih]
    rfl
theorem fP_opt {q : QT} {H : HT} {m : Nat} (h : Nat → Nat → Int32) (st0 : SPt) (h0 : st0.1 = -1) (hp0 : ∀ k, 0 ≤ (sumP q H (h k) m).toInt) : ∀ n, ∃ b, Opt (fun k => sumP q H (h k) m) (n + 1) b ∧ (lst h (n + 1)).foldl (fP q H m) st0 = (sumP q H (h b) m, h b) := by
  intro n
  have e1 : ((-1 : Int32)).toInt = -1 := rfl
  induction n with
  | zero =>
    refine ⟨0, ⟨by omega, fun a ha => Or.inr ⟨by rw [show a = 0 by omega], by omega⟩⟩, ?_⟩
    show fP q H m st0 (h 0) = _
    unfold fP
    rw [if_pos (by rw [lt_i, h0, e1]; have := hp0 0; omega)]
  | succ n ih =>
    obtain ⟨b, ⟨hb1, hb2⟩, hb3⟩ := ih
    have es : (lst h (n + 1 + 1)).foldl (fP q H m) st0 = fP q H m (sumP q H (h b) m, h b) (h (n + 1)) := by
      show (lst h (n + 1) ++ [h (n + 1)]).foldl (fP q H m) st0 = _
      rw [List.foldl_append, hb3]
      rfl
    rw [es]
    unfold fP
    dsimp only
    by_cases hlt : sumP q H (h b) m < sumP q H (h (n + 1)) m
    · rw [if_pos hlt]
      rw [lt_i] at hlt
      refine ⟨n + 1, ⟨by omega, fun a ha => ?_⟩, rfl⟩
      by_cases e : a = n + 1
      · exact Or.inr ⟨by rw [e], by omega⟩
      · rcases hb2 a (by omega) with z | ⟨z, z'⟩
        · exact Or.inl (by dsimp only at z ⊢; omega)
        · exact Or.inl (by dsimp only at z ⊢; rw [z]; omega)
    · rw [if_neg hlt]
      rw [lt_i] at hlt
      refine ⟨b, ⟨by omega, fun a ha => ?_⟩, rfl⟩
      by_cases e : a = n + 1
      · subst e
        dsimp only
        by_cases e2 : sumP q H (h (n + 1)) m = sumP q H (h b) m
        · exact Or.inr ⟨e2, by omega⟩
        · refine Or.inl ?_
          have : (sumP q H (h (n + 1)) m).toInt ≠ (sumP q H (h b) m).toInt := fun z => e2 (Int32.toInt_inj.mp z)
          omega
      · exact hb2 a (by omega)
/-- what the class finds -/
theorem cls_opt {m : Nat} {q : QT} {H : HT} {st0 : SPt} (h2 : 2 ≤ m) (h6 : m ≤ 6) (hq : QV m q) (hV : ∀ k, ∃ u, u ≤ 30 ∧ H.2.2 k = nI u) (h0 : st0.1 = -1) : ∃ b, Opt (fT q H m) (TB m).length b ∧ ((mtF m 10 0 (decide (m % 2 = 1)) (fun _ => -1)).foldl (fP q H m) st0).1 = fT q H m b ∧ ∀ k, k < m → ((mtF m 10 0 (decide (m % 2 = 1)) (fun _ => -1)).foldl (fP q H m) st0).2 k = pl m b k := by
  have hA := tbA h2 h6
  generalize mtF m 10 0 (decide (m % 2 = 1)) (fun _ => -1) = L at hA
  have hlen : L.length = (TB m).length := by rw [← hA, List.length_map]
  have hpos : 0 < (TB m).length := by
    rcases (show m = 2 ∨ m = 3 ∨ m = 4 ∨ m = 5 ∨ m = 6 by omega) with rfl | rfl | rfl | rfl | rfl <;> decide
  generalize hh : (fun k => if k < L.length then L.getD k (fun _ => -9) else fun _ => -9) = h
  have eL : lst h L.length = L := by
    rw [← lst_eq (h := fun k => L.getD k (fun _ => -9)) L.length (fun k hk => by rw [← hh]; dsimp only; rw [if_pos hk])]
    exact lst_ofA (fun _ => -9) L
  have row : ∀ k, k < L.length → ∀ j, j < m → h k j = pl m k j := by
    intro k hk j hj
    have e1 : (TB m).getD k [] = lst (h k) m := by
      rw [← hA]
      have e2 : (L.map (fun p => lst p m)) = lst (fun k => lst (h k) m) L.length := by
        have := lst_map h (fun p => lst p m) L.length
        rw [eL] at this
        exact this
      rw [e2, lst_get _ [] _ _ hk]
    unfold pl
    rw [e1, lst_get _ 0 _ _ hj]
  have hs : ∀ k, k < L.length → sumP q H (h k) m = fT q H m k := fun k hk => sumP_eq m (row k hk)
  have hnn : ∀ k, 0 ≤ (sumP q H (h k) m).toInt := by
    intro k
    by_cases hk : k < L.length
    · rw [hs k hk]
      exact fT_b h2 h6 hq hV (by omega)
    · refine (sumP_b h6 hq hV (fun j hj => Or.inl ?_) m (Nat.le_refl _)).1
      rw [← hh]
      dsimp only
      rw [if_neg hk]
  obtain ⟨b, ⟨hb1, hb2⟩, hb3⟩ := fP_opt (q := q) (H := H) (m := m) h st0 h0 hnn (L.length - 1)
  rw [show L.length - 1 + 1 = L.length by omega, eL] at hb3
  rw [show L.length - 1 + 1 = L.length by omega] at hb1 hb2
  refine ⟨b, ⟨by omega, fun a ha => ?_⟩, ?_, fun k hk => ?_⟩
  · have := hb2 a (by omega)
    dsimp only at this
    rw [hs a (by omega), hs b hb1] at this
    exact this
  · rw [hb3]
    exact hs b hb1
  · rw [hb3]
    exact row b hb1 k hk
/-- the reference: a way by its code -/
def T92 : Nat → Nat → Prop := fun a k => a = 92 ∧ k = 63
theorem T92_f {m : Nat} {D D' : DT} {q : QT} (h : MF D m q) (o : Off T92 D D') : MF D' m q := h.off o (by unfold T92; omega) (fun a q1 q2 => by unfold T92; omega)
theorem m_lw_loop {m : Nat} {q : QT} {H : HT} (hm6 : m ≤ 6) (K : Int32 → Int32 → PM Int32) : ∀ (t F i left al : Nat) (w : Nat → Int32) (ps : List Nat) (D : DT), i + t = m → t < F → left < 2 ^ 28 → al ≤ 1 → MF D m q → MH D 0 H → (∀ k, k < m → fG D 92 k = w k) →
    ∃ D', (∀ l' w' ps', lwF m t i left al w ps = some (l', w', ps') → P_X8_layWay_42 K 74 F (nI left) (nI al) (psS q H ps) (nI i) (hp B D) = K (nI l') (psS q H ps') (hp B D') ∧ l' ≤ left ∧ ∀ k, k < m → fG D' 92 k = w' k) ∧ (lwF m t i left al w ps = none → P_X8_layWay_42 K 74 F (nI left) (nI al) (psS q H ps) (nI i) (hp B D) = some (-1, hp B D')) ∧ Off T92 D D' := by
  intro t
  induction t with
  | zero =>
    intro F i left al w ps D h1 h2 h3 h4 hF hX hg
    cases F with
    | zero => omega
    | succ F =>
      have c1 : nI m ≤ nI i := nI_le (by omega) (by omega)
      refine ⟨D, fun l' w' ps' h => ?_, fun h => (by cases h), Off.refl D⟩
      cases h
      refine ⟨?_, Nat.le_refl _, hg⟩
      simp only [P_X8_layWay_42, pureM_hp, ifB_t, ifB_f, decide_true, decide_false, ifB_hp, jn_hp, retZ_0, retZ_1, thn_some, cll0_w, cllV_w, getI_w, getL_w, getR_w, setI_w, setZ_w0, setZ_w1, setL_w, ald_w, ast_w, alen_w, aldR_2, aldR_3, aldR_4, aldR_22, cll0_pure, ↓reduceIte, if_true, if_false, Bool.false_eq_true, reduceCtorEq, and_true, true_and, and_false, false_and, ite_self, kI_1_9, kI_1_10, kI_5_4, kI_5_5, kI_5_6, kI_10_1, kI_11_4, kI_11_5, kI_11_6, kI_16_2, kI_16_3, kI_16_4, kI_16_5, kI_16_6, kI_17_2, kI_17_3, kI_21_4, kI_21_5, kI_21_6, kI_21_7, kI_21_8, kI_21_9, kI_21_10, kI_21_11, kI_26_2, kI_26_3, kI_29_2, kI_29_3, kI_32_2, kI_32_3, kI_35_2, kI_39_2, kI_39_3, kI_41_2, kI_41_3, kI_43_2, kI_43_3, kI_45_2, kI_45_3, kI_47_2, kI_47_3, kI_49_2, kI_49_3, kI_51_2, kI_51_3, kI_53_2, kI_53_3, kI_55_2, kI_55_3, kI_57_2, kI_57_3, kI_59_2, kI_59_3, kI_59_4, kI_59_5, kI_59_6, kI_60_2, kI_60_3, kI_64_2, kI_64_3, kI_64_4, kI_64_5, kI_64_6, kI_65_2, kI_65_3, kI_69_2, kI_69_3, kI_69_4, kI_69_5, kI_69_6, kI_70_2, kI_70_3, kI_74_10, kI_74_11, kI_74_12, kI_74_14, kI_74_18, kI_74_19, kI_74_20, kI_74_21, kI_74_22, kI_74_23, kI_74_29, kI_74_30, kI_74_31, kI_74_32, kI_74_33, kR_1_0, kR_1_1, kR_1_2, kR_1_3, kR_1_4, kR_1_5, kR_1_6, kR_1_7, kR_1_8, kR_5_0, kR_5_1, kR_5_2, kR_5_3, kR_10_0, kR_11_0, kR_11_1, kR_11_2, kR_11_3, kR_16_0, kR_16_1, kR_17_0, kR_17_1, kR_21_0, kR_21_1, kR_21_2, kR_21_3, kR_26_0, kR_26_1, kR_29_0, kR_29_1, kR_32_0, kR_32_1, kR_35_0, kR_35_1, kR_39_0, kR_41_0, kR_43_0, kR_45_0, kR_47_0, kR_49_0, kR_51_0, kR_53_0, kR_55_0, kR_57_0, kR_59_0, kR_59_1, kR_60_0, kR_60_1, kR_64_0, kR_64_1, kR_65_0, kR_65_1, kR_69_0, kR_69_1, kR_70_0, kR_70_1, kR_74_0, kR_74_1, kR_74_2, kR_74_3, kR_74_4, kR_74_5, kR_74_6, kR_74_7, kR_74_8, kR_74_9, kR_74_13, kR_74_17, kR_74_24, kR_74_25, kR_74_26, kR_74_27, kR_74_28, kR_74_34, kR_74_35, kR_74_36, kL_1_11, kL_1_12, kL_74_15, kL_74_16, kK_39_1, kK_41_1, kK_43_1, kK_45_1, kK_47_1, kK_49_1, kK_51_1, kK_53_1, kK_55_1, kK_57_1, kA_6, kA_7, kA_8, kA_9, kA_12, kA_13, kA_14, kA_15, kA_18, kA_19, kA_20, kA_23, kA_24, kA_25, kA_27, kA_28, kA_30, kA_31, kA_33, kA_34, kA_36, kA_37, kA_38, kA_40, kA_42, kA_44, kA_46, kA_48, kA_50, kA_52, kA_54, kA_56, kA_58, kA_61, kA_62, kA_63, kA_66, kA_67, kA_68, kA_71, kA_72, kA_73, kA_75, kA_76, kA_77, kA_78, kA_79, kA_80, kA_81, kA_82, kA_83, kA_84, kA_85, kA_86, kA_87, kA_88, kA_89, kA_90, kA_91, kA_92, kA_93, kA_94, kQ_2, kQ_3, kQ_4, kQ_22, kC_1, kC_5, kC_10, kC_11, kC_16, kC_17, kC_21, kC_26, kC_29, kC_32, kC_35, kC_39, kC_41, kC_43, kC_45, kC_47, kC_49, kC_51, kC_53, kC_55, kC_57, kC_59, kC_60, kC_64, kC_65, kC_69, kC_70, kC_74, hF.1, c1]
  | succ t ih =>
    intro F i left al w ps D h1 h2 h3 h4 hF hX hg
    cases F with
    | zero => omega
    | succ F =>
      have c1 : ¬ nI m ≤ nI i := nI_ge (by omega) (by omega)
      have ci : 0 ≤ (nI i).toInt ∧ (nI i).toInt < ((6 : Nat) : Int) := ixc (by omega) (by omega)
      have cli := nI_clamp (show i < 2 ^ 31 by omega)
      have gi := hg i (by omega)
      have hm10 := hF.1
      have e0 : lwF m (t + 1) i left al w ps = (if w i = -2 then
      (if left % (m + 1) = 0 then (if al = 0 then none else lwF m t (i + 1) (left / (m + 1)) (al - 1) (upd w i (-9)) ps)
      else (if i < left % (m + 1) - 1 ∧ w (left % (m + 1) - 1) = -2 then lwF m t (i + 1) (left / (m + 1)) al (upd (upd w i (nI (left % (m + 1) - 1))) (left % (m + 1) - 1) (nI i)) (ps ++ [10 * i + (left % (m + 1) - 1)]) else none))
    else lwF m t (i + 1) left al w ps) := rfl
      by_cases hw : w i = -2
      case neg =>
        rw [if_neg hw] at e0
        obtain ⟨D', a1, a2, a3⟩ := ih F (i + 1) left al w ps D (by omega) (by omega) h3 h4 hF hX hg
        have e1 : P_X8_layWay_42 K 74 (F + 1) (nI left) (nI al) (psS q H ps) (nI i) (hp B D) = P_X8_layWay_42 K 74 F (nI left) (nI al) (psS q H ps) (nI (i + 1)) (hp B D) := by
          simp only [P_X8_layWay_42, pureM_hp, ifB_t, ifB_f, decide_true, decide_false, ifB_hp, jn_hp, retZ_0, retZ_1, thn_some, cll0_w, cllV_w, getI_w, getL_w, getR_w, setI_w, setZ_w0, setZ_w1, setL_w, ald_w, ast_w, alen_w, aldR_2, aldR_3, aldR_4, aldR_22, cll0_pure, ↓reduceIte, if_true, if_false, Bool.false_eq_true, reduceCtorEq, and_true, true_and, and_false, false_and, ite_self, kI_1_9, kI_1_10, kI_5_4, kI_5_5, kI_5_6, kI_10_1, kI_11_4, kI_11_5, kI_11_6, kI_16_2, kI_16_3, kI_16_4, kI_16_5, kI_16_6, kI_17_2, kI_17_3, kI_21_4, kI_21_5, kI_21_6, kI_21_7, kI_21_8, kI_21_9, kI_21_10, kI_21_11, kI_26_2, kI_26_3, kI_29_2, kI_29_3, kI_32_2, kI_32_3, kI_35_2, kI_39_2, kI_39_3, kI_41_2, kI_41_3, kI_43_2, kI_43_3, kI_45_2, kI_45_3, kI_47_2, kI_47_3, kI_49_2, kI_49_3, kI_51_2, kI_51_3, kI_53_2, kI_53_3, kI_55_2, kI_55_3, kI_57_2, kI_57_3, kI_59_2, kI_59_3, kI_59_4, kI_59_5, kI_59_6, kI_60_2, kI_60_3, kI_64_2, kI_64_3, kI_64_4, kI_64_5, kI_64_6, kI_65_2, kI_65_3, kI_69_2, kI_69_3, kI_69_4, kI_69_5, kI_69_6, kI_70_2, kI_70_3, kI_74_10, kI_74_11, kI_74_12, kI_74_14, kI_74_18, kI_74_19, kI_74_20, kI_74_21, kI_74_22, kI_74_23, kI_74_29, kI_74_30, kI_74_31, kI_74_32, kI_74_33, kR_1_0, kR_1_1, kR_1_2, kR_1_3, kR_1_4, kR_1_5, kR_1_6, kR_1_7, kR_1_8, kR_5_0, kR_5_1, kR_5_2, kR_5_3, kR_10_0, kR_11_0, kR_11_1, kR_11_2, kR_11_3, kR_16_0, kR_16_1, kR_17_0, kR_17_1, kR_21_0, kR_21_1, kR_21_2, kR_21_3, kR_26_0, kR_26_1, kR_29_0, kR_29_1, kR_32_0, kR_32_1, kR_35_0, kR_35_1, kR_39_0, kR_41_0, kR_43_0, kR_45_0, kR_47_0, kR_49_0, kR_51_0, kR_53_0, kR_55_0, kR_57_0, kR_59_0, kR_59_1, kR_60_0, kR_60_1, kR_64_0, kR_64_1, kR_65_0, kR_65_1, kR_69_0, kR_69_1, kR_70_0, kR_70_1, kR_74_0, kR_74_1, kR_74_2, kR_74_3, kR_74_4, kR_74_5, kR_74_6, kR_74_7, kR_74_8, kR_74_9, kR_74_13, kR_74_17, kR_74_24, kR_74_25, kR_74_26, kR_74_27, kR_74_28, kR_74_34, kR_74_35, kR_74_36, kL_1_11, kL_1_12, kL_74_15, kL_74_16, kK_39_1, kK_41_1, kK_43_1, kK_45_1, kK_47_1, kK_49_1, kK_51_1, kK_53_1, kK_55_1, kK_57_1, kA_6, kA_7, kA_8, kA_9, kA_12, kA_13, kA_14, kA_15, kA_18, kA_19, kA_20, kA_23, kA_24, kA_25, kA_27, kA_28, kA_30, kA_31, kA_33, kA_34, kA_36, kA_37, kA_38, kA_40, kA_42, kA_44, kA_46, kA_48, kA_50, kA_52, kA_54, kA_56, kA_58, kA_61, kA_62, kA_63, kA_66, kA_67, kA_68, kA_71, kA_72, kA_73, kA_75, kA_76, kA_77, kA_78, kA_79, kA_80, kA_81, kA_82, kA_83, kA_84, kA_85, kA_86, kA_87, kA_88, kA_89, kA_90, kA_91, kA_92, kA_93, kA_94, kQ_2, kQ_3, kQ_4, kQ_22, kC_1, kC_5, kC_10, kC_11, kC_16, kC_17, kC_21, kC_26, kC_29, kC_32, kC_35, kC_39, kC_41, kC_43, kC_45, kC_47, kC_49, kC_51, kC_53, kC_55, kC_57, kC_59, kC_60, kC_64, kC_65, kC_69, kC_70, kC_74, hm10, c1, ci, cli, gi, hw, not_false_eq_true, nI_p1]
        rw [e0, e1]
        exact ⟨D', a1, a2, a3⟩
      rw [if_pos hw] at e0
      have ne1 : ¬ nI (m + 1) = 0 := by rw [nI_z (by omega)]; omega
      have rm : nI left % nI (m + 1) = nI (left % (m + 1)) := nI_mod (by omega) (by omega)
      have rd : nI left / nI (m + 1) = nI (left / (m + 1)) := nI_div (by omega) (by omega)
      have hq := Nat.mod_lt left (show 0 < m + 1 by omega)
      have hdl := Nat.div_le_self left (m + 1)
      by_cases hr0 : left % (m + 1) = 0
      · rw [if_pos hr0] at e0
        have j0 : nI 0 - 1 = -1 := by decide
        have k0 : ¬ (0 : Int32) ≤ -1 := by decide
        have k1 : (-1 : Int32) < 0 := by decide
        by_cases ha : al = 0
        · rw [if_pos ha] at e0
          refine ⟨D, fun l' w' ps' h => (by rw [e0] at h; cases h), fun _ => ?_, Off.refl D⟩
          have k2 : nI al ≤ 0 := nI_le (b := 0) (by omega) (by omega)
          simp only [P_X8_layWay_42, pureM_hp, ifB_t, ifB_f, decide_true, decide_false, ifB_hp, jn_hp, retZ_0, retZ_1, thn_some, cll0_w, cllV_w, getI_w, getL_w, getR_w, setI_w, setZ_w0, setZ_w1, setL_w, ald_w, ast_w, alen_w, aldR_2, aldR_3, aldR_4, aldR_22, cll0_pure, ↓reduceIte, if_true, if_false, Bool.false_eq_true, reduceCtorEq, and_true, true_and, and_false, false_and, ite_self, kI_1_9, kI_1_10, kI_5_4, kI_5_5, kI_5_6, kI_10_1, kI_11_4, kI_11_5, kI_11_6, kI_16_2, kI_16_3, kI_16_4, kI_16_5, kI_16_6, kI_17_2, kI_17_3, kI_21_4, kI_21_5, kI_21_6, kI_21_7, kI_21_8, kI_21_9, kI_21_10, kI_21_11, kI_26_2, kI_26_3, kI_29_2, kI_29_3, kI_32_2, kI_32_3, kI_35_2, kI_39_2, kI_39_3, kI_41_2, kI_41_3, kI_43_2, kI_43_3, kI_45_2, kI_45_3, kI_47_2, kI_47_3, kI_49_2, kI_49_3, kI_51_2, kI_51_3, kI_53_2, kI_53_3, kI_55_2, kI_55_3, kI_57_2, kI_57_3, kI_59_2, kI_59_3, kI_59_4, kI_59_5, kI_59_6, kI_60_2, kI_60_3, kI_64_2, kI_64_3, kI_64_4, kI_64_5, kI_64_6, kI_65_2, kI_65_3, kI_69_2, kI_69_3, kI_69_4, kI_69_5, kI_69_6, kI_70_2, kI_70_3, kI_74_10, kI_74_11, kI_74_12, kI_74_14, kI_74_18, kI_74_19, kI_74_20, kI_74_21, kI_74_22, kI_74_23, kI_74_29, kI_74_30, kI_74_31, kI_74_32, kI_74_33, kR_1_0, kR_1_1, kR_1_2, kR_1_3, kR_1_4, kR_1_5, kR_1_6, kR_1_7, kR_1_8, kR_5_0, kR_5_1, kR_5_2, kR_5_3, kR_10_0, kR_11_0, kR_11_1, kR_11_2, kR_11_3, kR_16_0, kR_16_1, kR_17_0, kR_17_1, kR_21_0, kR_21_1, kR_21_2, kR_21_3, kR_26_0, kR_26_1, kR_29_0, kR_29_1, kR_32_0, kR_32_1, kR_35_0, kR_35_1, kR_39_0, kR_41_0, kR_43_0, kR_45_0, kR_47_0, kR_49_0, kR_51_0, kR_53_0, kR_55_0, kR_57_0, kR_59_0, kR_59_1, kR_60_0, kR_60_1, kR_64_0, kR_64_1, kR_65_0, kR_65_1, kR_69_0, kR_69_1, kR_70_0, kR_70_1, kR_74_0, kR_74_1, kR_74_2, kR_74_3, kR_74_4, kR_74_5, kR_74_6, kR_74_7, kR_74_8, kR_74_9, kR_74_13, kR_74_17, kR_74_24, kR_74_25, kR_74_26, kR_74_27, kR_74_28, kR_74_34, kR_74_35, kR_74_36, kL_1_11, kL_1_12, kL_74_15, kL_74_16, kK_39_1, kK_41_1, kK_43_1, kK_45_1, kK_47_1, kK_49_1, kK_51_1, kK_53_1, kK_55_1, kK_57_1, kA_6, kA_7, kA_8, kA_9, kA_12, kA_13, kA_14, kA_15, kA_18, kA_19, kA_20, kA_23, kA_24, kA_25, kA_27, kA_28, kA_30, kA_31, kA_33, kA_34, kA_36, kA_37, kA_38, kA_40, kA_42, kA_44, kA_46, kA_48, kA_50, kA_52, kA_54, kA_56, kA_58, kA_61, kA_62, kA_63, kA_66, kA_67, kA_68, kA_71, kA_72, kA_73, kA_75, kA_76, kA_77, kA_78, kA_79, kA_80, kA_81, kA_82, kA_83, kA_84, kA_85, kA_86, kA_87, kA_88, kA_89, kA_90, kA_91, kA_92, kA_93, kA_94, kQ_2, kQ_3, kQ_4, kQ_22, kC_1, kC_5, kC_10, kC_11, kC_16, kC_17, kC_21, kC_26, kC_29, kC_32, kC_35, kC_39, kC_41, kC_43, kC_45, kC_47, kC_49, kC_51, kC_53, kC_55, kC_57, kC_59, kC_60, kC_64, kC_65, kC_69, kC_70, kC_74, hm10, c1, ci, cli, gi, hw, not_true_eq_false, nI_p1, remI_hp _ _ _ ne1, divI_hp _ _ _ ne1, rm, rd, hr0, j0, k0, k2]
        · rw [if_neg ha] at e0
          have o1 : Off T92 D (uG D 92 (upd (fG D 92) i (-9))) := (Off.refl D).uG _ _ ⟨rfl, rfl⟩
          obtain ⟨D', a1, a2, a3⟩ := ih F (i + 1) (left / (m + 1)) (al - 1) (upd w i (-9)) ps (uG D 92 (upd (fG D 92) i (-9))) (by omega) (by omega) (by omega) (by omega) (T92_f hF o1) (MH_of hX (by rw [fG_uG, if_neg (by omega)])) (fun k hk => by
            rw [fG_uG, if_pos rfl]
            unfold upd
            by_cases e : k = i
            · rw [if_pos e, if_pos e]
            · rw [if_neg e, if_neg e]; exact hg k hk)
          have k2 : ¬ nI al ≤ 0 := show ¬ nI al ≤ nI 0 from nI_ge (by omega) (by omega)
          have am : nI al - 1 = nI (al - 1) := pk_sub (b := 1) (by omega)
          have n10 : ¬ (1 : Int32) = 0 := by decide
          have e1 : P_X8_layWay_42 K 74 (F + 1) (nI left) (nI al) (psS q H ps) (nI i) (hp B D) = P_X8_layWay_42 K 74 F (nI (left / (m + 1))) (nI (al - 1)) (psS q H ps) (nI (i + 1)) (hp B (uG D 92 (upd (fG D 92) i (-9)))) := by
            simp only [P_X8_layWay_42, pureM_hp, ifB_t, ifB_f, decide_true, decide_false, ifB_hp, jn_hp, retZ_0, retZ_1, thn_some, cll0_w, cllV_w, getI_w, getL_w, getR_w, setI_w, setZ_w0, setZ_w1, setL_w, ald_w, ast_w, alen_w, aldR_2, aldR_3, aldR_4, aldR_22, cll0_pure, ↓reduceIte, if_true, if_false, Bool.false_eq_true, reduceCtorEq, and_true, true_and, and_false, false_and, ite_self, kI_1_9, kI_1_10, kI_5_4, kI_5_5, kI_5_6, kI_10_1, kI_11_4, kI_11_5, kI_11_6, kI_16_2, kI_16_3, kI_16_4, kI_16_5, kI_16_6, kI_17_2, kI_17_3, kI_21_4, kI_21_5, kI_21_6, kI_21_7, kI_21_8, kI_21_9, kI_21_10, kI_21_11, kI_26_2, kI_26_3, kI_29_2, kI_29_3, kI_32_2, kI_32_3, kI_35_2, kI_39_2, kI_39_3, kI_41_2, kI_41_3, kI_43_2, kI_43_3, kI_45_2, kI_45_3, kI_47_2, kI_47_3, kI_49_2, kI_49_3, kI_51_2, kI_51_3, kI_53_2, kI_53_3, kI_55_2, kI_55_3, kI_57_2, kI_57_3, kI_59_2, kI_59_3, kI_59_4, kI_59_5, kI_59_6, kI_60_2, kI_60_3, kI_64_2, kI_64_3, kI_64_4, kI_64_5, kI_64_6, kI_65_2, kI_65_3, kI_69_2, kI_69_3, kI_69_4, kI_69_5, kI_69_6, kI_70_2, kI_70_3, kI_74_10, kI_74_11, kI_74_12, kI_74_14, kI_74_18, kI_74_19, kI_74_20, kI_74_21, kI_74_22, kI_74_23, kI_74_29, kI_74_30, kI_74_31, kI_74_32, kI_74_33, kR_1_0, kR_1_1, kR_1_2, kR_1_3, kR_1_4, kR_1_5, kR_1_6, kR_1_7, kR_1_8, kR_5_0, kR_5_1, kR_5_2, kR_5_3, kR_10_0, kR_11_0, kR_11_1, kR_11_2, kR_11_3, kR_16_0, kR_16_1, kR_17_0, kR_17_1, kR_21_0, kR_21_1, kR_21_2, kR_21_3, kR_26_0, kR_26_1, kR_29_0, kR_29_1, kR_32_0, kR_32_1, kR_35_0, kR_35_1, kR_39_0, kR_41_0, kR_43_0, kR_45_0, kR_47_0, kR_49_0, kR_51_0, kR_53_0, kR_55_0, kR_57_0, kR_59_0, kR_59_1, kR_60_0, kR_60_1, kR_64_0, kR_64_1, kR_65_0, kR_65_1, kR_69_0, kR_69_1, kR_70_0, kR_70_1, kR_74_0, kR_74_1, kR_74_2, kR_74_3, kR_74_4, kR_74_5, kR_74_6, kR_74_7, kR_74_8, kR_74_9, kR_74_13, kR_74_17, kR_74_24, kR_74_25, kR_74_26, kR_74_27, kR_74_28, kR_74_34, kR_74_35, kR_74_36, kL_1_11, kL_1_12, kL_74_15, kL_74_16, kK_39_1, kK_41_1, kK_43_1, kK_45_1, kK_47_1, kK_49_1, kK_51_1, kK_53_1, kK_55_1, kK_57_1, kA_6, kA_7, kA_8, kA_9, kA_12, kA_13, kA_14, kA_15, kA_18, kA_19, kA_20, kA_23, kA_24, kA_25, kA_27, kA_28, kA_30, kA_31, kA_33, kA_34, kA_36, kA_37, kA_38, kA_40, kA_42, kA_44, kA_46, kA_48, kA_50, kA_52, kA_54, kA_56, kA_58, kA_61, kA_62, kA_63, kA_66, kA_67, kA_68, kA_71, kA_72, kA_73, kA_75, kA_76, kA_77, kA_78, kA_79, kA_80, kA_81, kA_82, kA_83, kA_84, kA_85, kA_86, kA_87, kA_88, kA_89, kA_90, kA_91, kA_92, kA_93, kA_94, kQ_2, kQ_3, kQ_4, kQ_22, kC_1, kC_5, kC_10, kC_11, kC_16, kC_17, kC_21, kC_26, kC_29, kC_32, kC_35, kC_39, kC_41, kC_43, kC_45, kC_47, kC_49, kC_51, kC_53, kC_55, kC_57, kC_59, kC_60, kC_64, kC_65, kC_69, kC_70, kC_74, hm10, c1, ci, cli, gi, hw, not_true_eq_false, not_false_eq_true, nI_p1, remI_hp _ _ _ ne1, divI_hp _ _ _ ne1, rm, rd, hr0, j0, k0, k1, k2, n10, am]
          rw [e0, e1]
          exact ⟨D', fun l' w' ps' h => ⟨(a1 l' w' ps' h).1, Nat.le_trans (a1 l' w' ps' h).2.1 hdl, (a1 l' w' ps' h).2.2⟩, a2, o1.trans a3⟩
      · rw [if_neg hr0] at e0
        generalize hj : left % (m + 1) - 1 = j at e0
        have hj2 : left % (m + 1) = j + 1 := by omega
        have jm : nI (j + 1) - 1 = nI j := pk_sub (b := 1) (by omega)
        have k0 : (0 : Int32) ≤ nI j := nI_le (a := 0) (by omega) (by omega)
        have k1 : ¬ nI j < 0 := fun z => by
          have := (nI_ltI (b := 0) (by omega) (by omega)).mp z
          omega
        have cj : 0 ≤ (nI j).toInt ∧ (nI j).toInt < ((6 : Nat) : Int) := ixc (by omega) (by omega)
        have clj := nI_clamp (show j < 2 ^ 31 by omega)
        have gj := hg j (by omega)
        by_cases hcond : i < j ∧ w j = -2
        · rw [if_pos hcond] at e0
          have k2 : ¬ nI j ≤ nI i := nI_ge hcond.1 (by omega)
          have o1 : Off T92 D (uG D 92 (upd (upd (fG D 92) i (nI j)) j (nI i))) := (Off.refl D).uG _ _ ⟨rfl, rfl⟩
          have mt := m_talkIn (B := B) (D := uG D 92 (upd (upd (fG D 92) i (nI j)) j (nI i))) (T92_f hF o1) (MH_of hX (by rw [fG_uG, if_neg (by omega)])) hm6 (show 0 + 11 ≤ 1848 by omega) (show i < m by omega) (show j < m by omega)
          rw [nI_0] at mt
          obtain ⟨D', a1, a2, a3⟩ := ih F (i + 1) (left / (m + 1)) al (upd (upd w i (nI j)) j (nI i)) (ps ++ [10 * i + j]) (uG D 92 (upd (upd (fG D 92) i (nI j)) j (nI i))) (by omega) (by omega) (by omega) (by omega) (T92_f hF o1) (MH_of hX (by rw [fG_uG, if_neg (by omega)])) (fun k hk => by
            rw [fG_uG, if_pos rfl]
            unfold upd
            by_cases e : k = j
            · rw [if_pos e, if_pos e]
            · rw [if_neg e, if_neg e]
              by_cases e2 : k = i
              · rw [if_pos e2, if_pos e2]
              · rw [if_neg e2, if_neg e2]; exact hg k hk)
          have am : nI al - 0 = nI al := pk_sub (b := 0) (by omega)
          have n10 : ¬ (1 : Int32) = 0 := by decide
          have ep : psS q H (ps ++ [10 * i + j]) = psS q H ps + tk q H i j := by
            unfold psS
            rw [List.foldl_append]
            show _ + tk q H ((10 * i + j) / 10) ((10 * i + j) % 10) = _
            rw [show (10 * i + j) / 10 = i by omega, show (10 * i + j) % 10 = j by omega]
          rw [ep] at a1 a2
          have uu : ∀ E : DT, uG (uG E 92 (upd (fG E 92) i (nI j))) 92 (upd (fG (uG E 92 (upd (fG E 92) i (nI j))) 92) j (nI i)) = uG E 92 (upd (upd (fG E 92) i (nI j)) j (nI i)) := fun E => by rw [uG_uG, fG_uG, if_pos rfl]
          have e1 : P_X8_layWay_42 K 74 (F + 1) (nI left) (nI al) (psS q H ps) (nI i) (hp B D) = P_X8_layWay_42 K 74 F (nI (left / (m + 1))) (nI al) (psS q H ps + tk q H i j) (nI (i + 1)) (hp B (uG D 92 (upd (upd (fG D 92) i (nI j)) j (nI i)))) := by
            simp only [P_X8_layWay_42, pureM_hp, ifB_t, ifB_f, decide_true, decide_false, ifB_hp, jn_hp, retZ_0, retZ_1, thn_some, cll0_w, cllV_w, getI_w, getL_w, getR_w, setI_w, setZ_w0, setZ_w1, setL_w, ald_w, ast_w, alen_w, aldR_2, aldR_3, aldR_4, aldR_22, cll0_pure, ↓reduceIte, if_true, if_false, Bool.false_eq_true, reduceCtorEq, and_true, true_and, and_false, false_and, ite_self, kI_1_9, kI_1_10, kI_5_4, kI_5_5, kI_5_6, kI_10_1, kI_11_4, kI_11_5, kI_11_6, kI_16_2, kI_16_3, kI_16_4, kI_16_5, kI_16_6, kI_17_2, kI_17_3, kI_21_4, kI_21_5, kI_21_6, kI_21_7, kI_21_8, kI_21_9, kI_21_10, kI_21_11, kI_26_2, kI_26_3, kI_29_2, kI_29_3, kI_32_2, kI_32_3, kI_35_2, kI_39_2, kI_39_3, kI_41_2, kI_41_3, kI_43_2, kI_43_3, kI_45_2, kI_45_3, kI_47_2, kI_47_3, kI_49_2, kI_49_3, kI_51_2, kI_51_3, kI_53_2, kI_53_3, kI_55_2, kI_55_3, kI_57_2, kI_57_3, kI_59_2, kI_59_3, kI_59_4, kI_59_5, kI_59_6, kI_60_2, kI_60_3, kI_64_2, kI_64_3, kI_64_4, kI_64_5, kI_64_6, kI_65_2, kI_65_3, kI_69_2, kI_69_3, kI_69_4, kI_69_5, kI_69_6, kI_70_2, kI_70_3, kI_74_10, kI_74_11, kI_74_12, kI_74_14, kI_74_18, kI_74_19, kI_74_20, kI_74_21, kI_74_22, kI_74_23, kI_74_29, kI_74_30, kI_74_31, kI_74_32, kI_74_33, kR_1_0, kR_1_1, kR_1_2, kR_1_3, kR_1_4, kR_1_5, kR_1_6, kR_1_7, kR_1_8, kR_5_0, kR_5_1, kR_5_2, kR_5_3, kR_10_0, kR_11_0, kR_11_1, kR_11_2, kR_11_3, kR_16_0, kR_16_1, kR_17_0, kR_17_1, kR_21_0, kR_21_1, kR_21_2, kR_21_3, kR_26_0, kR_26_1, kR_29_0, kR_29_1, kR_32_0, kR_32_1, kR_35_0, kR_35_1, kR_39_0, kR_41_0, kR_43_0, kR_45_0, kR_47_0, kR_49_0, kR_51_0, kR_53_0, kR_55_0, kR_57_0, kR_59_0, kR_59_1, kR_60_0, kR_60_1, kR_64_0, kR_64_1, kR_65_0, kR_65_1, kR_69_0, kR_69_1, kR_70_0, kR_70_1, kR_74_0, kR_74_1, kR_74_2, kR_74_3, kR_74_4, kR_74_5, kR_74_6, kR_74_7, kR_74_8, kR_74_9, kR_74_13, kR_74_17, kR_74_24, kR_74_25, kR_74_26, kR_74_27, kR_74_28, kR_74_34, kR_74_35, kR_74_36, kL_1_11, kL_1_12, kL_74_15, kL_74_16, kK_39_1, kK_41_1, kK_43_1, kK_45_1, kK_47_1, kK_49_1, kK_51_1, kK_53_1, kK_55_1, kK_57_1, kA_6, kA_7, kA_8, kA_9, kA_12, kA_13, kA_14, kA_15, kA_18, kA_19, kA_20, kA_23, kA_24, kA_25, kA_27, kA_28, kA_30, kA_31, kA_33, kA_34, kA_36, kA_37, kA_38, kA_40, kA_42, kA_44, kA_46, kA_48, kA_50, kA_52, kA_54, kA_56, kA_58, kA_61, kA_62, kA_63, kA_66, kA_67, kA_68, kA_71, kA_72, kA_73, kA_75, kA_76, kA_77, kA_78, kA_79, kA_80, kA_81, kA_82, kA_83, kA_84, kA_85, kA_86, kA_87, kA_88, kA_89, kA_90, kA_91, kA_92, kA_93, kA_94, kQ_2, kQ_3, kQ_4, kQ_22, kC_1, kC_5, kC_10, kC_11, kC_16, kC_17, kC_21, kC_26, kC_29, kC_32, kC_35, kC_39, kC_41, kC_43, kC_45, kC_47, kC_49, kC_51, kC_53, kC_55, kC_57, kC_59, kC_60, kC_64, kC_65, kC_69, kC_70, kC_74, hm10, c1, ci, cli, gi, hw, not_true_eq_false, not_false_eq_true, nI_p1, remI_hp _ _ _ ne1, divI_hp _ _ _ ne1, rm, rd, hj2, jm, k0, k1, k2, cj, clj, gj, hcond.2, n10, am, uu, mt]
          rw [e0, e1]
          exact ⟨D', fun l' w' ps' h => ⟨(a1 l' w' ps' h).1, Nat.le_trans (a1 l' w' ps' h).2.1 hdl, (a1 l' w' ps' h).2.2⟩, a2, o1.trans a3⟩
        · rw [if_neg hcond] at e0
          refine ⟨D, fun l' w' ps' h => (by rw [e0] at h; cases h), fun _ => ?_, Off.refl D⟩
          by_cases k2 : nI j ≤ nI i
          · simp only [P_X8_layWay_42, pureM_hp, ifB_t, ifB_f, decide_true, decide_false, ifB_hp, jn_hp, retZ_0, retZ_1, thn_some, cll0_w, cllV_w, getI_w, getL_w, getR_w, setI_w, setZ_w0, setZ_w1, setL_w, ald_w, ast_w, alen_w, aldR_2, aldR_3, aldR_4, aldR_22, cll0_pure, ↓reduceIte, if_true, if_false, Bool.false_eq_true, reduceCtorEq, and_true, true_and, and_false, false_and, ite_self, kI_1_9, kI_1_10, kI_5_4, kI_5_5, kI_5_6, kI_10_1, kI_11_4, kI_11_5, kI_11_6, kI_16_2, kI_16_3, kI_16_4, kI_16_5, kI_16_6, kI_17_2, kI_17_3, kI_21_4, kI_21_5, kI_21_6, kI_21_7, kI_21_8, kI_21_9, kI_21_10, kI_21_11, kI_26_2, kI_26_3, kI_29_2, kI_29_3, kI_32_2, kI_32_3, kI_35_2, kI_39_2, kI_39_3, kI_41_2, kI_41_3, kI_43_2, kI_43_3, kI_45_2, kI_45_3, kI_47_2, kI_47_3, kI_49_2, kI_49_3, kI_51_2, kI_51_3, kI_53_2, kI_53_3, kI_55_2, kI_55_3, kI_57_2, kI_57_3, kI_59_2, kI_59_3, kI_59_4, kI_59_5, kI_59_6, kI_60_2, kI_60_3, kI_64_2, kI_64_3, kI_64_4, kI_64_5, kI_64_6, kI_65_2, kI_65_3, kI_69_2, kI_69_3, kI_69_4, kI_69_5, kI_69_6, kI_70_2, kI_70_3, kI_74_10, kI_74_11, kI_74_12, kI_74_14, kI_74_18, kI_74_19, kI_74_20, kI_74_21, kI_74_22, kI_74_23, kI_74_29, kI_74_30, kI_74_31, kI_74_32, kI_74_33, kR_1_0, kR_1_1, kR_1_2, kR_1_3, kR_1_4, kR_1_5, kR_1_6, kR_1_7, kR_1_8, kR_5_0, kR_5_1, kR_5_2, kR_5_3, kR_10_0, kR_11_0, kR_11_1, kR_11_2, kR_11_3, kR_16_0, kR_16_1, kR_17_0, kR_17_1, kR_21_0, kR_21_1, kR_21_2, kR_21_3, kR_26_0, kR_26_1, kR_29_0, kR_29_1, kR_32_0, kR_32_1, kR_35_0, kR_35_1, kR_39_0, kR_41_0, kR_43_0, kR_45_0, kR_47_0, kR_49_0, kR_51_0, kR_53_0, kR_55_0, kR_57_0, kR_59_0, kR_59_1, kR_60_0, kR_60_1, kR_64_0, kR_64_1, kR_65_0, kR_65_1, kR_69_0, kR_69_1, kR_70_0, kR_70_1, kR_74_0, kR_74_1, kR_74_2, kR_74_3, kR_74_4, kR_74_5, kR_74_6, kR_74_7, kR_74_8, kR_74_9, kR_74_13, kR_74_17, kR_74_24, kR_74_25, kR_74_26, kR_74_27, kR_74_28, kR_74_34, kR_74_35, kR_74_36, kL_1_11, kL_1_12, kL_74_15, kL_74_16, kK_39_1, kK_41_1, kK_43_1, kK_45_1, kK_47_1, kK_49_1, kK_51_1, kK_53_1, kK_55_1, kK_57_1, kA_6, kA_7, kA_8, kA_9, kA_12, kA_13, kA_14, kA_15, kA_18, kA_19, kA_20, kA_23, kA_24, kA_25, kA_27, kA_28, kA_30, kA_31, kA_33, kA_34, kA_36, kA_37, kA_38, kA_40, kA_42, kA_44, kA_46, kA_48, kA_50, kA_52, kA_54, kA_56, kA_58, kA_61, kA_62, kA_63, kA_66, kA_67, kA_68, kA_71, kA_72, kA_73, kA_75, kA_76, kA_77, kA_78, kA_79, kA_80, kA_81, kA_82, kA_83, kA_84, kA_85, kA_86, kA_87, kA_88, kA_89, kA_90, kA_91, kA_92, kA_93, kA_94, kQ_2, kQ_3, kQ_4, kQ_22, kC_1, kC_5, kC_10, kC_11, kC_16, kC_17, kC_21, kC_26, kC_29, kC_32, kC_35, kC_39, kC_41, kC_43, kC_45, kC_47, kC_49, kC_51, kC_53, kC_55, kC_57, kC_59, kC_60, kC_64, kC_65, kC_69, kC_70, kC_74, hm10, c1, ci, cli, gi, hw, not_true_eq_false, not_false_eq_true, nI_p1, remI_hp _ _ _ ne1, divI_hp _ _ _ ne1, rm, rd, hj2, jm, k0, k1, k2]
          · have wj : ¬ w j = -2 := fun z => hcond ⟨by
              have : ¬ j ≤ i := fun y => k2 (nI_le y (by omega))
              omega, z⟩
            simp only [P_X8_layWay_42, pureM_hp, ifB_t, ifB_f, decide_true, decide_false, ifB_hp, jn_hp, retZ_0, retZ_1, thn_some, cll0_w, cllV_w, getI_w, getL_w, getR_w, setI_w, setZ_w0, setZ_w1, setL_w, ald_w, ast_w, alen_w, aldR_2, aldR_3, aldR_4, aldR_22, cll0_pure, ↓reduceIte, if_true, if_false, Bool.false_eq_true, reduceCtorEq, and_true, true_and, and_false, false_and, ite_self, kI_1_9, kI_1_10, kI_5_4, kI_5_5, kI_5_6, kI_10_1, kI_11_4, kI_11_5, kI_11_6, kI_16_2, kI_16_3, kI_16_4, kI_16_5, kI_16_6, kI_17_2, kI_17_3, kI_21_4, kI_21_5, kI_21_6, kI_21_7, kI_21_8, kI_21_9, kI_21_10, kI_21_11, kI_26_2, kI_26_3, kI_29_2, kI_29_3, kI_32_2, kI_32_3, kI_35_2, kI_39_2, kI_39_3, kI_41_2, kI_41_3, kI_43_2, kI_43_3, kI_45_2, kI_45_3, kI_47_2, kI_47_3, kI_49_2, kI_49_3, kI_51_2, kI_51_3, kI_53_2, kI_53_3, kI_55_2, kI_55_3, kI_57_2, kI_57_3, kI_59_2, kI_59_3, kI_59_4, kI_59_5, kI_59_6, kI_60_2, kI_60_3, kI_64_2, kI_64_3, kI_64_4, kI_64_5, kI_64_6, kI_65_2, kI_65_3, kI_69_2, kI_69_3, kI_69_4, kI_69_5, kI_69_6, kI_70_2, kI_70_3, kI_74_10, kI_74_11, kI_74_12, kI_74_14, kI_74_18, kI_74_19, kI_74_20, kI_74_21, kI_74_22, kI_74_23, kI_74_29, kI_74_30, kI_74_31, kI_74_32, kI_74_33, kR_1_0, kR_1_1, kR_1_2, kR_1_3, kR_1_4, kR_1_5, kR_1_6, kR_1_7, kR_1_8, kR_5_0, kR_5_1, kR_5_2, kR_5_3, kR_10_0, kR_11_0, kR_11_1, kR_11_2, kR_11_3, kR_16_0, kR_16_1, kR_17_0, kR_17_1, kR_21_0, kR_21_1, kR_21_2, kR_21_3, kR_26_0, kR_26_1, kR_29_0, kR_29_1, kR_32_0, kR_32_1, kR_35_0, kR_35_1, kR_39_0, kR_41_0, kR_43_0, kR_45_0, kR_47_0, kR_49_0, kR_51_0, kR_53_0, kR_55_0, kR_57_0, kR_59_0, kR_59_1, kR_60_0, kR_60_1, kR_64_0, kR_64_1, kR_65_0, kR_65_1, kR_69_0, kR_69_1, kR_70_0, kR_70_1, kR_74_0, kR_74_1, kR_74_2, kR_74_3, kR_74_4, kR_74_5, kR_74_6, kR_74_7, kR_74_8, kR_74_9, kR_74_13, kR_74_17, kR_74_24, kR_74_25, kR_74_26, kR_74_27, kR_74_28, kR_74_34, kR_74_35, kR_74_36, kL_1_11, kL_1_12, kL_74_15, kL_74_16, kK_39_1, kK_41_1, kK_43_1, kK_45_1, kK_47_1, kK_49_1, kK_51_1, kK_53_1, kK_55_1, kK_57_1, kA_6, kA_7, kA_8, kA_9, kA_12, kA_13, kA_14, kA_15, kA_18, kA_19, kA_20, kA_23, kA_24, kA_25, kA_27, kA_28, kA_30, kA_31, kA_33, kA_34, kA_36, kA_37, kA_38, kA_40, kA_42, kA_44, kA_46, kA_48, kA_50, kA_52, kA_54, kA_56, kA_58, kA_61, kA_62, kA_63, kA_66, kA_67, kA_68, kA_71, kA_72, kA_73, kA_75, kA_76, kA_77, kA_78, kA_79, kA_80, kA_81, kA_82, kA_83, kA_84, kA_85, kA_86, kA_87, kA_88, kA_89, kA_90, kA_91, kA_92, kA_93, kA_94, kQ_2, kQ_3, kQ_4, kQ_22, kC_1, kC_5, kC_10, kC_11, kC_16, kC_17, kC_21, kC_26, kC_29, kC_32, kC_35, kC_39, kC_41, kC_43, kC_45, kC_47, kC_49, kC_51, kC_53, kC_55, kC_57, kC_59, kC_60, kC_64, kC_65, kC_69, kC_70, kC_74, hm10, c1, ci, cli, gi, hw, not_true_eq_false, not_false_eq_true, nI_p1, remI_hp _ _ _ ne1, divI_hp _ _ _ ne1, rm, rd, hj2, jm, k0, k1, k2, cj, clj, gj, wj]
end PAIRS
