/-! Deeds: the reference. -/
section DEEDM
variable {B : BT}
theorem MN.tr {D D' : DT} {x y : Nat} {N : NT} (h : MN D x N) (e : ∀ t, t < 11 → fG D' 79 (y + t) = fG D 79 (x + t)) : MN D' y N := by
  obtain ⟨⟨h1, h2, h3⟩, h4, h5, h6⟩ := h
  refine ⟨⟨(e 0 (by omega)).trans h1, (e 2 (by omega)).trans h2, fun k hk => ?_⟩, (e 1 (by omega)).trans h4, (e 3 (by omega)).trans h5, (e 4 (by omega)).trans h6⟩
  have := e (5 + k) (by omega)
  rw [← Nat.add_assoc, ← Nat.add_assoc] at this
  exact this.trans (h3 k hk)
theorem MNi.tr {D D' : DT} {x y m : Nat} {q : QT} {s c : Int32} {ds : List Nat} (h : MNi D x m q s c ds) (hl : ds.length ≤ 40) (e : ∀ t, t < 462 → fG D' 79 (y + t) = fG D 79 (x + t)) : MNi D' y m q s c ds := by
  refine ⟨h.1.tr (fun t ht => e t (by omega)), fun k hk => (h.2 k hk).tr (fun t ht => ?_)⟩
  have := e (22 + 11 * k + t) (by omega)
  rw [show y + 22 + 11 * k + t = y + (22 + 11 * k + t) by omega, this]
  congr 1
  omega
theorem take_snoc {α : Type} (a : α) : ∀ (l : List α) (k : Nat), k ≤ l.length → (l ++ [a]).take k = l.take k := by
  intro l
  induction l with
  | nil =>
    intro k h
    have : k = 0 := by simpa using h
    subst this
    rfl
  | cons b l ih =>
    intro k h
    cases k with
    | zero => rfl
    | succ k =>
      show b :: (l ++ [a]).take k = b :: l.take k
      rw [ih k (by rw [List.length_cons] at h; omega)]
def Tmd : Nat → Nat → Prop := fun x k => (x = 79 ∧ k = 63) ∨ (x = 74 ∧ k = 11)
/-- the reference remembers, then changes its first eleven places -/
def Mre (D D1 : DT) (q : QT) (s c : Int32) (ds : List Nat) : Prop := fI D1 74 11 = nI (ds.length + 1) ∧ Off Tmd D D1 ∧ (∀ t, 462 ≤ t → fG D1 79 t = fG D 79 t) ∧ (∀ t, t < 11 → fG D1 79 t = fG D 79 t) ∧ ∀ k, k ≤ ds.length → MN D1 (22 + 11 * k) (runs q s c (ds.take k))
def Mde (D D' : DT) (m : Nat) (q : QT) (s c : Int32) (ds : List Nat) (e : Nat) : Prop := MNi D' 0 m q s c (ds ++ [e]) ∧ fI D' 74 11 = nI (ds ++ [e]).length ∧ Off Tmd D D' ∧ ∀ t, 462 ≤ t → fG D' 79 t = fG D 79 t
theorem m_remember {D : DT} {m : Nat} {q : QT} {s c : Int32} {ds : List Nat} (hX : MNi D 0 m q s c ds) (h11 : fI D 74 11 = nI ds.length) (hl : ds.length < 40) : ∃ D1, P_X8_remember 74 (hp B D) = some ((), hp B D1) ∧ Mre D D1 q s c ds := by
  have t := m_take (B := B) D (x := 0) (y := 22 + 11 * ds.length) (n := 11) (by omega) (by omega) (by omega)
  have e22 : (22 : Int32) + 11 * nI ds.length = nI (22 + 11 * ds.length) := by rw [show (11 : Int32) = nI 11 from rfl, show (22 : Int32) = nI 22 from rfl, pk_mul, nI_add]
  generalize hG : (fun t => if 22 + 11 * ds.length ≤ t ∧ t < 22 + 11 * ds.length + 11 then fG D 79 (0 + (t - (22 + 11 * ds.length))) else fG D 79 t) = G at t
  have g1 : ∀ t, t < 22 + 11 * ds.length ∨ 22 + 11 * ds.length + 11 ≤ t → G t = fG D 79 t := fun t h => by
    rw [← hG]
    show (if _ then _ else _) = _
    rw [if_neg (by omega)]
  have g2 : ∀ t, t < 11 → G (22 + 11 * ds.length + t) = fG D 79 (0 + t) := fun t h => by
    rw [← hG]
    show (if _ then _ else _) = _
    rw [if_pos (by omega), show 22 + 11 * ds.length + t - (22 + 11 * ds.length) = t by omega]
  have e11 : nI 11 = (11 : Int32) := rfl
  rw [nI_0, e11] at t
  have eg : fG (uI (uG D 79 G) 74 11 (nI (ds.length + 1))) 79 = G := by rw [fG_uI, fG_uG, if_pos rfl]
  refine ⟨uI (uG D 79 G) 74 11 (nI (ds.length + 1)), ?_, ?_, ((Off.refl D).uG _ _ (Or.inl ⟨rfl, rfl⟩)).uI _ _ _ (Or.inr ⟨rfl, rfl⟩), fun t h => ?_, fun t h => ?_, fun k hk => ?_⟩
  · simp only [P_X8_remember, pureM_hp, ifB_t, ifB_f, decide_true, decide_false, ifB_hp, jn_hp, retZ_0, retZ_1, thn_some, cll0_w, cllV_w, getI_w, getL_w, getR_w, setI_w, setZ_w0, setZ_w1, setL_w, ald_w, ast_w, alen_w, aldR_2, aldR_3, aldR_4, aldR_22, cll0_pure, ↓reduceIte, if_true, if_false, Bool.false_eq_true, reduceCtorEq, and_true, true_and, and_false, false_and, ite_self, kI_1_9, kI_1_10, kI_5_4, kI_5_5, kI_5_6, kI_10_1, kI_11_4, kI_11_5, kI_11_6, kI_16_2, kI_16_3, kI_16_4, kI_16_5, kI_16_6, kI_17_2, kI_17_3, kI_21_4, kI_21_5, kI_21_6, kI_21_7, kI_21_8, kI_21_9, kI_21_10, kI_21_11, kI_26_2, kI_26_3, kI_29_2, kI_29_3, kI_32_2, kI_32_3, kI_35_2, kI_39_2, kI_39_3, kI_41_2, kI_41_3, kI_43_2, kI_43_3, kI_45_2, kI_45_3, kI_47_2, kI_47_3, kI_49_2, kI_49_3, kI_51_2, kI_51_3, kI_53_2, kI_53_3, kI_55_2, kI_55_3, kI_57_2, kI_57_3, kI_59_2, kI_59_3, kI_59_4, kI_59_5, kI_59_6, kI_60_2, kI_60_3, kI_64_2, kI_64_3, kI_64_4, kI_64_5, kI_64_6, kI_65_2, kI_65_3, kI_69_2, kI_69_3, kI_69_4, kI_69_5, kI_69_6, kI_70_2, kI_70_3, kI_74_10, kI_74_11, kI_74_12, kI_74_14, kI_74_18, kI_74_19, kI_74_20, kI_74_21, kI_74_22, kI_74_23, kI_74_29, kI_74_30, kI_74_31, kI_74_32, kI_74_33, kR_1_0, kR_1_1, kR_1_2, kR_1_3, kR_1_4, kR_1_5, kR_1_6, kR_1_7, kR_1_8, kR_5_0, kR_5_1, kR_5_2, kR_5_3, kR_10_0, kR_11_0, kR_11_1, kR_11_2, kR_11_3, kR_16_0, kR_16_1, kR_17_0, kR_17_1, kR_21_0, kR_21_1, kR_21_2, kR_21_3, kR_26_0, kR_26_1, kR_29_0, kR_29_1, kR_32_0, kR_32_1, kR_35_0, kR_35_1, kR_39_0, kR_41_0, kR_43_0, kR_45_0, kR_47_0, kR_49_0, kR_51_0, kR_53_0, kR_55_0, kR_57_0, kR_59_0, kR_59_1, kR_60_0, kR_60_1, kR_64_0, kR_64_1, kR_65_0, kR_65_1, kR_69_0, kR_69_1, kR_70_0, kR_70_1, kR_74_0, kR_74_1, kR_74_2, kR_74_3, kR_74_4, kR_74_5, kR_74_6, kR_74_7, kR_74_8, kR_74_9, kR_74_13, kR_74_17, kR_74_24, kR_74_25, kR_74_26, kR_74_27, kR_74_28, kR_74_34, kR_74_35, kR_74_36, kL_1_11, kL_1_12, kL_74_15, kL_74_16, kK_39_1, kK_41_1, kK_43_1, kK_45_1, kK_47_1, kK_49_1, kK_51_1, kK_53_1, kK_55_1, kK_57_1, kA_6, kA_7, kA_8, kA_9, kA_12, kA_13, kA_14, kA_15, kA_18, kA_19, kA_20, kA_23, kA_24, kA_25, kA_27, kA_28, kA_30, kA_31, kA_33, kA_34, kA_36, kA_37, kA_38, kA_40, kA_42, kA_44, kA_46, kA_48, kA_50, kA_52, kA_54, kA_56, kA_58, kA_61, kA_62, kA_63, kA_66, kA_67, kA_68, kA_71, kA_72, kA_73, kA_75, kA_76, kA_77, kA_78, kA_79, kA_80, kA_81, kA_82, kA_83, kA_84, kA_85, kA_86, kA_87, kA_88, kA_89, kA_90, kA_91, kA_92, kA_93, kA_94, kQ_2, kQ_3, kQ_4, kQ_22, kC_1, kC_5, kC_10, kC_11, kC_16, kC_17, kC_21, kC_26, kC_29, kC_32, kC_35, kC_39, kC_41, kC_43, kC_45, kC_47, kC_49, kC_51, kC_53, kC_55, kC_57, kC_59, kC_60, kC_64, kC_65, kC_69, kC_70, kC_74, h11, e22, t, fI_uG, nI_p1]
  · rw [fI_uI, if_pos ⟨rfl, rfl⟩]
  · rw [eg, g1 t (by omega)]
  · rw [eg, g1 t (by omega)]
  · by_cases e : k = ds.length
    · rw [e, take_all]
      exact hX.1.tr (fun t ht => by rw [eg, g2 t ht])
    · have h2 := hX.2 k (by omega)
      exact h2.tr (fun t ht => by rw [eg, g1 _ (by omega)])
theorem Mre.mk {D D1 D2 : DT} {m : Nat} {q : QT} {s c : Int32} {ds : List Nat} {e : Nat} (h : Mre D D1 q s c ds) (o : Off (fun x k => x = 79 ∧ k = 63) D1 D2) (h2 : ∀ t, 11 ≤ t → fG D2 79 t = fG D1 79 t) (h3 : MN D2 0 (dd q (runs q s c ds) e)) : Mde D D2 m q s c ds e := by
  obtain ⟨g1, g2, g3, g4, g5⟩ := h
  refine ⟨⟨by rw [runs_snoc]; exact h3, fun k hk => ?_⟩, ?_, g2.trans (o.mono (fun x k h => Or.inl h)), fun t ht => by rw [h2 t (by omega), g3 t ht]⟩
  · rw [List.length_append, List.length_singleton] at hk
    rw [take_snoc e ds k (by omega), Nat.zero_add]
    exact (g5 k (by omega)).tr (fun t ht => h2 _ (by omega))
  · rw [(o.1 74 11 (by omega)).1, g1, List.length_append]; rfl
theorem Mre.n {D D1 : DT} {m : Nat} {q : QT} {s c : Int32} {ds : List Nat} (h : Mre D D1 q s c ds) (hX : MNi D 0 m q s c ds) : MN D1 0 (runs q s c ds) := hX.1.tr (fun t ht => by rw [Nat.zero_add]; exact h.2.2.2.1 t ht)
theorem Mre.f {D D1 : DT} {m : Nat} {q : QT} {s c : Int32} {ds : List Nat} (h : Mre D D1 q s c ds) (hF : MF D m q) : MF D1 m q := hF.off h.2.1 (by unfold Tmd; omega) (fun a h1 h2 => by unfold Tmd; omega)
theorem m_dWatch {D : DT} {m : Nat} {q : QT} {s c : Int32} {ds : List Nat} (hF : MF D m q) (hm6 : m ≤ 6) (hX : MNi D 0 m q s c ds) (hV : HV m (runs q s c ds).1) (h11 : fI D 74 11 = nI ds.length) (hl : ds.length < 40) {i j : Nat} (hi : i < m) (hj : j < m) (hij : i ≠ j) :
    ∃ D', P_X8_watch 74 (nI i) (nI j) (hp B D) = some ((runs q s c (ds ++ [10 * i + j])).1.1, hp B D') ∧ Mde D D' m q s c ds (10 * i + j) := by
  obtain ⟨D1, g1, g2⟩ := m_remember (B := B) hX h11 hl
  have hN := g2.n hX
  obtain ⟨g, r1, r2, r3⟩ := m_watchIn (B := B) (g2.f hF) hN.1 hV hm6 (show 0 + 11 ≤ 1848 by omega) hi hj
  rw [nI_0] at r1
  have c1 := ixc hi (show m < 2 ^ 30 by omega)
  have c2 := ixc hj (show m < 2 ^ 30 by omega)
  have hne : ¬ nI i = nI j := fun h => hij ((nI_eq (by omega) (by omega)).mp h)
  have h40 : ¬ nI ds.length = 40 := fun h => by
    have := (nI_eq (b := 40) (by omega) (by omega)).mp h
    omega
  have er : runs q s c (ds ++ [10 * i + j]) = (wat q (runs q s c ds).1 i j, (runs q s c ds).2) := by rw [runs_snoc, dd_w q _ (by omega) (by omega)]
  have eg : fG (uG D1 79 g) 79 = g := by rw [fG_uG, if_pos rfl]
  have r0 : fG (uG D1 79 g) 79 0 = (wat q (runs q s c ds).1 i j).1 := r2.1
  refine ⟨uG D1 79 g, ?_, g2.mk ((Off.refl D1).uG _ _ ⟨rfl, rfl⟩) (fun t ht => by rw [eg, r3 t (by omega)]) ?_⟩
  · simp only [P_X8_watch, pureM_hp, ifB_t, ifB_f, decide_true, decide_false, ifB_hp, jn_hp, retZ_0, retZ_1, thn_some, cll0_w, cllV_w, getI_w, getL_w, getR_w, setI_w, setZ_w0, setZ_w1, setL_w, ald_w, ast_w, alen_w, aldR_2, aldR_3, aldR_4, aldR_22, cll0_pure, ↓reduceIte, if_true, if_false, Bool.false_eq_true, reduceCtorEq, and_true, true_and, and_false, false_and, ite_self, Int32.reduceAdd, Int32.reduceToInt, Int32.reduceToNatClampNeg, Int32.reduceLT, Int32.reduceLE, Int.reduceLE, Int.reduceLT, Int.reduceNeg, Int.reduceAdd, Nat.reduceEqDiff, Nat.reduceAdd, Nat.reduceMul, Nat.reduceLeDiff, not_true_eq_false, not_false_eq_true, le_i, lt_i, b2i_0, lgi_gt, lgi_lt, lgi_le, lgi_ge, lq_m9_m6, lq_m9_m4, lq_m9_m3, lq_m9_m2, lq_m9_m1, lq_m9_0, lq_m9_1, lq_m9_2, lq_m9_3, lq_m9_4, lq_m9_5, lq_m6_m9, lq_m6_m4, lq_m6_m3, lq_m6_m2, lq_m6_m1, lq_m6_0, lq_m6_1, lq_m6_2, lq_m6_3, lq_m6_4, lq_m6_5, lq_m4_m9, lq_m4_m6, lq_m4_m3, lq_m4_m2, lq_m4_m1, lq_m4_0, lq_m4_1, lq_m4_2, lq_m4_3, lq_m4_4, lq_m4_5, lq_m3_m9, lq_m3_m6, lq_m3_m4, lq_m3_m2, lq_m3_m1, lq_m3_0, lq_m3_1, lq_m3_2, lq_m3_3, lq_m3_4, lq_m3_5, lq_m2_m9, lq_m2_m6, lq_m2_m4, lq_m2_m3, lq_m2_m1, lq_m2_0, lq_m2_1, lq_m2_2, lq_m2_3, lq_m2_4, lq_m2_5, lq_m1_m9, lq_m1_m6, lq_m1_m4, lq_m1_m3, lq_m1_m2, lq_m1_0, lq_m1_1, lq_m1_2, lq_m1_3, lq_m1_4, lq_m1_5, lq_0_m9, lq_0_m6, lq_0_m4, lq_0_m3, lq_0_m2, lq_0_m1, lq_0_1, lq_0_2, lq_0_3, lq_0_4, lq_0_5, lq_1_m9, lq_1_m6, lq_1_m4, lq_1_m3, lq_1_m2, lq_1_m1, lq_1_0, lq_1_2, lq_1_3, lq_1_4, lq_1_5, lq_2_m9, lq_2_m6, lq_2_m4, lq_2_m3, lq_2_m2, lq_2_m1, lq_2_0, lq_2_1, lq_2_3, lq_2_4, lq_2_5, lq_3_m9, lq_3_m6, lq_3_m4, lq_3_m3, lq_3_m2, lq_3_m1, lq_3_0, lq_3_1, lq_3_2, lq_3_4, lq_3_5, lq_4_m9, lq_4_m6, lq_4_m4, lq_4_m3, lq_4_m2, lq_4_m1, lq_4_0, lq_4_1, lq_4_2, lq_4_3, lq_4_5, lq_5_m9, lq_5_m6, lq_5_m4, lq_5_m3, lq_5_m2, lq_5_m1, lq_5_0, lq_5_1, lq_5_2, lq_5_3, lq_5_4, ti_m9, ti_m6, ti_m4, ti_m3, ti_m2, ti_m1, ti_0, ti_1, ti_2, ti_3, ti_4, ti_5, kI_1_9, kI_1_10, kI_5_4, kI_5_5, kI_5_6, kI_10_1, kI_11_4, kI_11_5, kI_11_6, kI_16_2, kI_16_3, kI_16_4, kI_16_5, kI_16_6, kI_17_2, kI_17_3, kI_21_4, kI_21_5, kI_21_6, kI_21_7, kI_21_8, kI_21_9, kI_21_10, kI_21_11, kI_26_2, kI_26_3, kI_29_2, kI_29_3, kI_32_2, kI_32_3, kI_35_2, kI_39_2, kI_39_3, kI_41_2, kI_41_3, kI_43_2, kI_43_3, kI_45_2, kI_45_3, kI_47_2, kI_47_3, kI_49_2, kI_49_3, kI_51_2, kI_51_3, kI_53_2, kI_53_3, kI_55_2, kI_55_3, kI_57_2, kI_57_3, kI_59_2, kI_59_3, kI_59_4, kI_59_5, kI_59_6, kI_60_2, kI_60_3, kI_64_2, kI_64_3, kI_64_4, kI_64_5, kI_64_6, kI_65_2, kI_65_3, kI_69_2, kI_69_3, kI_69_4, kI_69_5, kI_69_6, kI_70_2, kI_70_3, kI_74_10, kI_74_11, kI_74_12, kI_74_14, kI_74_18, kI_74_19, kI_74_20, kI_74_21, kI_74_22, kI_74_23, kI_74_29, kI_74_30, kI_74_31, kI_74_32, kI_74_33, kR_1_0, kR_1_1, kR_1_2, kR_1_3, kR_1_4, kR_1_5, kR_1_6, kR_1_7, kR_1_8, kR_5_0, kR_5_1, kR_5_2, kR_5_3, kR_10_0, kR_11_0, kR_11_1, kR_11_2, kR_11_3, kR_16_0, kR_16_1, kR_17_0, kR_17_1, kR_21_0, kR_21_1, kR_21_2, kR_21_3, kR_26_0, kR_26_1, kR_29_0, kR_29_1, kR_32_0, kR_32_1, kR_35_0, kR_35_1, kR_39_0, kR_41_0, kR_43_0, kR_45_0, kR_47_0, kR_49_0, kR_51_0, kR_53_0, kR_55_0, kR_57_0, kR_59_0, kR_59_1, kR_60_0, kR_60_1, kR_64_0, kR_64_1, kR_65_0, kR_65_1, kR_69_0, kR_69_1, kR_70_0, kR_70_1, kR_74_0, kR_74_1, kR_74_2, kR_74_3, kR_74_4, kR_74_5, kR_74_6, kR_74_7, kR_74_8, kR_74_9, kR_74_13, kR_74_17, kR_74_24, kR_74_25, kR_74_26, kR_74_27, kR_74_28, kR_74_34, kR_74_35, kR_74_36, kL_1_11, kL_1_12, kL_74_15, kL_74_16, kK_39_1, kK_41_1, kK_43_1, kK_45_1, kK_47_1, kK_49_1, kK_51_1, kK_53_1, kK_55_1, kK_57_1, kA_6, kA_7, kA_8, kA_9, kA_12, kA_13, kA_14, kA_15, kA_18, kA_19, kA_20, kA_23, kA_24, kA_25, kA_27, kA_28, kA_30, kA_31, kA_33, kA_34, kA_36, kA_37, kA_38, kA_40, kA_42, kA_44, kA_46, kA_48, kA_50, kA_52, kA_54, kA_56, kA_58, kA_61, kA_62, kA_63, kA_66, kA_67, kA_68, kA_71, kA_72, kA_73, kA_75, kA_76, kA_77, kA_78, kA_79, kA_80, kA_81, kA_82, kA_83, kA_84, kA_85, kA_86, kA_87, kA_88, kA_89, kA_90, kA_91, kA_92, kA_93, kA_94, kQ_2, kQ_3, kQ_4, kQ_22, kC_1, kC_5, kC_10, kC_11, kC_16, kC_17, kC_21, kC_26, kC_29, kC_32, kC_35, kC_39, kC_41, kC_43, kC_45, kC_47, kC_49, kC_51, kC_53, kC_55, kC_57, kC_59, kC_60, kC_64, kC_65, kC_69, kC_70, kC_74, m_isPair hF.1 hm6, c1, c2, hne, and_self, decide_true, h11, h40, g1, r1, er]
    exact congrArg (fun z => some (z, hp B (uG D1 79 g))) r0
  · rw [dd_w q _ (by omega) (by omega)]
    refine ⟨r2, ?_, ?_, ?_⟩
    · show fG (uG D1 79 g) 79 1 = _
      rw [eg, r3 1 (by omega)]; exact hN.2.1
    · show fG (uG D1 79 g) 79 3 = _
      rw [eg, r3 3 (by omega)]; exact hN.2.2.1
    · show fG (uG D1 79 g) 79 4 = _
      rw [eg, r3 4 (by omega)]; exact hN.2.2.2
theorem MN.of {D : DT} {g : Nat → Int32} {N : NT} (hg : fG D 79 = g) : MN D 0 N ↔ g 0 = N.1.1 ∧ g 2 = N.1.2.1 ∧ (∀ k, k < 6 → g (5 + k) = N.1.2.2 k) ∧ g 1 = N.2.1 ∧ g 3 = N.2.2.1 ∧ g 4 = N.2.2.2 := by
  subst hg
  have e : ∀ k, 0 + 5 + k = 5 + k := fun k => by omega
  unfold MN MH wv
  simp only [Nat.zero_add, e]
  exact ⟨fun ⟨⟨a, b, c⟩, d, e, f⟩ => ⟨a, b, c, d, e, f⟩, fun ⟨a, b, c, d, e, f⟩ => ⟨⟨a, b, c⟩, d, e, f⟩⟩
theorem m_dLoad {D : DT} {m : Nat} {q : QT} {s c : Int32} {ds : List Nat} (hm : fI D 74 10 = nI m) (hm1 : ¬ m = 0) (hm6 : m ≤ 6) (hX : MNi D 0 m q s c ds) (h11 : fI D 74 11 = nI ds.length) (hl : ds.length < 40) {v : Nat} (hv : v ≤ 60) :
    ∃ D', P_X8_load 74 (nI v) (hp B D) = some (if nI v ≤ (runs q s c ds).1.1 then 1 else 0, hp B D') ∧ Mde D D' m q s c ds (100 + v) := by
  obtain ⟨D1, g1, g2⟩ := m_remember (B := B) hX h11 hl
  have hN := g2.n hX
  have h40 : ¬ nI ds.length = 40 := fun h => by
    have := (nI_eq (b := 40) (by omega) (by omega)).mp h
    omega
  have hm0 : ¬ nI m = 0 := fun h => by
    have := (nI_eq (b := 0) (by omega) (by omega)).mp h
    omega
  have e0 : (0 : Int64).toInt = 0 := rfl
  have e60 : (60 : Int64).toInt = 60 := rfl
  have cv : 0 ≤ (nI v).toInt ∧ (nI v).toInt ≤ 60 := by rw [nI_toInt (by omega)]; omega
  have n0 : (0 : Int32).toNatClampNeg = 0 := rfl
  have n3 : (3 : Int32).toNatClampNeg = 3 := rfl
  have n4 : (4 : Int32).toNatClampNeg = 4 := rfl
  have t0 : (0 : Int32).toInt = 0 := rfl
  have t3 : (3 : Int32).toInt = 3 := rfl
  have t4 : (4 : Int32).toInt = 4 := rfl
  have b0 : (0 : Int) ≤ 0 ∧ (0 : Int) < ((1848 : Nat) : Int) := by omega
  have b3 : (0 : Int) ≤ 3 ∧ (3 : Int) < ((1848 : Nat) : Int) := by omega
  have b4 : (0 : Int) ≤ 4 ∧ (4 : Int) < ((1848 : Nat) : Int) := by omega
  obtain ⟨g, hg⟩ : ∃ g, fG D1 79 = g := ⟨_, rfl⟩
  obtain ⟨w0, w2, w5, w1, w3, w4⟩ := (MN.of hg).mp hN
  by_cases hs : nI v ≤ (runs q s c ds).1.1
  · have hs' : ¬ (runs q s c ds).1.1 < nI v := Int32.not_lt.mpr hs
    refine ⟨uG D1 79 (upd (upd (upd g 3 (g 3 + 1)) 4 (g 4)) 0 (g 0)), ?_, g2.mk ((Off.refl D1).uG _ _ ⟨rfl, rfl⟩) (fun t ht => ?_) ?_⟩
    · simp only [P_X8_load, P_X8_send, pureM_hp, ifB_t, ifB_f, decide_true, decide_false, ifB_hp, jn_hp, retZ_0, retZ_1, thn_some, cll0_w, cllV_w, getI_w, getL_w, getR_w, setI_w, setZ_w0, setZ_w1, setL_w, ald_w, ast_w, alen_w, aldR_2, aldR_3, aldR_4, aldR_22, cll0_pure, ↓reduceIte, if_true, if_false, Bool.false_eq_true, reduceCtorEq, and_true, true_and, and_false, false_and, ite_self, kI_1_9, kI_1_10, kI_5_4, kI_5_5, kI_5_6, kI_10_1, kI_11_4, kI_11_5, kI_11_6, kI_16_2, kI_16_3, kI_16_4, kI_16_5, kI_16_6, kI_17_2, kI_17_3, kI_21_4, kI_21_5, kI_21_6, kI_21_7, kI_21_8, kI_21_9, kI_21_10, kI_21_11, kI_26_2, kI_26_3, kI_29_2, kI_29_3, kI_32_2, kI_32_3, kI_35_2, kI_39_2, kI_39_3, kI_41_2, kI_41_3, kI_43_2, kI_43_3, kI_45_2, kI_45_3, kI_47_2, kI_47_3, kI_49_2, kI_49_3, kI_51_2, kI_51_3, kI_53_2, kI_53_3, kI_55_2, kI_55_3, kI_57_2, kI_57_3, kI_59_2, kI_59_3, kI_59_4, kI_59_5, kI_59_6, kI_60_2, kI_60_3, kI_64_2, kI_64_3, kI_64_4, kI_64_5, kI_64_6, kI_65_2, kI_65_3, kI_69_2, kI_69_3, kI_69_4, kI_69_5, kI_69_6, kI_70_2, kI_70_3, kI_74_10, kI_74_11, kI_74_12, kI_74_14, kI_74_18, kI_74_19, kI_74_20, kI_74_21, kI_74_22, kI_74_23, kI_74_29, kI_74_30, kI_74_31, kI_74_32, kI_74_33, kR_1_0, kR_1_1, kR_1_2, kR_1_3, kR_1_4, kR_1_5, kR_1_6, kR_1_7, kR_1_8, kR_5_0, kR_5_1, kR_5_2, kR_5_3, kR_10_0, kR_11_0, kR_11_1, kR_11_2, kR_11_3, kR_16_0, kR_16_1, kR_17_0, kR_17_1, kR_21_0, kR_21_1, kR_21_2, kR_21_3, kR_26_0, kR_26_1, kR_29_0, kR_29_1, kR_32_0, kR_32_1, kR_35_0, kR_35_1, kR_39_0, kR_41_0, kR_43_0, kR_45_0, kR_47_0, kR_49_0, kR_51_0, kR_53_0, kR_55_0, kR_57_0, kR_59_0, kR_59_1, kR_60_0, kR_60_1, kR_64_0, kR_64_1, kR_65_0, kR_65_1, kR_69_0, kR_69_1, kR_70_0, kR_70_1, kR_74_0, kR_74_1, kR_74_2, kR_74_3, kR_74_4, kR_74_5, kR_74_6, kR_74_7, kR_74_8, kR_74_9, kR_74_13, kR_74_17, kR_74_24, kR_74_25, kR_74_26, kR_74_27, kR_74_28, kR_74_34, kR_74_35, kR_74_36, kL_1_11, kL_1_12, kL_74_15, kL_74_16, kK_39_1, kK_41_1, kK_43_1, kK_45_1, kK_47_1, kK_49_1, kK_51_1, kK_53_1, kK_55_1, kK_57_1, kA_6, kA_7, kA_8, kA_9, kA_12, kA_13, kA_14, kA_15, kA_18, kA_19, kA_20, kA_23, kA_24, kA_25, kA_27, kA_28, kA_30, kA_31, kA_33, kA_34, kA_36, kA_37, kA_38, kA_40, kA_42, kA_44, kA_46, kA_48, kA_50, kA_52, kA_54, kA_56, kA_58, kA_61, kA_62, kA_63, kA_66, kA_67, kA_68, kA_71, kA_72, kA_73, kA_75, kA_76, kA_77, kA_78, kA_79, kA_80, kA_81, kA_82, kA_83, kA_84, kA_85, kA_86, kA_87, kA_88, kA_89, kA_90, kA_91, kA_92, kA_93, kA_94, kQ_2, kQ_3, kQ_4, kQ_22, kC_1, kC_5, kC_10, kC_11, kC_16, kC_17, kC_21, kC_26, kC_29, kC_32, kC_35, kC_39, kC_41, kC_43, kC_45, kC_47, kC_49, kC_51, kC_53, kC_55, kC_57, kC_59, kC_60, kC_64, kC_65, kC_69, kC_70, kC_74, X8_in_p, Int32.toInt_toInt64, e0, e60, cv, hm, hm0, h11, h40, g1, hg, uG_uG, fG_uG, n0, n3, n4, t0, t3, t4, b0, b3, b4, w0, hs', hs, not_true_eq_false, not_false_eq_true, b2i_0]
      simp [upd, ← w0, b2i, hm0, h40, g1, fG_uG, hg, hs', thn_some, pureM_hp]
    · rw [fG_uG, if_pos rfl, hg]
      simp [upd, show ¬ t = 0 by omega, show ¬ t = 3 by omega, show ¬ t = 4 by omega]
    · rw [dd_l q _ hv, if_pos hs, MN.of (by rw [fG_uG, if_pos rfl])]
      refine ⟨?_, ?_, fun k hk => ?_, ?_, ?_, ?_⟩
      · simp [upd, w0]
      · simp [upd, w2]
      · simp [upd, w5 k hk, show ¬ 5 + k = 0 by omega, show ¬ 5 + k = 3 by omega, show ¬ 5 + k = 4 by omega]
      · simp [upd, w1]
      · simp [upd, w3]
      · simp [upd, w4]
  · have hs' : (runs q s c ds).1.1 < nI v := Int32.not_le.mp hs
    refine ⟨uG D1 79 (upd (upd (upd g 3 (g 3)) 4 (g 4 + 1)) 0 0), ?_, g2.mk ((Off.refl D1).uG _ _ ⟨rfl, rfl⟩) (fun t ht => ?_) ?_⟩
    · simp only [P_X8_load, P_X8_send, pureM_hp, ifB_t, ifB_f, decide_true, decide_false, ifB_hp, jn_hp, retZ_0, retZ_1, thn_some, cll0_w, cllV_w, getI_w, getL_w, getR_w, setI_w, setZ_w0, setZ_w1, setL_w, ald_w, ast_w, alen_w, aldR_2, aldR_3, aldR_4, aldR_22, cll0_pure, ↓reduceIte, if_true, if_false, Bool.false_eq_true, reduceCtorEq, and_true, true_and, and_false, false_and, ite_self, kI_1_9, kI_1_10, kI_5_4, kI_5_5, kI_5_6, kI_10_1, kI_11_4, kI_11_5, kI_11_6, kI_16_2, kI_16_3, kI_16_4, kI_16_5, kI_16_6, kI_17_2, kI_17_3, kI_21_4, kI_21_5, kI_21_6, kI_21_7, kI_21_8, kI_21_9, kI_21_10, kI_21_11, kI_26_2, kI_26_3, kI_29_2, kI_29_3, kI_32_2, kI_32_3, kI_35_2, kI_39_2, kI_39_3, kI_41_2, kI_41_3, kI_43_2, kI_43_3, kI_45_2, kI_45_3, kI_47_2, kI_47_3, kI_49_2, kI_49_3, kI_51_2, kI_51_3, kI_53_2, kI_53_3, kI_55_2, kI_55_3, kI_57_2, kI_57_3, kI_59_2, kI_59_3, kI_59_4, kI_59_5, kI_59_6, kI_60_2, kI_60_3, kI_64_2, kI_64_3, kI_64_4, kI_64_5, kI_64_6, kI_65_2, kI_65_3, kI_69_2, kI_69_3, kI_69_4, kI_69_5, kI_69_6, kI_70_2, kI_70_3, kI_74_10, kI_74_11, kI_74_12, kI_74_14, kI_74_18, kI_74_19, kI_74_20, kI_74_21, kI_74_22, kI_74_23, kI_74_29, kI_74_30, kI_74_31, kI_74_32, kI_74_33, kR_1_0, kR_1_1, kR_1_2, kR_1_3, kR_1_4, kR_1_5, kR_1_6, kR_1_7, kR_1_8, kR_5_0, kR_5_1, kR_5_2, kR_5_3, kR_10_0, kR_11_0, kR_11_1, kR_11_2, kR_11_3, kR_16_0, kR_16_1, kR_17_0, kR_17_1, kR_21_0, kR_21_1, kR_21_2, kR_21_3, kR_26_0, kR_26_1, kR_29_0, kR_29_1, kR_32_0, kR_32_1, kR_35_0, kR_35_1, kR_39_0, kR_41_0, kR_43_0, kR_45_0, kR_47_0, kR_49_0, kR_51_0, kR_53_0, kR_55_0, kR_57_0, kR_59_0, kR_59_1, kR_60_0, kR_60_1, kR_64_0, kR_64_1, kR_65_0, kR_65_1, kR_69_0, kR_69_1, kR_70_0, kR_70_1, kR_74_0, kR_74_1, kR_74_2, kR_74_3, kR_74_4, kR_74_5, kR_74_6, kR_74_7, kR_74_8, kR_74_9, kR_74_13, kR_74_17, kR_74_24, kR_74_25, kR_74_26, kR_74_27, kR_74_28, kR_74_34, kR_74_35, kR_74_36, kL_1_11, kL_1_12, kL_74_15, kL_74_16, kK_39_1, kK_41_1, kK_43_1, kK_45_1, kK_47_1, kK_49_1, kK_51_1, kK_53_1, kK_55_1, kK_57_1, kA_6, kA_7, kA_8, kA_9, kA_12, kA_13, kA_14, kA_15, kA_18, kA_19, kA_20, kA_23, kA_24, kA_25, kA_27, kA_28, kA_30, kA_31, kA_33, kA_34, kA_36, kA_37, kA_38, kA_40, kA_42, kA_44, kA_46, kA_48, kA_50, kA_52, kA_54, kA_56, kA_58, kA_61, kA_62, kA_63, kA_66, kA_67, kA_68, kA_71, kA_72, kA_73, kA_75, kA_76, kA_77, kA_78, kA_79, kA_80, kA_81, kA_82, kA_83, kA_84, kA_85, kA_86, kA_87, kA_88, kA_89, kA_90, kA_91, kA_92, kA_93, kA_94, kQ_2, kQ_3, kQ_4, kQ_22, kC_1, kC_5, kC_10, kC_11, kC_16, kC_17, kC_21, kC_26, kC_29, kC_32, kC_35, kC_39, kC_41, kC_43, kC_45, kC_47, kC_49, kC_51, kC_53, kC_55, kC_57, kC_59, kC_60, kC_64, kC_65, kC_69, kC_70, kC_74, X8_in_p, Int32.toInt_toInt64, e0, e60, cv, hm, hm0, h11, h40, g1, hg, uG_uG, fG_uG, n0, n3, n4, t0, t3, t4, b0, b3, b4, w0, hs', hs, not_true_eq_false, not_false_eq_true, b2i_0]
      simp [upd, ← w0, b2i, hm0, h40, g1, fG_uG, hg, hs', thn_some, pureM_hp]
    · rw [fG_uG, if_pos rfl, hg]
      simp [upd, show ¬ t = 0 by omega, show ¬ t = 3 by omega, show ¬ t = 4 by omega]
    · rw [dd_l q _ hv, if_neg hs, MN.of (by rw [fG_uG, if_pos rfl])]
      refine ⟨?_, ?_, fun k hk => ?_, ?_, ?_, ?_⟩
      · simp [upd]
      · simp [upd, w2]
      · simp [upd, w5 k hk, show ¬ 5 + k = 0 by omega, show ¬ 5 + k = 3 by omega, show ¬ 5 + k = 4 by omega]
      · simp [upd, w1]
      · simp [upd, w3]
      · simp [upd, w4]
theorem m_dCoffee {D : DT} {m : Nat} {q : QT} {s c : Int32} {ds : List Nat} (hm : fI D 74 10 = nI m) (hm6 : m ≤ 6) (hX : MNi D 0 m q s c ds) (h11 : fI D 74 11 = nI ds.length) (hl : ds.length < 40) {i : Nat} (hi : i < m) (hu : ¬ (runs q s c ds).1.2.2 i = 0) (hc : ¬ (runs q s c ds).2.1 = 0) :
    ∃ D', P_X8_coffee 74 (nI i) (hp B D) = some ((runs q s c (ds ++ [200 + i])).2.1, hp B D') ∧ Mde D D' m q s c ds (200 + i) := by
  obtain ⟨D1, g1, g2⟩ := m_remember (B := B) hX h11 hl
  have hN := g2.n hX
  have h40 : ¬ nI ds.length = 40 := fun h => by
    have := (nI_eq (b := 40) (by omega) (by omega)).mp h
    omega
  have c1 := ixc hi (show m < 2 ^ 30 by omega)
  have c5 : 0 ≤ (nI (5 + i)).toInt ∧ (nI (5 + i)).toInt < ((1848 : Nat) : Int) := ixc (by omega) (by omega)
  have e5 : (5 : Int32) + nI i = nI (5 + i) := by rw [show (5 : Int32) = nI 5 from rfl, nI_add]
  have n1 : (1 : Int32).toNatClampNeg = 1 := rfl
  have t1 : (1 : Int32).toInt = 1 := rfl
  have b1 : (0 : Int) ≤ 1 ∧ (1 : Int) < ((1848 : Nat) : Int) := by omega
  obtain ⟨g, hg⟩ : ∃ g, fG D1 79 = g := ⟨_, rfl⟩
  obtain ⟨w0, w2, w5, w1, w3, w4⟩ := (MN.of hg).mp hN
  obtain ⟨-, -, v5, v1, -, -⟩ := (MN.of (rfl : fG D 79 = fG D 79)).mp hX.1
  refine ⟨uG D1 79 (upd (upd g 1 (g 1 - 1)) (5 + i) 0), ?_, g2.mk ((Off.refl D1).uG _ _ ⟨rfl, rfl⟩) (fun t ht => ?_) ?_⟩
  · have er : (runs q s c (ds ++ [200 + i])).2.1 = (runs q s c ds).2.1 - 1 := by rw [runs_snoc, dd_c]
    simp only [P_X8_coffee, pureM_hp, ifB_t, ifB_f, decide_true, decide_false, ifB_hp, jn_hp, retZ_0, retZ_1, thn_some, cll0_w, cllV_w, getI_w, getL_w, getR_w, setI_w, setZ_w0, setZ_w1, setL_w, ald_w, ast_w, alen_w, aldR_2, aldR_3, aldR_4, aldR_22, cll0_pure, ↓reduceIte, if_true, if_false, Bool.false_eq_true, reduceCtorEq, and_true, true_and, and_false, false_and, ite_self, Int32.reduceAdd, Int32.reduceToInt, Int32.reduceToNatClampNeg, Int32.reduceLT, Int32.reduceLE, Int.reduceLE, Int.reduceLT, Int.reduceNeg, Int.reduceAdd, Nat.reduceEqDiff, Nat.reduceAdd, Nat.reduceMul, Nat.reduceLeDiff, not_true_eq_false, not_false_eq_true, le_i, lt_i, b2i_0, lgi_gt, lgi_lt, lgi_le, lgi_ge, lq_m9_m6, lq_m9_m4, lq_m9_m3, lq_m9_m2, lq_m9_m1, lq_m9_0, lq_m9_1, lq_m9_2, lq_m9_3, lq_m9_4, lq_m9_5, lq_m6_m9, lq_m6_m4, lq_m6_m3, lq_m6_m2, lq_m6_m1, lq_m6_0, lq_m6_1, lq_m6_2, lq_m6_3, lq_m6_4, lq_m6_5, lq_m4_m9, lq_m4_m6, lq_m4_m3, lq_m4_m2, lq_m4_m1, lq_m4_0, lq_m4_1, lq_m4_2, lq_m4_3, lq_m4_4, lq_m4_5, lq_m3_m9, lq_m3_m6, lq_m3_m4, lq_m3_m2, lq_m3_m1, lq_m3_0, lq_m3_1, lq_m3_2, lq_m3_3, lq_m3_4, lq_m3_5, lq_m2_m9, lq_m2_m6, lq_m2_m4, lq_m2_m3, lq_m2_m1, lq_m2_0, lq_m2_1, lq_m2_2, lq_m2_3, lq_m2_4, lq_m2_5, lq_m1_m9, lq_m1_m6, lq_m1_m4, lq_m1_m3, lq_m1_m2, lq_m1_0, lq_m1_1, lq_m1_2, lq_m1_3, lq_m1_4, lq_m1_5, lq_0_m9, lq_0_m6, lq_0_m4, lq_0_m3, lq_0_m2, lq_0_m1, lq_0_1, lq_0_2, lq_0_3, lq_0_4, lq_0_5, lq_1_m9, lq_1_m6, lq_1_m4, lq_1_m3, lq_1_m2, lq_1_m1, lq_1_0, lq_1_2, lq_1_3, lq_1_4, lq_1_5, lq_2_m9, lq_2_m6, lq_2_m4, lq_2_m3, lq_2_m2, lq_2_m1, lq_2_0, lq_2_1, lq_2_3, lq_2_4, lq_2_5, lq_3_m9, lq_3_m6, lq_3_m4, lq_3_m3, lq_3_m2, lq_3_m1, lq_3_0, lq_3_1, lq_3_2, lq_3_4, lq_3_5, lq_4_m9, lq_4_m6, lq_4_m4, lq_4_m3, lq_4_m2, lq_4_m1, lq_4_0, lq_4_1, lq_4_2, lq_4_3, lq_4_5, lq_5_m9, lq_5_m6, lq_5_m4, lq_5_m3, lq_5_m2, lq_5_m1, lq_5_0, lq_5_1, lq_5_2, lq_5_3, lq_5_4, ti_m9, ti_m6, ti_m4, ti_m3, ti_m2, ti_m1, ti_0, ti_1, ti_2, ti_3, ti_4, ti_5, kI_1_9, kI_1_10, kI_5_4, kI_5_5, kI_5_6, kI_10_1, kI_11_4, kI_11_5, kI_11_6, kI_16_2, kI_16_3, kI_16_4, kI_16_5, kI_16_6, kI_17_2, kI_17_3, kI_21_4, kI_21_5, kI_21_6, kI_21_7, kI_21_8, kI_21_9, kI_21_10, kI_21_11, kI_26_2, kI_26_3, kI_29_2, kI_29_3, kI_32_2, kI_32_3, kI_35_2, kI_39_2, kI_39_3, kI_41_2, kI_41_3, kI_43_2, kI_43_3, kI_45_2, kI_45_3, kI_47_2, kI_47_3, kI_49_2, kI_49_3, kI_51_2, kI_51_3, kI_53_2, kI_53_3, kI_55_2, kI_55_3, kI_57_2, kI_57_3, kI_59_2, kI_59_3, kI_59_4, kI_59_5, kI_59_6, kI_60_2, kI_60_3, kI_64_2, kI_64_3, kI_64_4, kI_64_5, kI_64_6, kI_65_2, kI_65_3, kI_69_2, kI_69_3, kI_69_4, kI_69_5, kI_69_6, kI_70_2, kI_70_3, kI_74_10, kI_74_11, kI_74_12, kI_74_14, kI_74_18, kI_74_19, kI_74_20, kI_74_21, kI_74_22, kI_74_23, kI_74_29, kI_74_30, kI_74_31, kI_74_32, kI_74_33, kR_1_0, kR_1_1, kR_1_2, kR_1_3, kR_1_4, kR_1_5, kR_1_6, kR_1_7, kR_1_8, kR_5_0, kR_5_1, kR_5_2, kR_5_3, kR_10_0, kR_11_0, kR_11_1, kR_11_2, kR_11_3, kR_16_0, kR_16_1, kR_17_0, kR_17_1, kR_21_0, kR_21_1, kR_21_2, kR_21_3, kR_26_0, kR_26_1, kR_29_0, kR_29_1, kR_32_0, kR_32_1, kR_35_0, kR_35_1, kR_39_0, kR_41_0, kR_43_0, kR_45_0, kR_47_0, kR_49_0, kR_51_0, kR_53_0, kR_55_0, kR_57_0, kR_59_0, kR_59_1, kR_60_0, kR_60_1, kR_64_0, kR_64_1, kR_65_0, kR_65_1, kR_69_0, kR_69_1, kR_70_0, kR_70_1, kR_74_0, kR_74_1, kR_74_2, kR_74_3, kR_74_4, kR_74_5, kR_74_6, kR_74_7, kR_74_8, kR_74_9, kR_74_13, kR_74_17, kR_74_24, kR_74_25, kR_74_26, kR_74_27, kR_74_28, kR_74_34, kR_74_35, kR_74_36, kL_1_11, kL_1_12, kL_74_15, kL_74_16, kK_39_1, kK_41_1, kK_43_1, kK_45_1, kK_47_1, kK_49_1, kK_51_1, kK_53_1, kK_55_1, kK_57_1, kA_6, kA_7, kA_8, kA_9, kA_12, kA_13, kA_14, kA_15, kA_18, kA_19, kA_20, kA_23, kA_24, kA_25, kA_27, kA_28, kA_30, kA_31, kA_33, kA_34, kA_36, kA_37, kA_38, kA_40, kA_42, kA_44, kA_46, kA_48, kA_50, kA_52, kA_54, kA_56, kA_58, kA_61, kA_62, kA_63, kA_66, kA_67, kA_68, kA_71, kA_72, kA_73, kA_75, kA_76, kA_77, kA_78, kA_79, kA_80, kA_81, kA_82, kA_83, kA_84, kA_85, kA_86, kA_87, kA_88, kA_89, kA_90, kA_91, kA_92, kA_93, kA_94, kQ_2, kQ_3, kQ_4, kQ_22, kC_1, kC_5, kC_10, kC_11, kC_16, kC_17, kC_21, kC_26, kC_29, kC_32, kC_35, kC_39, kC_41, kC_43, kC_45, kC_47, kC_49, kC_51, kC_53, kC_55, kC_57, kC_59, kC_60, kC_64, kC_65, kC_69, kC_70, kC_74, m_isOne hm hm6, c1, h11, h40, g1, hg, uG_uG, fG_uG, n1, t1, b1, e5, c5, nI_clamp (show 5 + i < 2 ^ 31 by omega), v5 i (by omega), v1, hu, hc, and_self, decide_true, er, ← w1]
    have hc' : ¬ g 1 = 0 := by rw [w1]; exact hc
    simp [upd, show ¬ 5 + i = 1 by omega, show ¬ 1 = 5 + i by omega, hc']
  · rw [fG_uG, if_pos rfl, hg]
    simp [upd, show ¬ t = 1 by omega, show ¬ t = 5 + i by omega]
  · rw [dd_c, MN.of (by rw [fG_uG, if_pos rfl])]
    refine ⟨?_, ?_, fun k hk => ?_, ?_, ?_, ?_⟩
    · simp [upd, w0, show ¬ 0 = 5 + i by omega]
    · simp [upd, w2, show ¬ 2 = 5 + i by omega]
    · simp only [upd]
      by_cases e : k = i
      · subst e; simp
      · simp [show ¬ 5 + k = 5 + i by omega, show ¬ 5 + k = 1 by omega, w5 k hk, e]
    · simp [upd, w1, show ¬ 1 = 5 + i by omega]
    · simp [upd, w3, show ¬ 3 = 5 + i by omega]
    · simp [upd, w4, show ¬ 4 = 5 + i by omega]
end DEEDM
