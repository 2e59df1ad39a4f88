/-! best -/
section BEST
variable {B : BT}
theorem x_copyDeeper (D : DT) {d : Nat} (hd : d < 2) : ∃ D', P_X6_copyDeeper 21 (nI d) (hp B D) = some (26 + 3 * (d + 1), hp B D') ∧ Off (Tho (26 + 3 * (d + 1))) D D' ∧ ∀ m q H, m ≤ 6 → XH D (26 + 3 * d) m q H → XH D' (26 + 3 * (d + 1)) m q H := by
  obtain ⟨D', g1, g2, g3⟩ := x_hbecome (B := B) D (ho_s (k := d + 1) (by omega)) (ho_s (k := d) (by omega)) (by omega)
  have hC : kC (26 + 3 * (d + 1)) = some 1 := (ho_s (k := d + 1) (by omega)).1
  refine ⟨D', ?_, g2, g3⟩
  have e2 : minI (nI d + 1) 2 = nI (d + 1) := by
    rw [nI_p1]
    unfold minI
    rw [if_neg (by
      show ¬ nI 2 < nI (d + 1)
      rw [nI_ltI (by omega) (by omega)]
      omega)]
  have e0 : maxI 0 (nI (d + 1)) = nI (d + 1) := by
    unfold maxI
    rw [if_pos (show (0 : Int32) < nI (d + 1) from (nI_ltI (a := 0) (b := d + 1) (by omega) (by omega)).mpr (by omega))]
  have c1 : ¬ nI d < 0 := fun z => by
    have := (nI_ltI (b := 0) (by omega) (by omega)).mp z
    omega
  have c2 : ¬ nI (d + 1) ≤ nI d := nI_ge (by omega) (by omega)
  have x1 : 0 ≤ (nI (d + 1)).toInt ∧ (nI (d + 1)).toInt < 3 := by rw [nI_toInt (by omega)]; omega
  have x2 : 0 ≤ (nI d).toInt ∧ (nI d).toInt < 3 := by rw [nI_toInt (by omega)]; omega
  simp only [P_X6_copyDeeper, j_min, j_max, e2, e0, pureM_hp, ifB_t, ifB_f, decide_true, decide_false, ifB_hp, jn_hp, retZ_0, retZ_1, thn_some, cll0_w, cllV_w, getI_w, getL_w, getR_w, setI_w, setZ_w0, setZ_w1, setL_w, ald_w, ast_w, alen_w, aldR_2, aldR_3, aldR_4, aldR_22, cll0_pure, ↓reduceIte, if_true, if_false, Bool.false_eq_true, reduceCtorEq, and_true, true_and, and_false, false_and, ite_self, kI_1_9, kI_1_10, kI_5_4, kI_5_5, kI_5_6, kI_10_1, kI_11_4, kI_11_5, kI_11_6, kI_16_2, kI_16_3, kI_16_4, kI_16_5, kI_16_6, kI_17_2, kI_17_3, kI_21_4, kI_21_5, kI_21_6, kI_21_7, kI_21_8, kI_21_9, kI_21_10, kI_21_11, kI_26_2, kI_26_3, kI_29_2, kI_29_3, kI_32_2, kI_32_3, kI_35_2, kI_39_2, kI_39_3, kI_41_2, kI_41_3, kI_43_2, kI_43_3, kI_45_2, kI_45_3, kI_47_2, kI_47_3, kI_49_2, kI_49_3, kI_51_2, kI_51_3, kI_53_2, kI_53_3, kI_55_2, kI_55_3, kI_57_2, kI_57_3, kI_59_2, kI_59_3, kI_59_4, kI_59_5, kI_59_6, kI_60_2, kI_60_3, kI_64_2, kI_64_3, kI_64_4, kI_64_5, kI_64_6, kI_65_2, kI_65_3, kI_69_2, kI_69_3, kI_69_4, kI_69_5, kI_69_6, kI_70_2, kI_70_3, kI_74_10, kI_74_11, kI_74_12, kI_74_14, kI_74_18, kI_74_19, kI_74_20, kI_74_21, kI_74_22, kI_74_23, kI_74_29, kI_74_30, kI_74_31, kI_74_32, kI_74_33, kR_1_0, kR_1_1, kR_1_2, kR_1_3, kR_1_4, kR_1_5, kR_1_6, kR_1_7, kR_1_8, kR_5_0, kR_5_1, kR_5_2, kR_5_3, kR_10_0, kR_11_0, kR_11_1, kR_11_2, kR_11_3, kR_16_0, kR_16_1, kR_17_0, kR_17_1, kR_21_0, kR_21_1, kR_21_2, kR_21_3, kR_26_0, kR_26_1, kR_29_0, kR_29_1, kR_32_0, kR_32_1, kR_35_0, kR_35_1, kR_39_0, kR_41_0, kR_43_0, kR_45_0, kR_47_0, kR_49_0, kR_51_0, kR_53_0, kR_55_0, kR_57_0, kR_59_0, kR_59_1, kR_60_0, kR_60_1, kR_64_0, kR_64_1, kR_65_0, kR_65_1, kR_69_0, kR_69_1, kR_70_0, kR_70_1, kR_74_0, kR_74_1, kR_74_2, kR_74_3, kR_74_4, kR_74_5, kR_74_6, kR_74_7, kR_74_8, kR_74_9, kR_74_13, kR_74_17, kR_74_24, kR_74_25, kR_74_26, kR_74_27, kR_74_28, kR_74_34, kR_74_35, kR_74_36, kL_1_11, kL_1_12, kL_74_15, kL_74_16, kK_39_1, kK_41_1, kK_43_1, kK_45_1, kK_47_1, kK_49_1, kK_51_1, kK_53_1, kK_55_1, kK_57_1, kA_6, kA_7, kA_8, kA_9, kA_12, kA_13, kA_14, kA_15, kA_18, kA_19, kA_20, kA_23, kA_24, kA_25, kA_27, kA_28, kA_30, kA_31, kA_33, kA_34, kA_36, kA_37, kA_38, kA_40, kA_42, kA_44, kA_46, kA_48, kA_50, kA_52, kA_54, kA_56, kA_58, kA_61, kA_62, kA_63, kA_66, kA_67, kA_68, kA_71, kA_72, kA_73, kA_75, kA_76, kA_77, kA_78, kA_79, kA_80, kA_81, kA_82, kA_83, kA_84, kA_85, kA_86, kA_87, kA_88, kA_89, kA_90, kA_91, kA_92, kA_93, kA_94, kQ_2, kQ_3, kQ_4, kQ_22, kC_1, kC_5, kC_10, kC_11, kC_16, kC_17, kC_21, kC_26, kC_29, kC_32, kC_35, kC_39, kC_41, kC_43, kC_45, kC_47, kC_49, kC_51, kC_53, kC_55, kC_57, kC_59, kC_60, kC_64, kC_65, kC_69, kC_70, kC_74, c1, c2, x1, x2, nI_clamp (show d + 1 < 2 ^ 31 by omega), nI_clamp (show d < 2 ^ 31 by omega), hC, g1]
/-- what a search at a depth may change -/
def Tsk (d : Nat) : Nat → Nat → Prop := fun a k => (a = 21 ∧ 6 ≤ k ∧ k ≤ 11) ∨ (a = 23 ∧ k = 63) ∨ (a = 24 ∧ k = 63) ∨ (29 + 3 * d ≤ a ∧ a ≤ 34)
theorem Tsk_s {d a k : Nat} (h : Tsk (d + 1) a k) : Tsk d a k := by unfold Tsk at h ⊢; omega
theorem Tsk_f {d m : Nat} {D D' : DT} {q : QT} (h : XF D 5 m q) (o : Off (Tsk d) D D') : XF D' 5 m q := h.off o (by unfold Tsk; omega) (fun k q1 q2 => by unfold Tsk; omega)
theorem Tsk_h {d m : Nat} {D D' : DT} {q : QT} {H : HT} (h : XH D (26 + 3 * d) m q H) (hd : d < 3) (o : Off (Tsk d) D D') : XH D' (26 + 3 * d) m q H := h.off o (by unfold Tsk; omega) (by unfold Tsk; omega) (by unfold Tsk; omega) (by unfold Tsk; omega)
def WY (D : DT) (p : List Nat) : Prop := ∀ k, k < p.length → fG D 23 k = nI (p.getD k 0)
theorem WY.app {D D' : DT} {p : List Nat} {c : Nat} (h : WY D p) (e : fG D' 23 = upd (fG D 23) p.length (nI c)) : WY D' (p ++ [c]) := by
  intro k hk
  rw [List.length_append, List.length_singleton] at hk
  rw [e]
  unfold upd
  by_cases e1 : k = p.length
  · subst e1
    rw [if_pos rfl, getD_get _ _ (by simp)]
    simp
  · have hk' : k < p.length := by omega
    rw [if_neg e1, h k hk', getD_get _ _ hk', getD_get _ _ (by simp; omega), List.getElem_append_left hk']
theorem WY.pre {D : DT} {p : List Nat} {c : Nat} (h : WY D (p ++ [c])) : WY D p := by
  intro k hk
  rw [h k (by rw [List.length_append]; omega), getD_get _ _ (by simp; omega), getD_get _ _ hk, List.getElem_append_left hk]
abbrev SBt : Type := Int32 × List Nat
def SB (D : DT) (st : SBt) : Prop := fI D 21 6 = st.1 ∧ ∀ k, k < st.2.length → fG D 24 k = nI (st.2.getD k 0)
def fB (q : QT) (H : HT) (st : SBt) (l : List Nat) : SBt := if st.1 < (rnL q H l).1 then ((rnL q H l).1, l) else st
def Tns : Nat → Nat → Prop := fun a k => (a = 21 ∧ k = 6) ∨ (a = 24 ∧ k = 63)
theorem noteS_loop : ∀ (F k : Nat) (D : DT), k ≤ 3 → 3 - k < F → ∃ D', P_X6_noteStrength_15 21 F (nI k) (hp B D) = some ((), hp B D') ∧ Off Tns D D' ∧ fI D' 21 6 = fI D 21 6 ∧ (∀ t, k ≤ t → t < 3 → fG D' 24 t = fG D 23 t) ∧ ∀ t, t < k → fG D' 24 t = fG D 24 t := by
  intro F
  induction F with
  | zero => intro k D h1 h2; omega
  | succ F ih =>
    intro k D h1 h2
    by_cases e : k = 3
    · have c1 : (3 : Int32) ≤ nI k := show nI 3 ≤ nI k from nI_le (by omega) (by omega)
      refine ⟨D, ?_, Off.refl D, rfl, fun t a b => by omega, fun t _ => rfl⟩
      simp only [P_X6_noteStrength_15, pureM_hp, ifB_t, ifB_f, decide_true, decide_false, ifB_hp, jn_hp, retZ_0, retZ_1, thn_some, cll0_w, cllV_w, getI_w, getL_w, getR_w, setI_w, setZ_w0, setZ_w1, setL_w, ald_w, ast_w, alen_w, aldR_2, aldR_3, aldR_4, aldR_22, cll0_pure, ↓reduceIte, if_true, if_false, Bool.false_eq_true, reduceCtorEq, and_true, true_and, and_false, false_and, ite_self, c1]
    · have c1 : ¬ (3 : Int32) ≤ nI k := show ¬ nI 3 ≤ nI k from nI_ge (by omega) (by omega)
      have cx : 0 ≤ (nI k).toInt ∧ (nI k).toInt < ((3 : Nat) : Int) := ixc (by omega) (by omega)
      have o1 : Off Tns D (uG D 24 (upd (fG D 24) k (fG D 23 k))) := (Off.refl D).uG _ _ (Or.inr ⟨rfl, rfl⟩)
      obtain ⟨D', r1, r2, r3, r4, r5⟩ := ih (k + 1) (uG D 24 (upd (fG D 24) k (fG D 23 k))) (by omega) (by omega)
      refine ⟨D', ?_, o1.trans r2, by rw [r3, fI_uG], fun t a b => ?_, fun t a => ?_⟩
      · simp only [P_X6_noteStrength_15, pureM_hp, ifB_t, ifB_f, decide_true, decide_false, ifB_hp, jn_hp, retZ_0, retZ_1, thn_some, cll0_w, cllV_w, getI_w, getL_w, getR_w, setI_w, setZ_w0, setZ_w1, setL_w, ald_w, ast_w, alen_w, aldR_2, aldR_3, aldR_4, aldR_22, cll0_pure, ↓reduceIte, if_true, if_false, Bool.false_eq_true, reduceCtorEq, and_true, true_and, and_false, false_and, ite_self, kI_1_9, kI_1_10, kI_5_4, kI_5_5, kI_5_6, kI_10_1, kI_11_4, kI_11_5, kI_11_6, kI_16_2, kI_16_3, kI_16_4, kI_16_5, kI_16_6, kI_17_2, kI_17_3, kI_21_4, kI_21_5, kI_21_6, kI_21_7, kI_21_8, kI_21_9, kI_21_10, kI_21_11, kI_26_2, kI_26_3, kI_29_2, kI_29_3, kI_32_2, kI_32_3, kI_35_2, kI_39_2, kI_39_3, kI_41_2, kI_41_3, kI_43_2, kI_43_3, kI_45_2, kI_45_3, kI_47_2, kI_47_3, kI_49_2, kI_49_3, kI_51_2, kI_51_3, kI_53_2, kI_53_3, kI_55_2, kI_55_3, kI_57_2, kI_57_3, kI_59_2, kI_59_3, kI_59_4, kI_59_5, kI_59_6, kI_60_2, kI_60_3, kI_64_2, kI_64_3, kI_64_4, kI_64_5, kI_64_6, kI_65_2, kI_65_3, kI_69_2, kI_69_3, kI_69_4, kI_69_5, kI_69_6, kI_70_2, kI_70_3, kI_74_10, kI_74_11, kI_74_12, kI_74_14, kI_74_18, kI_74_19, kI_74_20, kI_74_21, kI_74_22, kI_74_23, kI_74_29, kI_74_30, kI_74_31, kI_74_32, kI_74_33, kR_1_0, kR_1_1, kR_1_2, kR_1_3, kR_1_4, kR_1_5, kR_1_6, kR_1_7, kR_1_8, kR_5_0, kR_5_1, kR_5_2, kR_5_3, kR_10_0, kR_11_0, kR_11_1, kR_11_2, kR_11_3, kR_16_0, kR_16_1, kR_17_0, kR_17_1, kR_21_0, kR_21_1, kR_21_2, kR_21_3, kR_26_0, kR_26_1, kR_29_0, kR_29_1, kR_32_0, kR_32_1, kR_35_0, kR_35_1, kR_39_0, kR_41_0, kR_43_0, kR_45_0, kR_47_0, kR_49_0, kR_51_0, kR_53_0, kR_55_0, kR_57_0, kR_59_0, kR_59_1, kR_60_0, kR_60_1, kR_64_0, kR_64_1, kR_65_0, kR_65_1, kR_69_0, kR_69_1, kR_70_0, kR_70_1, kR_74_0, kR_74_1, kR_74_2, kR_74_3, kR_74_4, kR_74_5, kR_74_6, kR_74_7, kR_74_8, kR_74_9, kR_74_13, kR_74_17, kR_74_24, kR_74_25, kR_74_26, kR_74_27, kR_74_28, kR_74_34, kR_74_35, kR_74_36, kL_1_11, kL_1_12, kL_74_15, kL_74_16, kK_39_1, kK_41_1, kK_43_1, kK_45_1, kK_47_1, kK_49_1, kK_51_1, kK_53_1, kK_55_1, kK_57_1, kA_6, kA_7, kA_8, kA_9, kA_12, kA_13, kA_14, kA_15, kA_18, kA_19, kA_20, kA_23, kA_24, kA_25, kA_27, kA_28, kA_30, kA_31, kA_33, kA_34, kA_36, kA_37, kA_38, kA_40, kA_42, kA_44, kA_46, kA_48, kA_50, kA_52, kA_54, kA_56, kA_58, kA_61, kA_62, kA_63, kA_66, kA_67, kA_68, kA_71, kA_72, kA_73, kA_75, kA_76, kA_77, kA_78, kA_79, kA_80, kA_81, kA_82, kA_83, kA_84, kA_85, kA_86, kA_87, kA_88, kA_89, kA_90, kA_91, kA_92, kA_93, kA_94, kQ_2, kQ_3, kQ_4, kQ_22, kC_1, kC_5, kC_10, kC_11, kC_16, kC_17, kC_21, kC_26, kC_29, kC_32, kC_35, kC_39, kC_41, kC_43, kC_45, kC_47, kC_49, kC_51, kC_53, kC_55, kC_57, kC_59, kC_60, kC_64, kC_65, kC_69, kC_70, kC_74, c1, cx, nI_clamp (show k < 2 ^ 31 by omega), nI_p1, r1]
      · by_cases e1 : t = k
        · rw [r5 t (by omega), fG_uG, if_pos rfl, e1]
          unfold upd
          rw [if_pos rfl]
        · rw [r4 t (by omega) b, fG_uG, if_neg (by omega)]
      · rw [r5 t (by omega), fG_uG, if_pos rfl]
        unfold upd
        rw [if_neg (by omega)]
theorem noteS_no {D : DT} {v : Int32} (h : v ≤ fI D 21 6) : P_X6_noteStrength 21 v (hp B D) = some ((), hp B D) := by
  unfold P_X6_noteStrength
  rw [getI_hp D 6 6 21 _ kI_21_6, ifB_hp, if_pos h, pureM_hp]
theorem noteS_yes {D : DT} {v : Int32} (h : ¬ v ≤ fI D 21 6) : P_X6_noteStrength 21 v (hp B D) = P_X6_noteStrength_15 21 4000 0 (hp B (uI D 21 6 v)) := by
  unfold P_X6_noteStrength
  rw [getI_hp D 6 6 21 _ kI_21_6, ifB_hp, if_neg h, setI_hp D 6 6 21 v _ kI_21_6]
theorem x_noteS {D : DT} (v : Int32) : ∃ D', P_X6_noteStrength 21 v (hp B D) = some ((), hp B D') ∧ Off Tns D D' ∧ (¬ fI D 21 6 < v → D' = D) ∧ (fI D 21 6 < v → fI D' 21 6 = v ∧ ∀ k, k < 3 → fG D' 24 k = fG D 23 k) := by
  by_cases h : fI D 21 6 < v
  case neg => exact ⟨D, noteS_no (Int32.not_lt.mp h), Off.refl D, fun _ => rfl, fun z => absurd z h⟩
  obtain ⟨D', r1, r2, r3, r4, r5⟩ := noteS_loop (B := B) 4000 0 (uI D 21 6 v) (by omega) (by omega)
  rw [nI_0] at r1
  have o1 : Off Tns D (uI D 21 6 v) := (Off.refl D).uI _ _ _ (Or.inl ⟨rfl, rfl⟩)
  refine ⟨D', ?_, o1.trans r2, fun z => absurd h z, fun _ => ⟨by rw [r3, fI_uI, if_pos ⟨rfl, rfl⟩], fun k hk => by rw [r4 k (by omega) hk, fG_uI]⟩⟩
  rw [noteS_yes (Int32.not_le.mpr h), r1]
def SeekB (B : BT) (m : Nat) (q : QT) (H0 : HT) (n r : Nat) (R : Nat → Nat → Int32 → PM Unit) : Prop := ∀ (p : List Nat) (D : DT) (st : SBt), p.length + r = n → (∀ c ∈ p, c ∈ prs m) → XF D 5 m q → fI D 21 4 = nI n → XH D (26 + 3 * p.length) m q (rnL q H0 p) → WY D p → SB D st → ∃ D', R 21 5 (nI p.length) (hp B D) = some ((), hp B D') ∧ SB D' ((seqs (prs m) r).foldl (fun st l => fB q H0 st (p ++ l)) st) ∧ Off (Tsk p.length) D D' ∧ WY D' p
theorem rj_mem {i m : Nat} : ∀ (t : Nat), t ≤ m → ∀ c ∈ rj i m t, ∃ j, m - t ≤ j ∧ j < m ∧ c = 10 * i + j := by
  intro t
  induction t with
  | zero => intro _ c h; cases h
  | succ t ih =>
    intro ht c h
    rcases List.mem_cons.mp h with rfl | h
    · exact ⟨m - (t + 1), Nat.le_refl _, by omega, rfl⟩
    · obtain ⟨j, h1, h2, h3⟩ := ih (by omega) c h
      exact ⟨j, by omega, h2, h3⟩
theorem prs_has {m i j : Nat} (hm : m ≤ 6) (hij : i < j) (hj : j < m) : 10 * i + j ∈ prs m := by
  have h : ∀ m, m ≤ 6 → ∀ i, i < m → ∀ j, j < m → i < j → 10 * i + j ∈ prs m := by
    intro m hm
    rcases (show m = 0 ∨ m = 1 ∨ m = 2 ∨ m = 3 ∨ m = 4 ∨ m = 5 ∨ m = 6 by omega) with rfl | rfl | rfl | rfl | rfl | rfl | rfl <;> decide
  exact h m hm i (by omega) j hj hij
theorem nI_10 (i j : Nat) : (10 : Int32) * nI i + nI j = nI (10 * i + j) := by rw [show (10 : Int32) = nI 10 from rfl, pk_mul, nI_add]
theorem seekB_in {m : Nat} {q : QT} {H0 : HT} {n r : Nat} {R : Nat → Nat → Int32 → PM Unit} (hm6 : m ≤ 6) (hv : QV m q) (hW : HW 40 m H0) (hn : n ≤ 3) (hR : r = 0 ∨ (r ≠ 0 ∧ SeekB B m q H0 n r R)) {p : List Nat} (hp1 : p.length + (r + 1) = n) (hpm : ∀ c ∈ p, c ∈ prs m) {i : Nat} (K : PM Unit) :
    ∀ (F t : Nat) (D : DT) (st : SBt), t < F → i + t < m → XF D 5 m q → fI D 21 4 = nI n → XH D (26 + 3 * p.length) m q (rnL q H0 p) → WY D p → SB D st →
    ∃ D', P_X6_seekStrongest_33 R K 21 5 (nI p.length) (nI i) F (nI (m - t)) (hp B D) = K (hp B D') ∧ SB D' ((ext (seqs (prs m) r) (rj i m t)).foldl (fun st l => fB q H0 st (p ++ l)) st) ∧ Off (Tsk p.length) D D' ∧ WY D' p := by
  intro F
  induction F with
  | zero => intro t D st h1; omega
  | succ F ih =>
    intro t D st h1 h2 hF h4 hX hWy hS
    have g4 : fI D 5 4 = nI m := hF.1
    cases t with
    | zero =>
      have c1 : nI m ≤ nI (m - 0) := nI_le (by omega) (by omega)
      refine ⟨D, ?_, hS, Off.refl D, hWy⟩
      simp only [P_X6_seekStrongest_33, pureM_hp, ifB_t, ifB_f, decide_true, decide_false, ifB_hp, jn_hp, retZ_0, retZ_1, thn_some, cll0_w, cllV_w, getI_w, getL_w, getR_w, setI_w, setZ_w0, setZ_w1, setL_w, ald_w, ast_w, alen_w, aldR_2, aldR_3, aldR_4, aldR_22, cll0_pure, ↓reduceIte, if_true, if_false, Bool.false_eq_true, reduceCtorEq, and_true, true_and, and_false, false_and, ite_self, kI_1_9, kI_1_10, kI_5_4, kI_5_5, kI_5_6, kI_10_1, kI_11_4, kI_11_5, kI_11_6, kI_16_2, kI_16_3, kI_16_4, kI_16_5, kI_16_6, kI_17_2, kI_17_3, kI_21_4, kI_21_5, kI_21_6, kI_21_7, kI_21_8, kI_21_9, kI_21_10, kI_21_11, kI_26_2, kI_26_3, kI_29_2, kI_29_3, kI_32_2, kI_32_3, kI_35_2, kI_39_2, kI_39_3, kI_41_2, kI_41_3, kI_43_2, kI_43_3, kI_45_2, kI_45_3, kI_47_2, kI_47_3, kI_49_2, kI_49_3, kI_51_2, kI_51_3, kI_53_2, kI_53_3, kI_55_2, kI_55_3, kI_57_2, kI_57_3, kI_59_2, kI_59_3, kI_59_4, kI_59_5, kI_59_6, kI_60_2, kI_60_3, kI_64_2, kI_64_3, kI_64_4, kI_64_5, kI_64_6, kI_65_2, kI_65_3, kI_69_2, kI_69_3, kI_69_4, kI_69_5, kI_69_6, kI_70_2, kI_70_3, kI_74_10, kI_74_11, kI_74_12, kI_74_14, kI_74_18, kI_74_19, kI_74_20, kI_74_21, kI_74_22, kI_74_23, kI_74_29, kI_74_30, kI_74_31, kI_74_32, kI_74_33, kR_1_0, kR_1_1, kR_1_2, kR_1_3, kR_1_4, kR_1_5, kR_1_6, kR_1_7, kR_1_8, kR_5_0, kR_5_1, kR_5_2, kR_5_3, kR_10_0, kR_11_0, kR_11_1, kR_11_2, kR_11_3, kR_16_0, kR_16_1, kR_17_0, kR_17_1, kR_21_0, kR_21_1, kR_21_2, kR_21_3, kR_26_0, kR_26_1, kR_29_0, kR_29_1, kR_32_0, kR_32_1, kR_35_0, kR_35_1, kR_39_0, kR_41_0, kR_43_0, kR_45_0, kR_47_0, kR_49_0, kR_51_0, kR_53_0, kR_55_0, kR_57_0, kR_59_0, kR_59_1, kR_60_0, kR_60_1, kR_64_0, kR_64_1, kR_65_0, kR_65_1, kR_69_0, kR_69_1, kR_70_0, kR_70_1, kR_74_0, kR_74_1, kR_74_2, kR_74_3, kR_74_4, kR_74_5, kR_74_6, kR_74_7, kR_74_8, kR_74_9, kR_74_13, kR_74_17, kR_74_24, kR_74_25, kR_74_26, kR_74_27, kR_74_28, kR_74_34, kR_74_35, kR_74_36, kL_1_11, kL_1_12, kL_74_15, kL_74_16, kK_39_1, kK_41_1, kK_43_1, kK_45_1, kK_47_1, kK_49_1, kK_51_1, kK_53_1, kK_55_1, kK_57_1, kA_6, kA_7, kA_8, kA_9, kA_12, kA_13, kA_14, kA_15, kA_18, kA_19, kA_20, kA_23, kA_24, kA_25, kA_27, kA_28, kA_30, kA_31, kA_33, kA_34, kA_36, kA_37, kA_38, kA_40, kA_42, kA_44, kA_46, kA_48, kA_50, kA_52, kA_54, kA_56, kA_58, kA_61, kA_62, kA_63, kA_66, kA_67, kA_68, kA_71, kA_72, kA_73, kA_75, kA_76, kA_77, kA_78, kA_79, kA_80, kA_81, kA_82, kA_83, kA_84, kA_85, kA_86, kA_87, kA_88, kA_89, kA_90, kA_91, kA_92, kA_93, kA_94, kQ_2, kQ_3, kQ_4, kQ_22, kC_1, kC_5, kC_10, kC_11, kC_16, kC_17, kC_21, kC_26, kC_29, kC_32, kC_35, kC_39, kC_41, kC_43, kC_45, kC_47, kC_49, kC_51, kC_53, kC_55, kC_57, kC_59, kC_60, kC_64, kC_65, kC_69, kC_70, kC_74, g4, c1]
    | succ t =>
      have c1 : ¬ nI m ≤ nI (m - (t + 1)) := nI_ge (by omega) (by omega)
      have em : m - (t + 1) + 1 = m - t := by omega
      have cx : 0 ≤ (nI p.length).toInt ∧ (nI p.length).toInt < ((3 : Nat) : Int) := ixc (by omega) (by omega)
      have cx3 : 0 ≤ (nI p.length).toInt ∧ (nI p.length).toInt < 3 := by rw [nI_toInt (by omega)]; omega
      have cl := nI_clamp (show p.length < 2 ^ 31 by omega)
      have hho := ho_s (k := p.length) (by omega)
      generalize hj : m - (t + 1) = j at *
      have hij : i < j := by omega
      have hjm : j < m := by omega
      have hc : 10 * i + j ∈ prs m := prs_has hm6 hij hjm
      have erj : rj i m (t + 1) = (10 * i + j) :: rj i m t := by rw [← hj]; rfl
      have e1 : rnL q H0 (p ++ [10 * i + j]) = wat q (rnL q H0 p) i j := by
        rw [rnL_app]
        show wat q (rnL q H0 p) ((10 * i + j) / 10) ((10 * i + j) % 10) = _
        rw [show (10 * i + j) / 10 = i by omega, show (10 * i + j) % 10 = j by omega]
      have hpm' : ∀ c ∈ p ++ [10 * i + j], c ∈ prs m := fun c h => by
        rcases List.mem_append.mp h with h | h
        · exact hpm c h
        · rw [List.mem_singleton] at h
          rw [h]
          exact hc
      have o1 : Off (Tsk p.length) D (uG D 23 (upd (fG D 23) p.length (nI (10 * i + j)))) := (Off.refl D).uG _ _ (by unfold Tsk; omega)
      have w1 : WY (uG D 23 (upd (fG D 23) p.length (nI (10 * i + j)))) (p ++ [10 * i + j]) := hWy.app (by rw [fG_uG, if_pos rfl])
      have s1 : SB (uG D 23 (upd (fG D 23) p.length (nI (10 * i + j)))) st := by
        unfold SB
        rw [fI_uG, fG_uG, if_neg (by omega)]
        exact hS
      have f1 := Tsk_f hF o1
      have x1 := Tsk_h hX (by omega) o1
      have h41 : fI (uG D 23 (upd (fG D 23) p.length (nI (10 * i + j)))) 21 4 = nI n := by rw [fI_uG]; exact h4
      generalize hD1 : uG D 23 (upd (fG D 23) p.length (nI (10 * i + j))) = D1 at *
      have fin : ∀ D2, SB D2 ((seqs (prs m) r).foldl (fun st l => fB q H0 st (p ++ ((10 * i + j) :: l))) st) → Off (Tsk p.length) D D2 → WY D2 p → ∃ D', P_X6_seekStrongest_33 R K 21 5 (nI p.length) (nI i) F (nI (m - t)) (hp B D2) = K (hp B D') ∧ SB D' ((ext (seqs (prs m) r) (rj i m (t + 1))).foldl (fun st l => fB q H0 st (p ++ l)) st) ∧ Off (Tsk p.length) D D' ∧ WY D' p := by
        intro D2 a1 a2 a3
        obtain ⟨D', r1, r2, r3, r4⟩ := ih t D2 _ (by omega) (by omega) (Tsk_f hF a2) (by rw [(a2.1 21 4 (by unfold Tsk; omega)).1]; exact h4) (Tsk_h hX (by omega) a2) a3 a1
        exact ⟨D', r1, by rw [erj, foldl_ext]; exact r2, a2.trans r3, r4⟩
      rcases hR with rfl | ⟨hr0, hR⟩
      · have c2 : nI n ≤ nI (p.length + 1) := nI_le (by omega) (by omega)
        have bh := x_behind (B := B) (D := D1) hho fo_5 f1 x1 hm6 (show i < m by omega) hjm (by omega)
        obtain ⟨D2, n1, n2, n3, n4⟩ := x_noteS (B := B) (D := D1) (wst q (rnL q H0 p) i j)
        have o2 : Off (Tsk p.length) D D2 := o1.trans (n2.mono (fun a k z => by unfold Tns at z; unfold Tsk; omega))
        have w23 : fG D2 23 = fG D1 23 := n2.2 23 (by unfold Tns; omega)
        have wy2 : WY D2 (p ++ [10 * i + j]) := fun k hk => by rw [w23]; exact w1 k hk
        obtain ⟨D', r1, r2, r3, r4⟩ := fin D2 (by
          show SB D2 (fB q H0 st (p ++ [10 * i + j]))
          unfold fB
          rw [e1, show (wat q (rnL q H0 p) i j).1 = wst q (rnL q H0 p) i j from rfl]
          by_cases hlt : st.1 < wst q (rnL q H0 p) i j
          · rw [if_pos hlt]
            obtain ⟨z1, z2⟩ := n4 (by rw [s1.1]; exact hlt)
            refine ⟨z1, fun k hk => ?_⟩
            have hk' : k < (p ++ [10 * i + j]).length := hk
            have hl : (p ++ [10 * i + j]).length = p.length + 1 := by rw [List.length_append]; rfl
            rw [z2 k (by omega)]
            exact w1 k hk'
          · rw [if_neg hlt, n3 (by rw [s1.1]; exact hlt)]
            exact s1) o2 wy2.pre
        refine ⟨D', ?_, r2, r3, r4⟩
        simp only [P_X6_seekStrongest_33, pureM_hp, ifB_t, ifB_f, decide_true, decide_false, ifB_hp, jn_hp, retZ_0, retZ_1, thn_some, cll0_w, cllV_w, getI_w, getL_w, getR_w, setI_w, setZ_w0, setZ_w1, setL_w, ald_w, ast_w, alen_w, aldR_2, aldR_3, aldR_4, aldR_22, cll0_pure, ↓reduceIte, if_true, if_false, Bool.false_eq_true, reduceCtorEq, and_true, true_and, and_false, false_and, ite_self, kI_1_9, kI_1_10, kI_5_4, kI_5_5, kI_5_6, kI_10_1, kI_11_4, kI_11_5, kI_11_6, kI_16_2, kI_16_3, kI_16_4, kI_16_5, kI_16_6, kI_17_2, kI_17_3, kI_21_4, kI_21_5, kI_21_6, kI_21_7, kI_21_8, kI_21_9, kI_21_10, kI_21_11, kI_26_2, kI_26_3, kI_29_2, kI_29_3, kI_32_2, kI_32_3, kI_35_2, kI_39_2, kI_39_3, kI_41_2, kI_41_3, kI_43_2, kI_43_3, kI_45_2, kI_45_3, kI_47_2, kI_47_3, kI_49_2, kI_49_3, kI_51_2, kI_51_3, kI_53_2, kI_53_3, kI_55_2, kI_55_3, kI_57_2, kI_57_3, kI_59_2, kI_59_3, kI_59_4, kI_59_5, kI_59_6, kI_60_2, kI_60_3, kI_64_2, kI_64_3, kI_64_4, kI_64_5, kI_64_6, kI_65_2, kI_65_3, kI_69_2, kI_69_3, kI_69_4, kI_69_5, kI_69_6, kI_70_2, kI_70_3, kI_74_10, kI_74_11, kI_74_12, kI_74_14, kI_74_18, kI_74_19, kI_74_20, kI_74_21, kI_74_22, kI_74_23, kI_74_29, kI_74_30, kI_74_31, kI_74_32, kI_74_33, kR_1_0, kR_1_1, kR_1_2, kR_1_3, kR_1_4, kR_1_5, kR_1_6, kR_1_7, kR_1_8, kR_5_0, kR_5_1, kR_5_2, kR_5_3, kR_10_0, kR_11_0, kR_11_1, kR_11_2, kR_11_3, kR_16_0, kR_16_1, kR_17_0, kR_17_1, kR_21_0, kR_21_1, kR_21_2, kR_21_3, kR_26_0, kR_26_1, kR_29_0, kR_29_1, kR_32_0, kR_32_1, kR_35_0, kR_35_1, kR_39_0, kR_41_0, kR_43_0, kR_45_0, kR_47_0, kR_49_0, kR_51_0, kR_53_0, kR_55_0, kR_57_0, kR_59_0, kR_59_1, kR_60_0, kR_60_1, kR_64_0, kR_64_1, kR_65_0, kR_65_1, kR_69_0, kR_69_1, kR_70_0, kR_70_1, kR_74_0, kR_74_1, kR_74_2, kR_74_3, kR_74_4, kR_74_5, kR_74_6, kR_74_7, kR_74_8, kR_74_9, kR_74_13, kR_74_17, kR_74_24, kR_74_25, kR_74_26, kR_74_27, kR_74_28, kR_74_34, kR_74_35, kR_74_36, kL_1_11, kL_1_12, kL_74_15, kL_74_16, kK_39_1, kK_41_1, kK_43_1, kK_45_1, kK_47_1, kK_49_1, kK_51_1, kK_53_1, kK_55_1, kK_57_1, kA_6, kA_7, kA_8, kA_9, kA_12, kA_13, kA_14, kA_15, kA_18, kA_19, kA_20, kA_23, kA_24, kA_25, kA_27, kA_28, kA_30, kA_31, kA_33, kA_34, kA_36, kA_37, kA_38, kA_40, kA_42, kA_44, kA_46, kA_48, kA_50, kA_52, kA_54, kA_56, kA_58, kA_61, kA_62, kA_63, kA_66, kA_67, kA_68, kA_71, kA_72, kA_73, kA_75, kA_76, kA_77, kA_78, kA_79, kA_80, kA_81, kA_82, kA_83, kA_84, kA_85, kA_86, kA_87, kA_88, kA_89, kA_90, kA_91, kA_92, kA_93, kA_94, kQ_2, kQ_3, kQ_4, kQ_22, kC_1, kC_5, kC_10, kC_11, kC_16, kC_17, kC_21, kC_26, kC_29, kC_32, kC_35, kC_39, kC_41, kC_43, kC_45, kC_47, kC_49, kC_51, kC_53, kC_55, kC_57, kC_59, kC_60, kC_64, kC_65, kC_69, kC_70, kC_74, g4, c1, nI_10, cx, cl, hD1, h41, nI_p1, c2, cx3, hho.1, bh, n1, em, r1]
      · have c2 : ¬ nI n ≤ nI (p.length + 1) := nI_ge (by omega) (by omega)
        obtain ⟨D2, n1, n2, n3⟩ := x_copyDeeper (B := B) D1 (d := p.length) (by omega)
        have x2 := n3 m q _ hm6 x1
        have hho2 := ho_s (k := p.length + 1) (by omega)
        have hV : HV m (rnL q H0 p) := (rnL_W hv hm6 hW p hpm).v (by omega)
        obtain ⟨D3, k1, k2, k3⟩ := x_passWatch (B := B) hho2 fo_5 (by omega) (Tho_f f1 n2 (by omega)) x2 hm6 hv hV (show i < m by omega) hjm (by omega)
        rw [← e1] at k2
        have o3 : Off (Tho (26 + 3 * (p.length + 1))) D1 D3 := n2.trans k3
        have lp1 : (p ++ [10 * i + j]).length = p.length + 1 := by rw [List.length_append]; rfl
        obtain ⟨D4, t1, t2, t3, t4⟩ := hR (p ++ [10 * i + j]) D3 st (by omega) hpm' (Tho_f f1 o3 (by omega)) (by rw [(o3.1 21 4 (by unfold Tho; omega)).1]; exact h41) (by rw [lp1]; exact k2) (fun k hk => by rw [o3.2 23 (by unfold Tho; omega)]; exact w1 k hk) (by
          unfold SB
          rw [(o3.1 21 6 (by unfold Tho; omega)).1, o3.2 24 (by unfold Tho; omega)]
          exact s1)
        rw [lp1] at t1 t3
        obtain ⟨D', r1, r2, r3, r4⟩ := fin D4 (by
          rw [foldl_same _ st (fun st l _ => show fB q H0 st (p ++ ((10 * i + j) :: l)) = fB q H0 st ((p ++ [10 * i + j]) ++ l) by rw [List.append_assoc]; rfl)]
          exact t2) ((o1.trans (o3.mono (fun a k z => by unfold Tho at z; unfold Tsk; omega))).trans (t3.mono (fun a k z => Tsk_s z))) t4.pre
        refine ⟨D', ?_, r2, r3, r4⟩
        simp only [P_X6_seekStrongest_33, pureM_hp, ifB_t, ifB_f, decide_true, decide_false, ifB_hp, jn_hp, retZ_0, retZ_1, thn_some, cll0_w, cllV_w, getI_w, getL_w, getR_w, setI_w, setZ_w0, setZ_w1, setL_w, ald_w, ast_w, alen_w, aldR_2, aldR_3, aldR_4, aldR_22, cll0_pure, ↓reduceIte, if_true, if_false, Bool.false_eq_true, reduceCtorEq, and_true, true_and, and_false, false_and, ite_self, kI_1_9, kI_1_10, kI_5_4, kI_5_5, kI_5_6, kI_10_1, kI_11_4, kI_11_5, kI_11_6, kI_16_2, kI_16_3, kI_16_4, kI_16_5, kI_16_6, kI_17_2, kI_17_3, kI_21_4, kI_21_5, kI_21_6, kI_21_7, kI_21_8, kI_21_9, kI_21_10, kI_21_11, kI_26_2, kI_26_3, kI_29_2, kI_29_3, kI_32_2, kI_32_3, kI_35_2, kI_39_2, kI_39_3, kI_41_2, kI_41_3, kI_43_2, kI_43_3, kI_45_2, kI_45_3, kI_47_2, kI_47_3, kI_49_2, kI_49_3, kI_51_2, kI_51_3, kI_53_2, kI_53_3, kI_55_2, kI_55_3, kI_57_2, kI_57_3, kI_59_2, kI_59_3, kI_59_4, kI_59_5, kI_59_6, kI_60_2, kI_60_3, kI_64_2, kI_64_3, kI_64_4, kI_64_5, kI_64_6, kI_65_2, kI_65_3, kI_69_2, kI_69_3, kI_69_4, kI_69_5, kI_69_6, kI_70_2, kI_70_3, kI_74_10, kI_74_11, kI_74_12, kI_74_14, kI_74_18, kI_74_19, kI_74_20, kI_74_21, kI_74_22, kI_74_23, kI_74_29, kI_74_30, kI_74_31, kI_74_32, kI_74_33, kR_1_0, kR_1_1, kR_1_2, kR_1_3, kR_1_4, kR_1_5, kR_1_6, kR_1_7, kR_1_8, kR_5_0, kR_5_1, kR_5_2, kR_5_3, kR_10_0, kR_11_0, kR_11_1, kR_11_2, kR_11_3, kR_16_0, kR_16_1, kR_17_0, kR_17_1, kR_21_0, kR_21_1, kR_21_2, kR_21_3, kR_26_0, kR_26_1, kR_29_0, kR_29_1, kR_32_0, kR_32_1, kR_35_0, kR_35_1, kR_39_0, kR_41_0, kR_43_0, kR_45_0, kR_47_0, kR_49_0, kR_51_0, kR_53_0, kR_55_0, kR_57_0, kR_59_0, kR_59_1, kR_60_0, kR_60_1, kR_64_0, kR_64_1, kR_65_0, kR_65_1, kR_69_0, kR_69_1, kR_70_0, kR_70_1, kR_74_0, kR_74_1, kR_74_2, kR_74_3, kR_74_4, kR_74_5, kR_74_6, kR_74_7, kR_74_8, kR_74_9, kR_74_13, kR_74_17, kR_74_24, kR_74_25, kR_74_26, kR_74_27, kR_74_28, kR_74_34, kR_74_35, kR_74_36, kL_1_11, kL_1_12, kL_74_15, kL_74_16, kK_39_1, kK_41_1, kK_43_1, kK_45_1, kK_47_1, kK_49_1, kK_51_1, kK_53_1, kK_55_1, kK_57_1, kA_6, kA_7, kA_8, kA_9, kA_12, kA_13, kA_14, kA_15, kA_18, kA_19, kA_20, kA_23, kA_24, kA_25, kA_27, kA_28, kA_30, kA_31, kA_33, kA_34, kA_36, kA_37, kA_38, kA_40, kA_42, kA_44, kA_46, kA_48, kA_50, kA_52, kA_54, kA_56, kA_58, kA_61, kA_62, kA_63, kA_66, kA_67, kA_68, kA_71, kA_72, kA_73, kA_75, kA_76, kA_77, kA_78, kA_79, kA_80, kA_81, kA_82, kA_83, kA_84, kA_85, kA_86, kA_87, kA_88, kA_89, kA_90, kA_91, kA_92, kA_93, kA_94, kQ_2, kQ_3, kQ_4, kQ_22, kC_1, kC_5, kC_10, kC_11, kC_16, kC_17, kC_21, kC_26, kC_29, kC_32, kC_35, kC_39, kC_41, kC_43, kC_45, kC_47, kC_49, kC_51, kC_53, kC_55, kC_57, kC_59, kC_60, kC_64, kC_65, kC_69, kC_70, kC_74, g4, c1, nI_10, cx, cl, hD1, h41, nI_p1, c2, n1, hho2.1, k1, t1, em, r1]
theorem seekB_out {m : Nat} {q : QT} {H0 : HT} {n r : Nat} {R : Nat → Nat → Int32 → PM Unit} (hm6 : m ≤ 6) (hv : QV m q) (hW : HW 40 m H0) (hn : n ≤ 3) (hR : r = 0 ∨ (r ≠ 0 ∧ SeekB B m q H0 n r R)) {p : List Nat} (hp1 : p.length + (r + 1) = n) (hpm : ∀ c ∈ p, c ∈ prs m) :
    ∀ (F t : Nat) (D : DT) (st : SBt), t < F → t ≤ m → XF D 5 m q → fI D 21 4 = nI n → XH D (26 + 3 * p.length) m q (rnL q H0 p) → WY D p → SB D st →
    ∃ D', P_X6_seekStrongest_20 R 21 5 (nI p.length) F (nI (m - t)) (hp B D) = some ((), hp B D') ∧ SB D' ((ext (seqs (prs m) r) (ri m t)).foldl (fun st l => fB q H0 st (p ++ l)) st) ∧ Off (Tsk p.length) D D' ∧ WY D' p := by
  intro F
  induction F with
  | zero => intro t D st h1; omega
  | succ F ih =>
    intro t D st h1 h2 hF h4 hX hWy hS
    have g4 : fI D 5 4 = nI m := hF.1
    cases t with
    | zero =>
      have c1 : nI m ≤ nI (m - 0) := nI_le (by omega) (by omega)
      refine ⟨D, ?_, hS, Off.refl D, hWy⟩
      simp only [P_X6_seekStrongest_20, pureM_hp, ifB_t, ifB_f, decide_true, decide_false, ifB_hp, jn_hp, retZ_0, retZ_1, thn_some, cll0_w, cllV_w, getI_w, getL_w, getR_w, setI_w, setZ_w0, setZ_w1, setL_w, ald_w, ast_w, alen_w, aldR_2, aldR_3, aldR_4, aldR_22, cll0_pure, ↓reduceIte, if_true, if_false, Bool.false_eq_true, reduceCtorEq, and_true, true_and, and_false, false_and, ite_self, kI_1_9, kI_1_10, kI_5_4, kI_5_5, kI_5_6, kI_10_1, kI_11_4, kI_11_5, kI_11_6, kI_16_2, kI_16_3, kI_16_4, kI_16_5, kI_16_6, kI_17_2, kI_17_3, kI_21_4, kI_21_5, kI_21_6, kI_21_7, kI_21_8, kI_21_9, kI_21_10, kI_21_11, kI_26_2, kI_26_3, kI_29_2, kI_29_3, kI_32_2, kI_32_3, kI_35_2, kI_39_2, kI_39_3, kI_41_2, kI_41_3, kI_43_2, kI_43_3, kI_45_2, kI_45_3, kI_47_2, kI_47_3, kI_49_2, kI_49_3, kI_51_2, kI_51_3, kI_53_2, kI_53_3, kI_55_2, kI_55_3, kI_57_2, kI_57_3, kI_59_2, kI_59_3, kI_59_4, kI_59_5, kI_59_6, kI_60_2, kI_60_3, kI_64_2, kI_64_3, kI_64_4, kI_64_5, kI_64_6, kI_65_2, kI_65_3, kI_69_2, kI_69_3, kI_69_4, kI_69_5, kI_69_6, kI_70_2, kI_70_3, kI_74_10, kI_74_11, kI_74_12, kI_74_14, kI_74_18, kI_74_19, kI_74_20, kI_74_21, kI_74_22, kI_74_23, kI_74_29, kI_74_30, kI_74_31, kI_74_32, kI_74_33, kR_1_0, kR_1_1, kR_1_2, kR_1_3, kR_1_4, kR_1_5, kR_1_6, kR_1_7, kR_1_8, kR_5_0, kR_5_1, kR_5_2, kR_5_3, kR_10_0, kR_11_0, kR_11_1, kR_11_2, kR_11_3, kR_16_0, kR_16_1, kR_17_0, kR_17_1, kR_21_0, kR_21_1, kR_21_2, kR_21_3, kR_26_0, kR_26_1, kR_29_0, kR_29_1, kR_32_0, kR_32_1, kR_35_0, kR_35_1, kR_39_0, kR_41_0, kR_43_0, kR_45_0, kR_47_0, kR_49_0, kR_51_0, kR_53_0, kR_55_0, kR_57_0, kR_59_0, kR_59_1, kR_60_0, kR_60_1, kR_64_0, kR_64_1, kR_65_0, kR_65_1, kR_69_0, kR_69_1, kR_70_0, kR_70_1, kR_74_0, kR_74_1, kR_74_2, kR_74_3, kR_74_4, kR_74_5, kR_74_6, kR_74_7, kR_74_8, kR_74_9, kR_74_13, kR_74_17, kR_74_24, kR_74_25, kR_74_26, kR_74_27, kR_74_28, kR_74_34, kR_74_35, kR_74_36, kL_1_11, kL_1_12, kL_74_15, kL_74_16, kK_39_1, kK_41_1, kK_43_1, kK_45_1, kK_47_1, kK_49_1, kK_51_1, kK_53_1, kK_55_1, kK_57_1, kA_6, kA_7, kA_8, kA_9, kA_12, kA_13, kA_14, kA_15, kA_18, kA_19, kA_20, kA_23, kA_24, kA_25, kA_27, kA_28, kA_30, kA_31, kA_33, kA_34, kA_36, kA_37, kA_38, kA_40, kA_42, kA_44, kA_46, kA_48, kA_50, kA_52, kA_54, kA_56, kA_58, kA_61, kA_62, kA_63, kA_66, kA_67, kA_68, kA_71, kA_72, kA_73, kA_75, kA_76, kA_77, kA_78, kA_79, kA_80, kA_81, kA_82, kA_83, kA_84, kA_85, kA_86, kA_87, kA_88, kA_89, kA_90, kA_91, kA_92, kA_93, kA_94, kQ_2, kQ_3, kQ_4, kQ_22, kC_1, kC_5, kC_10, kC_11, kC_16, kC_17, kC_21, kC_26, kC_29, kC_32, kC_35, kC_39, kC_41, kC_43, kC_45, kC_47, kC_49, kC_51, kC_53, kC_55, kC_57, kC_59, kC_60, kC_64, kC_65, kC_69, kC_70, kC_74, g4, c1]
    | succ t =>
      have c1 : ¬ nI m ≤ nI (m - (t + 1)) := nI_ge (by omega) (by omega)
      have em : m - (t + 1) + 1 = m - t := by omega
      obtain ⟨D1, a1, a2, a3, a4⟩ := seekB_in (B := B) (i := m - (t + 1)) hm6 hv hW hn hR hp1 hpm (P_X6_seekStrongest_20 R 21 5 (nI p.length) F (nI (m - t))) 4000 t D st (by omega) (by omega) hF h4 hX hWy hS
      obtain ⟨D2, r1, r2, r3, r4⟩ := ih t D1 _ (by omega) (by omega) (Tsk_f hF a3) (by rw [(a3.1 21 4 (by unfold Tsk; omega)).1]; exact h4) (Tsk_h hX (by omega) a3) a4 a2
      refine ⟨D2, ?_, by rw [show ri m (t + 1) = rj (m - (t + 1)) m t ++ ri m t from rfl, foldl_ext_app]; exact r2, a3.trans r3, r4⟩
      simp only [P_X6_seekStrongest_20, pureM_hp, ifB_t, ifB_f, decide_true, decide_false, ifB_hp, jn_hp, retZ_0, retZ_1, thn_some, cll0_w, cllV_w, getI_w, getL_w, getR_w, setI_w, setZ_w0, setZ_w1, setL_w, ald_w, ast_w, alen_w, aldR_2, aldR_3, aldR_4, aldR_22, cll0_pure, ↓reduceIte, if_true, if_false, Bool.false_eq_true, reduceCtorEq, and_true, true_and, and_false, false_and, ite_self, kI_1_9, kI_1_10, kI_5_4, kI_5_5, kI_5_6, kI_10_1, kI_11_4, kI_11_5, kI_11_6, kI_16_2, kI_16_3, kI_16_4, kI_16_5, kI_16_6, kI_17_2, kI_17_3, kI_21_4, kI_21_5, kI_21_6, kI_21_7, kI_21_8, kI_21_9, kI_21_10, kI_21_11, kI_26_2, kI_26_3, kI_29_2, kI_29_3, kI_32_2, kI_32_3, kI_35_2, kI_39_2, kI_39_3, kI_41_2, kI_41_3, kI_43_2, kI_43_3, kI_45_2, kI_45_3, kI_47_2, kI_47_3, kI_49_2, kI_49_3, kI_51_2, kI_51_3, kI_53_2, kI_53_3, kI_55_2, kI_55_3, kI_57_2, kI_57_3, kI_59_2, kI_59_3, kI_59_4, kI_59_5, kI_59_6, kI_60_2, kI_60_3, kI_64_2, kI_64_3, kI_64_4, kI_64_5, kI_64_6, kI_65_2, kI_65_3, kI_69_2, kI_69_3, kI_69_4, kI_69_5, kI_69_6, kI_70_2, kI_70_3, kI_74_10, kI_74_11, kI_74_12, kI_74_14, kI_74_18, kI_74_19, kI_74_20, kI_74_21, kI_74_22, kI_74_23, kI_74_29, kI_74_30, kI_74_31, kI_74_32, kI_74_33, kR_1_0, kR_1_1, kR_1_2, kR_1_3, kR_1_4, kR_1_5, kR_1_6, kR_1_7, kR_1_8, kR_5_0, kR_5_1, kR_5_2, kR_5_3, kR_10_0, kR_11_0, kR_11_1, kR_11_2, kR_11_3, kR_16_0, kR_16_1, kR_17_0, kR_17_1, kR_21_0, kR_21_1, kR_21_2, kR_21_3, kR_26_0, kR_26_1, kR_29_0, kR_29_1, kR_32_0, kR_32_1, kR_35_0, kR_35_1, kR_39_0, kR_41_0, kR_43_0, kR_45_0, kR_47_0, kR_49_0, kR_51_0, kR_53_0, kR_55_0, kR_57_0, kR_59_0, kR_59_1, kR_60_0, kR_60_1, kR_64_0, kR_64_1, kR_65_0, kR_65_1, kR_69_0, kR_69_1, kR_70_0, kR_70_1, kR_74_0, kR_74_1, kR_74_2, kR_74_3, kR_74_4, kR_74_5, kR_74_6, kR_74_7, kR_74_8, kR_74_9, kR_74_13, kR_74_17, kR_74_24, kR_74_25, kR_74_26, kR_74_27, kR_74_28, kR_74_34, kR_74_35, kR_74_36, kL_1_11, kL_1_12, kL_74_15, kL_74_16, kK_39_1, kK_41_1, kK_43_1, kK_45_1, kK_47_1, kK_49_1, kK_51_1, kK_53_1, kK_55_1, kK_57_1, kA_6, kA_7, kA_8, kA_9, kA_12, kA_13, kA_14, kA_15, kA_18, kA_19, kA_20, kA_23, kA_24, kA_25, kA_27, kA_28, kA_30, kA_31, kA_33, kA_34, kA_36, kA_37, kA_38, kA_40, kA_42, kA_44, kA_46, kA_48, kA_50, kA_52, kA_54, kA_56, kA_58, kA_61, kA_62, kA_63, kA_66, kA_67, kA_68, kA_71, kA_72, kA_73, kA_75, kA_76, kA_77, kA_78, kA_79, kA_80, kA_81, kA_82, kA_83, kA_84, kA_85, kA_86, kA_87, kA_88, kA_89, kA_90, kA_91, kA_92, kA_93, kA_94, kQ_2, kQ_3, kQ_4, kQ_22, kC_1, kC_5, kC_10, kC_11, kC_16, kC_17, kC_21, kC_26, kC_29, kC_32, kC_35, kC_39, kC_41, kC_43, kC_45, kC_47, kC_49, kC_51, kC_53, kC_55, kC_57, kC_59, kC_60, kC_64, kC_65, kC_69, kC_70, kC_74, g4, c1, nI_p1, em, a1, r1]
theorem seekB {m : Nat} {q : QT} {H0 : HT} {n : Nat} (hm6 : m ≤ 6) (hv : QV m q) (hW : HW 40 m H0) (hn : n ≤ 3) : ∀ (r f : Nat), r + 1 ≤ f → SeekB B m q H0 n (r + 1) (P_X6_seekStrongest f) := by
  intro r
  induction r with
  | zero =>
    intro f hf
    cases f with
    | zero => omega
    | succ f =>
      intro p D st hp1 hpm hF h4 hX hWy hS
      have c1 : ¬ nI p.length < 0 := fun z => by
        have := (nI_ltI (b := 0) (by omega) (by omega)).mp z
        omega
      have c2 : ¬ nI n ≤ nI p.length := nI_ge (by omega) (by omega)
      have c3 : nI p.length < 3 := (nI_ltI (b := 3) (by omega) (by omega)).mpr (by omega)
      obtain ⟨D', r1, r2, r3, r4⟩ := seekB_out (B := B) (R := P_X6_seekStrongest f) hm6 hv hW hn (Or.inl rfl) hp1 hpm 4000 m D st (by omega) (Nat.le_refl _) hF h4 hX hWy hS
      rw [Nat.sub_self, nI_0] at r1
      refine ⟨D', ?_, r2, r3, r4⟩
      simp only [P_X6_seekStrongest, pureM_hp, ifB_t, ifB_f, decide_true, decide_false, ifB_hp, jn_hp, retZ_0, retZ_1, thn_some, cll0_w, cllV_w, getI_w, getL_w, getR_w, setI_w, setZ_w0, setZ_w1, setL_w, ald_w, ast_w, alen_w, aldR_2, aldR_3, aldR_4, aldR_22, cll0_pure, ↓reduceIte, if_true, if_false, Bool.false_eq_true, reduceCtorEq, and_true, true_and, and_false, false_and, ite_self, kI_1_9, kI_1_10, kI_5_4, kI_5_5, kI_5_6, kI_10_1, kI_11_4, kI_11_5, kI_11_6, kI_16_2, kI_16_3, kI_16_4, kI_16_5, kI_16_6, kI_17_2, kI_17_3, kI_21_4, kI_21_5, kI_21_6, kI_21_7, kI_21_8, kI_21_9, kI_21_10, kI_21_11, kI_26_2, kI_26_3, kI_29_2, kI_29_3, kI_32_2, kI_32_3, kI_35_2, kI_39_2, kI_39_3, kI_41_2, kI_41_3, kI_43_2, kI_43_3, kI_45_2, kI_45_3, kI_47_2, kI_47_3, kI_49_2, kI_49_3, kI_51_2, kI_51_3, kI_53_2, kI_53_3, kI_55_2, kI_55_3, kI_57_2, kI_57_3, kI_59_2, kI_59_3, kI_59_4, kI_59_5, kI_59_6, kI_60_2, kI_60_3, kI_64_2, kI_64_3, kI_64_4, kI_64_5, kI_64_6, kI_65_2, kI_65_3, kI_69_2, kI_69_3, kI_69_4, kI_69_5, kI_69_6, kI_70_2, kI_70_3, kI_74_10, kI_74_11, kI_74_12, kI_74_14, kI_74_18, kI_74_19, kI_74_20, kI_74_21, kI_74_22, kI_74_23, kI_74_29, kI_74_30, kI_74_31, kI_74_32, kI_74_33, kR_1_0, kR_1_1, kR_1_2, kR_1_3, kR_1_4, kR_1_5, kR_1_6, kR_1_7, kR_1_8, kR_5_0, kR_5_1, kR_5_2, kR_5_3, kR_10_0, kR_11_0, kR_11_1, kR_11_2, kR_11_3, kR_16_0, kR_16_1, kR_17_0, kR_17_1, kR_21_0, kR_21_1, kR_21_2, kR_21_3, kR_26_0, kR_26_1, kR_29_0, kR_29_1, kR_32_0, kR_32_1, kR_35_0, kR_35_1, kR_39_0, kR_41_0, kR_43_0, kR_45_0, kR_47_0, kR_49_0, kR_51_0, kR_53_0, kR_55_0, kR_57_0, kR_59_0, kR_59_1, kR_60_0, kR_60_1, kR_64_0, kR_64_1, kR_65_0, kR_65_1, kR_69_0, kR_69_1, kR_70_0, kR_70_1, kR_74_0, kR_74_1, kR_74_2, kR_74_3, kR_74_4, kR_74_5, kR_74_6, kR_74_7, kR_74_8, kR_74_9, kR_74_13, kR_74_17, kR_74_24, kR_74_25, kR_74_26, kR_74_27, kR_74_28, kR_74_34, kR_74_35, kR_74_36, kL_1_11, kL_1_12, kL_74_15, kL_74_16, kK_39_1, kK_41_1, kK_43_1, kK_45_1, kK_47_1, kK_49_1, kK_51_1, kK_53_1, kK_55_1, kK_57_1, kA_6, kA_7, kA_8, kA_9, kA_12, kA_13, kA_14, kA_15, kA_18, kA_19, kA_20, kA_23, kA_24, kA_25, kA_27, kA_28, kA_30, kA_31, kA_33, kA_34, kA_36, kA_37, kA_38, kA_40, kA_42, kA_44, kA_46, kA_48, kA_50, kA_52, kA_54, kA_56, kA_58, kA_61, kA_62, kA_63, kA_66, kA_67, kA_68, kA_71, kA_72, kA_73, kA_75, kA_76, kA_77, kA_78, kA_79, kA_80, kA_81, kA_82, kA_83, kA_84, kA_85, kA_86, kA_87, kA_88, kA_89, kA_90, kA_91, kA_92, kA_93, kA_94, kQ_2, kQ_3, kQ_4, kQ_22, kC_1, kC_5, kC_10, kC_11, kC_16, kC_17, kC_21, kC_26, kC_29, kC_32, kC_35, kC_39, kC_41, kC_43, kC_45, kC_47, kC_49, kC_51, kC_53, kC_55, kC_57, kC_59, kC_60, kC_64, kC_65, kC_69, kC_70, kC_74, c1, h4, c2, c3, r1]
  | succ r ih =>
    intro f hf
    cases f with
    | zero => omega
    | succ f =>
      intro p D st hp1 hpm hF h4 hX hWy hS
      have c1 : ¬ nI p.length < 0 := fun z => by
        have := (nI_ltI (b := 0) (by omega) (by omega)).mp z
        omega
      have c2 : ¬ nI n ≤ nI p.length := nI_ge (by omega) (by omega)
      have c3 : nI p.length < 3 := (nI_ltI (b := 3) (by omega) (by omega)).mpr (by omega)
      obtain ⟨D', r1, r2, r3, r4⟩ := seekB_out (B := B) (R := P_X6_seekStrongest f) hm6 hv hW hn (Or.inr ⟨by omega, ih f (by omega)⟩) hp1 hpm 4000 m D st (by omega) (Nat.le_refl _) hF h4 hX hWy hS
      rw [Nat.sub_self, nI_0] at r1
      refine ⟨D', ?_, r2, r3, r4⟩
      simp only [P_X6_seekStrongest, pureM_hp, ifB_t, ifB_f, decide_true, decide_false, ifB_hp, jn_hp, retZ_0, retZ_1, thn_some, cll0_w, cllV_w, getI_w, getL_w, getR_w, setI_w, setZ_w0, setZ_w1, setL_w, ald_w, ast_w, alen_w, aldR_2, aldR_3, aldR_4, aldR_22, cll0_pure, ↓reduceIte, if_true, if_false, Bool.false_eq_true, reduceCtorEq, and_true, true_and, and_false, false_and, ite_self, kI_1_9, kI_1_10, kI_5_4, kI_5_5, kI_5_6, kI_10_1, kI_11_4, kI_11_5, kI_11_6, kI_16_2, kI_16_3, kI_16_4, kI_16_5, kI_16_6, kI_17_2, kI_17_3, kI_21_4, kI_21_5, kI_21_6, kI_21_7, kI_21_8, kI_21_9, kI_21_10, kI_21_11, kI_26_2, kI_26_3, kI_29_2, kI_29_3, kI_32_2, kI_32_3, kI_35_2, kI_39_2, kI_39_3, kI_41_2, kI_41_3, kI_43_2, kI_43_3, kI_45_2, kI_45_3, kI_47_2, kI_47_3, kI_49_2, kI_49_3, kI_51_2, kI_51_3, kI_53_2, kI_53_3, kI_55_2, kI_55_3, kI_57_2, kI_57_3, kI_59_2, kI_59_3, kI_59_4, kI_59_5, kI_59_6, kI_60_2, kI_60_3, kI_64_2, kI_64_3, kI_64_4, kI_64_5, kI_64_6, kI_65_2, kI_65_3, kI_69_2, kI_69_3, kI_69_4, kI_69_5, kI_69_6, kI_70_2, kI_70_3, kI_74_10, kI_74_11, kI_74_12, kI_74_14, kI_74_18, kI_74_19, kI_74_20, kI_74_21, kI_74_22, kI_74_23, kI_74_29, kI_74_30, kI_74_31, kI_74_32, kI_74_33, kR_1_0, kR_1_1, kR_1_2, kR_1_3, kR_1_4, kR_1_5, kR_1_6, kR_1_7, kR_1_8, kR_5_0, kR_5_1, kR_5_2, kR_5_3, kR_10_0, kR_11_0, kR_11_1, kR_11_2, kR_11_3, kR_16_0, kR_16_1, kR_17_0, kR_17_1, kR_21_0, kR_21_1, kR_21_2, kR_21_3, kR_26_0, kR_26_1, kR_29_0, kR_29_1, kR_32_0, kR_32_1, kR_35_0, kR_35_1, kR_39_0, kR_41_0, kR_43_0, kR_45_0, kR_47_0, kR_49_0, kR_51_0, kR_53_0, kR_55_0, kR_57_0, kR_59_0, kR_59_1, kR_60_0, kR_60_1, kR_64_0, kR_64_1, kR_65_0, kR_65_1, kR_69_0, kR_69_1, kR_70_0, kR_70_1, kR_74_0, kR_74_1, kR_74_2, kR_74_3, kR_74_4, kR_74_5, kR_74_6, kR_74_7, kR_74_8, kR_74_9, kR_74_13, kR_74_17, kR_74_24, kR_74_25, kR_74_26, kR_74_27, kR_74_28, kR_74_34, kR_74_35, kR_74_36, kL_1_11, kL_1_12, kL_74_15, kL_74_16, kK_39_1, kK_41_1, kK_43_1, kK_45_1, kK_47_1, kK_49_1, kK_51_1, kK_53_1, kK_55_1, kK_57_1, kA_6, kA_7, kA_8, kA_9, kA_12, kA_13, kA_14, kA_15, kA_18, kA_19, kA_20, kA_23, kA_24, kA_25, kA_27, kA_28, kA_30, kA_31, kA_33, kA_34, kA_36, kA_37, kA_38, kA_40, kA_42, kA_44, kA_46, kA_48, kA_50, kA_52, kA_54, kA_56, kA_58, kA_61, kA_62, kA_63, kA_66, kA_67, kA_68, kA_71, kA_72, kA_73, kA_75, kA_76, kA_77, kA_78, kA_79, kA_80, kA_81, kA_82, kA_83, kA_84, kA_85, kA_86, kA_87, kA_88, kA_89, kA_90, kA_91, kA_92, kA_93, kA_94, kQ_2, kQ_3, kQ_4, kQ_22, kC_1, kC_5, kC_10, kC_11, kC_16, kC_17, kC_21, kC_26, kC_29, kC_32, kC_35, kC_39, kC_41, kC_43, kC_45, kC_47, kC_49, kC_51, kC_53, kC_55, kC_57, kC_59, kC_60, kC_64, kC_65, kC_69, kC_70, kC_74, c1, h4, c2, c3, r1]
end BEST
