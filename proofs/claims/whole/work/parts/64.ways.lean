/-! Rows of watches behind each of which the bridge is so strong: the class. -/
section WAYS
variable {B : BT}
def pc (s : Nat) : Nat := s % 2 + s / 2 % 2 + s / 4 % 2 + s / 8 % 2 + s / 16 % 2 + s / 32 % 2
def orc (s c : Nat) : Nat := s ||| 2 ^ (c / 10) ||| 2 ^ (c % 10)
def whoN (l : List Nat) : Nat := l.foldl orc 0
theorem whoN_app (l : List Nat) (c : Nat) : whoN (l ++ [c]) = orc (whoN l) c := by
  unfold whoN
  rw [List.foldl_append]
  rfl
theorem or_dec : ∀ s, s < 64 → ∀ i, i < 6 → ∀ j, j < 6 → (nI s ||| (1 <<< (nI i &&& 31))) ||| (1 <<< (nI j &&& 31)) = nI (s ||| 2 ^ i ||| 2 ^ j) ∧ nI s ||| ((1 <<< (nI i &&& 31)) ||| (1 <<< (nI j &&& 31))) = nI (s ||| 2 ^ i ||| 2 ^ j) ∧ s ||| 2 ^ i ||| 2 ^ j < 64 ∧ 0 < s ||| 2 ^ i ||| 2 ^ j := by decide +kernel
theorem orc_ok {m s c : Nat} (hm6 : m ≤ 6) (hs : s < 64) (hc : c ∈ prs m) : orc s c < 64 ∧ 0 < orc s c := by
  obtain ⟨h1, h2, h3⟩ := (prs_ok hm6).1 c hc
  exact (or_dec s hs (c / 10) (by omega) (c % 10) (by omega)).2.2
theorem whoN_lt {m : Nat} (hm6 : m ≤ 6) : ∀ (l : List Nat) (s : Nat), s < 64 → (∀ c ∈ l, c ∈ prs m) → l.foldl orc s < 64 := by
  intro l
  induction l with
  | nil => intro s hs _; exact hs
  | cons c l ih => intro s hs h; exact ih _ (orc_ok hm6 hs (h c List.mem_cons_self)).1 (fun d hd => h d (List.mem_cons_of_mem _ hd))
theorem whoN_pos {m : Nat} (hm6 : m ≤ 6) : ∀ (l : List Nat) (s : Nat), s < 64 → (∀ c ∈ l, c ∈ prs m) → (0 < s ∨ l ≠ []) → 0 < l.foldl orc s := by
  intro l
  induction l with
  | nil =>
    intro s hs _ h
    rcases h with h | h
    · exact h
    · exact absurd rfl h
  | cons c l ih =>
    intro s hs h _
    have h1 := orc_ok hm6 hs (h c List.mem_cons_self)
    exact ih _ h1.1 (fun d hd => h d (List.mem_cons_of_mem _ hd)) (Or.inl h1.2)
def bcE (x : Int32) : Int32 := match P_J6_bitCount_0f7a4 x (0, 0, fun _ => .inl (0, [])) with
  | some (v, _) => v
  | none => 0
theorem bc_pure (x : Int32) : P_J6_bitCount_0f7a4 x = pureM (bcE x) := rfl
theorem bc_dec : ∀ s, s < 64 → bcE (nI s) = nI (pc s) ∧ pc s ≤ 6 := by decide +kernel
theorem sub_dec : ∀ a, a < 7 → ∀ b, b < 7 → decide (nI a - nI b < 0) = decide (a < b) ∧ decide (nI a - nI b = 0) = decide (a = b) := by decide +kernel
theorem sub_lt0 {a b : Nat} (ha : a < 7) (hb : b < 7) : (nI a - nI b < 0) = (a < b) := propext (decide_eq_decide.mp (sub_dec a ha b hb).1)
theorem sub_eq0 {a b : Nat} (ha : a < 7) (hb : b < 7) : (nI a - nI b = 0) = (a = b) := propext (decide_eq_decide.mp (sub_dec a ha b hb).2)
def suit (ex : Bool) (s v : Int32) : Bool := if ex = true then decide (s = v) else decide (¬ s < v)
def okL (ex : Bool) (wn : Nat → Int32) (q : QT) : HT → Nat → List Nat → Bool
  | _, _, [] => true
  | H, k, c :: l => suit ex (wat q H (c / 10) (c % 10)).1 (wn k) && okL ex wn q (wat q H (c / 10) (c % 10)) (k + 1) l
abbrev SYt : Type := Int32 × Int32 × Int32 × Int32 × Nat
def bett (f s : Nat) : Bool := decide (f = 0) || (decide (pc s < pc f) || (decide (pc s = pc f) && decide (s < f)))
def SWy (D : DT) (st : SYt) : Prop := fI D 21 7 = st.1 ∧ fI D 21 8 = st.2.1 ∧ fI D 21 9 = st.2.2.1 ∧ fI D 21 10 = st.2.2.2.1 ∧ fI D 21 11 = nI st.2.2.2.2 ∧ st.2.2.2.2 < 64
def nt (st : SYt) (f0 : Int32) (s : Nat) : SYt := (st.1 + 1, if st.1 = 0 then f0 else st.2.1, st.2.2.1 &&& nI s, st.2.2.2.1 ||| nI s, if bett st.2.2.2.2 s = true then s else st.2.2.2.2)
def Tnw : Nat → Nat → Prop := fun a k => a = 21 ∧ 7 ≤ k ∧ k ≤ 11
theorem x_noteWay {D : DT} {st : SYt} {s : Nat} (h : SWy D st) (hs : s < 64) : ∃ D', P_X6_noteWay 21 (nI s) (hp B D) = some ((), hp B D') ∧ SWy D' (nt st (fG D 23 0) s) ∧ Off Tnw D D' := by
  obtain ⟨w, fi, al, ev, f⟩ := st
  obtain ⟨h1, h2, h3, h4, h5, h6⟩ := h
  dsimp only at h1 h2 h3 h4 h5 h6
  have b1 := bc_dec s hs
  have b2 := bc_dec f h6
  have t0 : (0 : Int32).toInt = 0 := rfl
  have n0 : (0 : Int32).toNatClampNeg = 0 := rfl
  have c0 : (0 : Int) ≤ 0 ∧ (0 : Int) < ((3 : Nat) : Int) := by omega
  have l1 : (nI (pc s) - nI (pc f) < 0) = (pc s < pc f) := sub_lt0 (by omega) (by omega)
  have l2 : (nI (pc s) - nI (pc f) = 0) = (pc s = pc f) := sub_eq0 (by omega) (by omega)
  have l3 : (nI f = 0) = (f = 0) := nI_z (by omega)
  have l4 : (nI f ≤ nI s) = (f ≤ s) := by
    by_cases h : f ≤ s
    · exact propext ⟨fun _ => h, fun _ => nI_le h (by omega)⟩
    · exact propext ⟨fun z => absurd z (nI_ge (by omega) (by omega)), fun z => absurd z h⟩
  have main : ∀ D0 fi', fI D0 21 7 = w → fI D0 21 8 = fi' → fI D0 21 9 = al → fI D0 21 10 = ev → fI D0 21 11 = nI f → ∃ D', (getI 6 7 21 fun v2 =>
setI 6 7 21 (v2 + 1) <|
getI 6 9 21 fun v3 =>
setI 6 9 21 (v3 &&& nI s) <|
getI 6 10 21 fun v4 =>
setI 6 10 21 (v4 ||| nI s) <|
cll0 (P_J6_bitCount_0f7a4 (nI s)) fun v5 =>
getI 6 11 21 fun v6 =>
cll0 (P_J6_bitCount_0f7a4 v6) fun v7 =>
getI 6 11 21 fun v8 =>
jn (
setI 6 11 21 (nI s) <|
pureM ()) fun k9 =>
ifB (decide (v8 = 0)) (
k9) (
ifB (decide ((v5 - v7) < 0)) (
k9) (
ifB (decide (¬ (v5 - v7) = 0)) (
pureM ()) (
getI 6 11 21 fun v10 =>
ifB (decide (v10 ≤ nI s)) (
pureM ()) (
k9))))) (hp B D0) = some ((), hp B D') ∧ SWy D' (w + 1, fi', al &&& nI s, ev ||| nI s, if bett f s = true then s else f) ∧ Off Tnw D0 D' := by
    intro D0 fi' g1 g2 g3 g4 g5
    have o1 : Off Tnw D0 (uI (uI (uI D0 21 7 (w + 1)) 21 9 (al &&& nI s)) 21 10 (ev ||| nI s)) := (((Off.refl D0).uI _ _ _ (by unfold Tnw; omega)).uI _ _ _ (by unfold Tnw; omega)).uI _ _ _ (by unfold Tnw; omega)
    by_cases hb : bett f s = true
    · refine ⟨uI (uI (uI (uI D0 21 7 (w + 1)) 21 9 (al &&& nI s)) 21 10 (ev ||| nI s)) 21 11 (nI s), ?_, ?_, o1.uI _ _ _ (by unfold Tnw; omega)⟩
      · simp only [bc_pure, cll0_pure, b1.1, b2.1, pureM_hp, ifB_t, ifB_f, decide_true, decide_false, ifB_hp, jn_hp, retZ_0, retZ_1, thn_some, cll0_w, cllV_w, getI_w, getL_w, getR_w, setI_w, setZ_w0, setZ_w1, setL_w, ald_w, ast_w, alen_w, aldR_2, aldR_3, aldR_4, aldR_22, cll0_pure, ↓reduceIte, if_true, if_false, Bool.false_eq_true, reduceCtorEq, and_true, true_and, and_false, false_and, ite_self, Int32.reduceAdd, Int32.reduceToInt, Int32.reduceToNatClampNeg, Int32.reduceLT, Int32.reduceLE, Int.reduceLE, Int.reduceLT, Int.reduceNeg, Int.reduceAdd, Nat.reduceEqDiff, Nat.reduceAdd, Nat.reduceMul, Nat.reduceLeDiff, not_true_eq_false, not_false_eq_true, le_i, lt_i, b2i_0, lgi_gt, lgi_lt, lgi_le, lgi_ge, lq_m9_m6, lq_m9_m4, lq_m9_m3, lq_m9_m2, lq_m9_m1, lq_m9_0, lq_m9_1, lq_m9_2, lq_m9_3, lq_m9_4, lq_m9_5, lq_m6_m9, lq_m6_m4, lq_m6_m3, lq_m6_m2, lq_m6_m1, lq_m6_0, lq_m6_1, lq_m6_2, lq_m6_3, lq_m6_4, lq_m6_5, lq_m4_m9, lq_m4_m6, lq_m4_m3, lq_m4_m2, lq_m4_m1, lq_m4_0, lq_m4_1, lq_m4_2, lq_m4_3, lq_m4_4, lq_m4_5, lq_m3_m9, lq_m3_m6, lq_m3_m4, lq_m3_m2, lq_m3_m1, lq_m3_0, lq_m3_1, lq_m3_2, lq_m3_3, lq_m3_4, lq_m3_5, lq_m2_m9, lq_m2_m6, lq_m2_m4, lq_m2_m3, lq_m2_m1, lq_m2_0, lq_m2_1, lq_m2_2, lq_m2_3, lq_m2_4, lq_m2_5, lq_m1_m9, lq_m1_m6, lq_m1_m4, lq_m1_m3, lq_m1_m2, lq_m1_0, lq_m1_1, lq_m1_2, lq_m1_3, lq_m1_4, lq_m1_5, lq_0_m9, lq_0_m6, lq_0_m4, lq_0_m3, lq_0_m2, lq_0_m1, lq_0_1, lq_0_2, lq_0_3, lq_0_4, lq_0_5, lq_1_m9, lq_1_m6, lq_1_m4, lq_1_m3, lq_1_m2, lq_1_m1, lq_1_0, lq_1_2, lq_1_3, lq_1_4, lq_1_5, lq_2_m9, lq_2_m6, lq_2_m4, lq_2_m3, lq_2_m2, lq_2_m1, lq_2_0, lq_2_1, lq_2_3, lq_2_4, lq_2_5, lq_3_m9, lq_3_m6, lq_3_m4, lq_3_m3, lq_3_m2, lq_3_m1, lq_3_0, lq_3_1, lq_3_2, lq_3_4, lq_3_5, lq_4_m9, lq_4_m6, lq_4_m4, lq_4_m3, lq_4_m2, lq_4_m1, lq_4_0, lq_4_1, lq_4_2, lq_4_3, lq_4_5, lq_5_m9, lq_5_m6, lq_5_m4, lq_5_m3, lq_5_m2, lq_5_m1, lq_5_0, lq_5_1, lq_5_2, lq_5_3, lq_5_4, ti_m9, ti_m6, ti_m4, ti_m3, ti_m2, ti_m1, ti_0, ti_1, ti_2, ti_3, ti_4, ti_5, kI_1_9, kI_1_10, kI_5_4, kI_5_5, kI_5_6, kI_10_1, kI_11_4, kI_11_5, kI_11_6, kI_16_2, kI_16_3, kI_16_4, kI_16_5, kI_16_6, kI_17_2, kI_17_3, kI_21_4, kI_21_5, kI_21_6, kI_21_7, kI_21_8, kI_21_9, kI_21_10, kI_21_11, kI_26_2, kI_26_3, kI_29_2, kI_29_3, kI_32_2, kI_32_3, kI_35_2, kI_39_2, kI_39_3, kI_41_2, kI_41_3, kI_43_2, kI_43_3, kI_45_2, kI_45_3, kI_47_2, kI_47_3, kI_49_2, kI_49_3, kI_51_2, kI_51_3, kI_53_2, kI_53_3, kI_55_2, kI_55_3, kI_57_2, kI_57_3, kI_59_2, kI_59_3, kI_59_4, kI_59_5, kI_59_6, kI_60_2, kI_60_3, kI_64_2, kI_64_3, kI_64_4, kI_64_5, kI_64_6, kI_65_2, kI_65_3, kI_69_2, kI_69_3, kI_69_4, kI_69_5, kI_69_6, kI_70_2, kI_70_3, kI_74_10, kI_74_11, kI_74_12, kI_74_14, kI_74_18, kI_74_19, kI_74_20, kI_74_21, kI_74_22, kI_74_23, kI_74_29, kI_74_30, kI_74_31, kI_74_32, kI_74_33, kR_1_0, kR_1_1, kR_1_2, kR_1_3, kR_1_4, kR_1_5, kR_1_6, kR_1_7, kR_1_8, kR_5_0, kR_5_1, kR_5_2, kR_5_3, kR_10_0, kR_11_0, kR_11_1, kR_11_2, kR_11_3, kR_16_0, kR_16_1, kR_17_0, kR_17_1, kR_21_0, kR_21_1, kR_21_2, kR_21_3, kR_26_0, kR_26_1, kR_29_0, kR_29_1, kR_32_0, kR_32_1, kR_35_0, kR_35_1, kR_39_0, kR_41_0, kR_43_0, kR_45_0, kR_47_0, kR_49_0, kR_51_0, kR_53_0, kR_55_0, kR_57_0, kR_59_0, kR_59_1, kR_60_0, kR_60_1, kR_64_0, kR_64_1, kR_65_0, kR_65_1, kR_69_0, kR_69_1, kR_70_0, kR_70_1, kR_74_0, kR_74_1, kR_74_2, kR_74_3, kR_74_4, kR_74_5, kR_74_6, kR_74_7, kR_74_8, kR_74_9, kR_74_13, kR_74_17, kR_74_24, kR_74_25, kR_74_26, kR_74_27, kR_74_28, kR_74_34, kR_74_35, kR_74_36, kL_1_11, kL_1_12, kL_74_15, kL_74_16, kK_39_1, kK_41_1, kK_43_1, kK_45_1, kK_47_1, kK_49_1, kK_51_1, kK_53_1, kK_55_1, kK_57_1, kA_6, kA_7, kA_8, kA_9, kA_12, kA_13, kA_14, kA_15, kA_18, kA_19, kA_20, kA_23, kA_24, kA_25, kA_27, kA_28, kA_30, kA_31, kA_33, kA_34, kA_36, kA_37, kA_38, kA_40, kA_42, kA_44, kA_46, kA_48, kA_50, kA_52, kA_54, kA_56, kA_58, kA_61, kA_62, kA_63, kA_66, kA_67, kA_68, kA_71, kA_72, kA_73, kA_75, kA_76, kA_77, kA_78, kA_79, kA_80, kA_81, kA_82, kA_83, kA_84, kA_85, kA_86, kA_87, kA_88, kA_89, kA_90, kA_91, kA_92, kA_93, kA_94, kQ_2, kQ_3, kQ_4, kQ_22, kC_1, kC_5, kC_10, kC_11, kC_16, kC_17, kC_21, kC_26, kC_29, kC_32, kC_35, kC_39, kC_41, kC_43, kC_45, kC_47, kC_49, kC_51, kC_53, kC_55, kC_57, kC_59, kC_60, kC_64, kC_65, kC_69, kC_70, kC_74, g1, g3, g4, g5, fI_uI, and_self, l3]
        have hb' : f = 0 ∨ pc s < pc f ∨ (pc s = pc f ∧ s < f) := by
          unfold bett at hb
          simpa using hb
        have l1' : ((nI (pc s) - nI (pc f)).toInt < 0) = (pc s < pc f) := by rw [← l1, lt_i, t0]
        have l4' : ((nI f).toInt ≤ (nI s).toInt) = (f ≤ s) := by rw [← l4, le_i]
        simp only [l1', l2, l4']
        by_cases e1 : f = 0
        · simp only [e1, if_true]
        · by_cases e2 : pc s < pc f
          · simp only [e1, e2, if_true, if_false]
          · have e3 : pc s = pc f ∧ s < f := by
              rcases hb' with h | h | h
              · exact absurd h e1
              · exact absurd h e2
              · exact h
            have e4 : ¬ f ≤ s := by omega
            simp only [e1, e2, e3.1, e4, not_true_eq_false, if_true, if_false, Nat.lt_irrefl]
      · rw [if_pos hb]
        refine ⟨?_, ?_, ?_, ?_, ?_, hs⟩ <;> simp [fI_uI, g2]
    · refine ⟨uI (uI (uI D0 21 7 (w + 1)) 21 9 (al &&& nI s)) 21 10 (ev ||| nI s), ?_, ?_, o1⟩
      · simp only [bc_pure, cll0_pure, b1.1, b2.1, pureM_hp, ifB_t, ifB_f, decide_true, decide_false, ifB_hp, jn_hp, retZ_0, retZ_1, thn_some, cll0_w, cllV_w, getI_w, getL_w, getR_w, setI_w, setZ_w0, setZ_w1, setL_w, ald_w, ast_w, alen_w, aldR_2, aldR_3, aldR_4, aldR_22, cll0_pure, ↓reduceIte, if_true, if_false, Bool.false_eq_true, reduceCtorEq, and_true, true_and, and_false, false_and, ite_self, Int32.reduceAdd, Int32.reduceToInt, Int32.reduceToNatClampNeg, Int32.reduceLT, Int32.reduceLE, Int.reduceLE, Int.reduceLT, Int.reduceNeg, Int.reduceAdd, Nat.reduceEqDiff, Nat.reduceAdd, Nat.reduceMul, Nat.reduceLeDiff, not_true_eq_false, not_false_eq_true, le_i, lt_i, b2i_0, lgi_gt, lgi_lt, lgi_le, lgi_ge, lq_m9_m6, lq_m9_m4, lq_m9_m3, lq_m9_m2, lq_m9_m1, lq_m9_0, lq_m9_1, lq_m9_2, lq_m9_3, lq_m9_4, lq_m9_5, lq_m6_m9, lq_m6_m4, lq_m6_m3, lq_m6_m2, lq_m6_m1, lq_m6_0, lq_m6_1, lq_m6_2, lq_m6_3, lq_m6_4, lq_m6_5, lq_m4_m9, lq_m4_m6, lq_m4_m3, lq_m4_m2, lq_m4_m1, lq_m4_0, lq_m4_1, lq_m4_2, lq_m4_3, lq_m4_4, lq_m4_5, lq_m3_m9, lq_m3_m6, lq_m3_m4, lq_m3_m2, lq_m3_m1, lq_m3_0, lq_m3_1, lq_m3_2, lq_m3_3, lq_m3_4, lq_m3_5, lq_m2_m9, lq_m2_m6, lq_m2_m4, lq_m2_m3, lq_m2_m1, lq_m2_0, lq_m2_1, lq_m2_2, lq_m2_3, lq_m2_4, lq_m2_5, lq_m1_m9, lq_m1_m6, lq_m1_m4, lq_m1_m3, lq_m1_m2, lq_m1_0, lq_m1_1, lq_m1_2, lq_m1_3, lq_m1_4, lq_m1_5, lq_0_m9, lq_0_m6, lq_0_m4, lq_0_m3, lq_0_m2, lq_0_m1, lq_0_1, lq_0_2, lq_0_3, lq_0_4, lq_0_5, lq_1_m9, lq_1_m6, lq_1_m4, lq_1_m3, lq_1_m2, lq_1_m1, lq_1_0, lq_1_2, lq_1_3, lq_1_4, lq_1_5, lq_2_m9, lq_2_m6, lq_2_m4, lq_2_m3, lq_2_m2, lq_2_m1, lq_2_0, lq_2_1, lq_2_3, lq_2_4, lq_2_5, lq_3_m9, lq_3_m6, lq_3_m4, lq_3_m3, lq_3_m2, lq_3_m1, lq_3_0, lq_3_1, lq_3_2, lq_3_4, lq_3_5, lq_4_m9, lq_4_m6, lq_4_m4, lq_4_m3, lq_4_m2, lq_4_m1, lq_4_0, lq_4_1, lq_4_2, lq_4_3, lq_4_5, lq_5_m9, lq_5_m6, lq_5_m4, lq_5_m3, lq_5_m2, lq_5_m1, lq_5_0, lq_5_1, lq_5_2, lq_5_3, lq_5_4, ti_m9, ti_m6, ti_m4, ti_m3, ti_m2, ti_m1, ti_0, ti_1, ti_2, ti_3, ti_4, ti_5, kI_1_9, kI_1_10, kI_5_4, kI_5_5, kI_5_6, kI_10_1, kI_11_4, kI_11_5, kI_11_6, kI_16_2, kI_16_3, kI_16_4, kI_16_5, kI_16_6, kI_17_2, kI_17_3, kI_21_4, kI_21_5, kI_21_6, kI_21_7, kI_21_8, kI_21_9, kI_21_10, kI_21_11, kI_26_2, kI_26_3, kI_29_2, kI_29_3, kI_32_2, kI_32_3, kI_35_2, kI_39_2, kI_39_3, kI_41_2, kI_41_3, kI_43_2, kI_43_3, kI_45_2, kI_45_3, kI_47_2, kI_47_3, kI_49_2, kI_49_3, kI_51_2, kI_51_3, kI_53_2, kI_53_3, kI_55_2, kI_55_3, kI_57_2, kI_57_3, kI_59_2, kI_59_3, kI_59_4, kI_59_5, kI_59_6, kI_60_2, kI_60_3, kI_64_2, kI_64_3, kI_64_4, kI_64_5, kI_64_6, kI_65_2, kI_65_3, kI_69_2, kI_69_3, kI_69_4, kI_69_5, kI_69_6, kI_70_2, kI_70_3, kI_74_10, kI_74_11, kI_74_12, kI_74_14, kI_74_18, kI_74_19, kI_74_20, kI_74_21, kI_74_22, kI_74_23, kI_74_29, kI_74_30, kI_74_31, kI_74_32, kI_74_33, kR_1_0, kR_1_1, kR_1_2, kR_1_3, kR_1_4, kR_1_5, kR_1_6, kR_1_7, kR_1_8, kR_5_0, kR_5_1, kR_5_2, kR_5_3, kR_10_0, kR_11_0, kR_11_1, kR_11_2, kR_11_3, kR_16_0, kR_16_1, kR_17_0, kR_17_1, kR_21_0, kR_21_1, kR_21_2, kR_21_3, kR_26_0, kR_26_1, kR_29_0, kR_29_1, kR_32_0, kR_32_1, kR_35_0, kR_35_1, kR_39_0, kR_41_0, kR_43_0, kR_45_0, kR_47_0, kR_49_0, kR_51_0, kR_53_0, kR_55_0, kR_57_0, kR_59_0, kR_59_1, kR_60_0, kR_60_1, kR_64_0, kR_64_1, kR_65_0, kR_65_1, kR_69_0, kR_69_1, kR_70_0, kR_70_1, kR_74_0, kR_74_1, kR_74_2, kR_74_3, kR_74_4, kR_74_5, kR_74_6, kR_74_7, kR_74_8, kR_74_9, kR_74_13, kR_74_17, kR_74_24, kR_74_25, kR_74_26, kR_74_27, kR_74_28, kR_74_34, kR_74_35, kR_74_36, kL_1_11, kL_1_12, kL_74_15, kL_74_16, kK_39_1, kK_41_1, kK_43_1, kK_45_1, kK_47_1, kK_49_1, kK_51_1, kK_53_1, kK_55_1, kK_57_1, kA_6, kA_7, kA_8, kA_9, kA_12, kA_13, kA_14, kA_15, kA_18, kA_19, kA_20, kA_23, kA_24, kA_25, kA_27, kA_28, kA_30, kA_31, kA_33, kA_34, kA_36, kA_37, kA_38, kA_40, kA_42, kA_44, kA_46, kA_48, kA_50, kA_52, kA_54, kA_56, kA_58, kA_61, kA_62, kA_63, kA_66, kA_67, kA_68, kA_71, kA_72, kA_73, kA_75, kA_76, kA_77, kA_78, kA_79, kA_80, kA_81, kA_82, kA_83, kA_84, kA_85, kA_86, kA_87, kA_88, kA_89, kA_90, kA_91, kA_92, kA_93, kA_94, kQ_2, kQ_3, kQ_4, kQ_22, kC_1, kC_5, kC_10, kC_11, kC_16, kC_17, kC_21, kC_26, kC_29, kC_32, kC_35, kC_39, kC_41, kC_43, kC_45, kC_47, kC_49, kC_51, kC_53, kC_55, kC_57, kC_59, kC_60, kC_64, kC_65, kC_69, kC_70, kC_74, g1, g3, g4, g5, fI_uI, and_self, l3]
        have hb' : ¬ (f = 0 ∨ pc s < pc f ∨ (pc s = pc f ∧ s < f)) := by
          unfold bett at hb
          simpa using hb
        have l1' : ((nI (pc s) - nI (pc f)).toInt < 0) = (pc s < pc f) := by rw [← l1, lt_i, t0]
        have l4' : ((nI f).toInt ≤ (nI s).toInt) = (f ≤ s) := by rw [← l4, le_i]
        simp only [l1', l2, l4']
        have e1 : ¬ f = 0 := fun z => hb' (Or.inl z)
        have e2 : ¬ pc s < pc f := fun z => hb' (Or.inr (Or.inl z))
        by_cases e3 : pc s = pc f
        · have e4 : f ≤ s := by
            have : ¬ s < f := fun z => hb' (Or.inr (Or.inr ⟨e3, z⟩))
            omega
          simp only [e1, e2, e3, e4, not_true_eq_false, if_true, if_false, Nat.lt_irrefl]
        · simp only [e1, e2, e3, not_false_eq_true, if_true, if_false]
      · rw [if_neg hb]
        refine ⟨?_, ?_, ?_, ?_, ?_, h6⟩ <;> simp [fI_uI, g2, g5]
  by_cases hw : w = 0
  · obtain ⟨D', m1, m2, m3⟩ := main (uI D 21 8 (fG D 23 0)) (fG D 23 0) (by rw [fI_uI, if_neg (by omega)]; exact h1) (by rw [fI_uI, if_pos ⟨rfl, rfl⟩]) (by rw [fI_uI, if_neg (by omega)]; exact h3) (by rw [fI_uI, if_neg (by omega)]; exact h4) (by rw [fI_uI, if_neg (by omega)]; exact h5)
    have o0 : Off Tnw D (uI D 21 8 (fG D 23 0)) := (Off.refl D).uI _ _ _ (by unfold Tnw; omega)
    refine ⟨D', ?_, by unfold nt; dsimp only; rw [if_pos hw]; exact m2, o0.trans m3⟩
    unfold P_X6_noteWay
    rw [getI_hp D 6 7 21 _ kI_21_7, jn_hp, ifB_hp, if_neg (by rw [h1]; exact fun z => z hw), getR_hp D 6 1 21 23 _ kR_21_1, ald_hp D 23 3 0 _ kA_23 c0, n0, setI_hp D 6 8 21 _ _ kI_21_8]
    exact m1
  · obtain ⟨D', m1, m2, m3⟩ := main D fi h1 h2 h3 h4 h5
    refine ⟨D', ?_, by unfold nt; dsimp only; rw [if_neg hw]; exact m2, m3⟩
    unfold P_X6_noteWay
    rw [getI_hp D 6 7 21 _ kI_21_7, jn_hp, ifB_hp, if_pos (by rw [h1]; exact hw)]
    exact m1
theorem x_suits {D : DT} {ex : Bool} {k : Nat} {v w : Int32} (h5 : fI D 21 5 = b2i ex) (hk : k < 3) (hw : fG D 25 k = w) : P_X6_suits 21 (nI k) v (hp B D) = some (b2i (suit ex v w), hp B D) := by
  have c1 : ¬ nI k < 0 := fun z => by
    have := (nI_ltI (b := 0) (by omega) (by omega)).mp z
    omega
  have c3 : nI k < 3 := (nI_ltI (b := 3) (by omega) (by omega)).mpr hk
  have cx : 0 ≤ (nI k).toInt ∧ (nI k).toInt < ((3 : Nat) : Int) := ixc (by omega) (by omega)
  cases ex with
  | true =>
    by_cases e : v = w
    · simp only [P_X6_suits, pureM_hp, ifB_t, ifB_f, decide_true, decide_false, ifB_hp, jn_hp, retZ_0, retZ_1, thn_some, cll0_w, cllV_w, getI_w, getL_w, getR_w, setI_w, setZ_w0, setZ_w1, setL_w, ald_w, ast_w, alen_w, aldR_2, aldR_3, aldR_4, aldR_22, cll0_pure, ↓reduceIte, if_true, if_false, Bool.false_eq_true, reduceCtorEq, and_true, true_and, and_false, false_and, ite_self, kI_1_9, kI_1_10, kI_5_4, kI_5_5, kI_5_6, kI_10_1, kI_11_4, kI_11_5, kI_11_6, kI_16_2, kI_16_3, kI_16_4, kI_16_5, kI_16_6, kI_17_2, kI_17_3, kI_21_4, kI_21_5, kI_21_6, kI_21_7, kI_21_8, kI_21_9, kI_21_10, kI_21_11, kI_26_2, kI_26_3, kI_29_2, kI_29_3, kI_32_2, kI_32_3, kI_35_2, kI_39_2, kI_39_3, kI_41_2, kI_41_3, kI_43_2, kI_43_3, kI_45_2, kI_45_3, kI_47_2, kI_47_3, kI_49_2, kI_49_3, kI_51_2, kI_51_3, kI_53_2, kI_53_3, kI_55_2, kI_55_3, kI_57_2, kI_57_3, kI_59_2, kI_59_3, kI_59_4, kI_59_5, kI_59_6, kI_60_2, kI_60_3, kI_64_2, kI_64_3, kI_64_4, kI_64_5, kI_64_6, kI_65_2, kI_65_3, kI_69_2, kI_69_3, kI_69_4, kI_69_5, kI_69_6, kI_70_2, kI_70_3, kI_74_10, kI_74_11, kI_74_12, kI_74_14, kI_74_18, kI_74_19, kI_74_20, kI_74_21, kI_74_22, kI_74_23, kI_74_29, kI_74_30, kI_74_31, kI_74_32, kI_74_33, kR_1_0, kR_1_1, kR_1_2, kR_1_3, kR_1_4, kR_1_5, kR_1_6, kR_1_7, kR_1_8, kR_5_0, kR_5_1, kR_5_2, kR_5_3, kR_10_0, kR_11_0, kR_11_1, kR_11_2, kR_11_3, kR_16_0, kR_16_1, kR_17_0, kR_17_1, kR_21_0, kR_21_1, kR_21_2, kR_21_3, kR_26_0, kR_26_1, kR_29_0, kR_29_1, kR_32_0, kR_32_1, kR_35_0, kR_35_1, kR_39_0, kR_41_0, kR_43_0, kR_45_0, kR_47_0, kR_49_0, kR_51_0, kR_53_0, kR_55_0, kR_57_0, kR_59_0, kR_59_1, kR_60_0, kR_60_1, kR_64_0, kR_64_1, kR_65_0, kR_65_1, kR_69_0, kR_69_1, kR_70_0, kR_70_1, kR_74_0, kR_74_1, kR_74_2, kR_74_3, kR_74_4, kR_74_5, kR_74_6, kR_74_7, kR_74_8, kR_74_9, kR_74_13, kR_74_17, kR_74_24, kR_74_25, kR_74_26, kR_74_27, kR_74_28, kR_74_34, kR_74_35, kR_74_36, kL_1_11, kL_1_12, kL_74_15, kL_74_16, kK_39_1, kK_41_1, kK_43_1, kK_45_1, kK_47_1, kK_49_1, kK_51_1, kK_53_1, kK_55_1, kK_57_1, kA_6, kA_7, kA_8, kA_9, kA_12, kA_13, kA_14, kA_15, kA_18, kA_19, kA_20, kA_23, kA_24, kA_25, kA_27, kA_28, kA_30, kA_31, kA_33, kA_34, kA_36, kA_37, kA_38, kA_40, kA_42, kA_44, kA_46, kA_48, kA_50, kA_52, kA_54, kA_56, kA_58, kA_61, kA_62, kA_63, kA_66, kA_67, kA_68, kA_71, kA_72, kA_73, kA_75, kA_76, kA_77, kA_78, kA_79, kA_80, kA_81, kA_82, kA_83, kA_84, kA_85, kA_86, kA_87, kA_88, kA_89, kA_90, kA_91, kA_92, kA_93, kA_94, kQ_2, kQ_3, kQ_4, kQ_22, kC_1, kC_5, kC_10, kC_11, kC_16, kC_17, kC_21, kC_26, kC_29, kC_32, kC_35, kC_39, kC_41, kC_43, kC_45, kC_47, kC_49, kC_51, kC_53, kC_55, kC_57, kC_59, kC_60, kC_64, kC_65, kC_69, kC_70, kC_74, c1, c3, cx, nI_clamp (show k < 2 ^ 31 by omega), h5, b2i_t, lq_1_0, hw, e, not_true_eq_false, suit]
    · simp only [P_X6_suits, pureM_hp, ifB_t, ifB_f, decide_true, decide_false, ifB_hp, jn_hp, retZ_0, retZ_1, thn_some, cll0_w, cllV_w, getI_w, getL_w, getR_w, setI_w, setZ_w0, setZ_w1, setL_w, ald_w, ast_w, alen_w, aldR_2, aldR_3, aldR_4, aldR_22, cll0_pure, ↓reduceIte, if_true, if_false, Bool.false_eq_true, reduceCtorEq, and_true, true_and, and_false, false_and, ite_self, kI_1_9, kI_1_10, kI_5_4, kI_5_5, kI_5_6, kI_10_1, kI_11_4, kI_11_5, kI_11_6, kI_16_2, kI_16_3, kI_16_4, kI_16_5, kI_16_6, kI_17_2, kI_17_3, kI_21_4, kI_21_5, kI_21_6, kI_21_7, kI_21_8, kI_21_9, kI_21_10, kI_21_11, kI_26_2, kI_26_3, kI_29_2, kI_29_3, kI_32_2, kI_32_3, kI_35_2, kI_39_2, kI_39_3, kI_41_2, kI_41_3, kI_43_2, kI_43_3, kI_45_2, kI_45_3, kI_47_2, kI_47_3, kI_49_2, kI_49_3, kI_51_2, kI_51_3, kI_53_2, kI_53_3, kI_55_2, kI_55_3, kI_57_2, kI_57_3, kI_59_2, kI_59_3, kI_59_4, kI_59_5, kI_59_6, kI_60_2, kI_60_3, kI_64_2, kI_64_3, kI_64_4, kI_64_5, kI_64_6, kI_65_2, kI_65_3, kI_69_2, kI_69_3, kI_69_4, kI_69_5, kI_69_6, kI_70_2, kI_70_3, kI_74_10, kI_74_11, kI_74_12, kI_74_14, kI_74_18, kI_74_19, kI_74_20, kI_74_21, kI_74_22, kI_74_23, kI_74_29, kI_74_30, kI_74_31, kI_74_32, kI_74_33, kR_1_0, kR_1_1, kR_1_2, kR_1_3, kR_1_4, kR_1_5, kR_1_6, kR_1_7, kR_1_8, kR_5_0, kR_5_1, kR_5_2, kR_5_3, kR_10_0, kR_11_0, kR_11_1, kR_11_2, kR_11_3, kR_16_0, kR_16_1, kR_17_0, kR_17_1, kR_21_0, kR_21_1, kR_21_2, kR_21_3, kR_26_0, kR_26_1, kR_29_0, kR_29_1, kR_32_0, kR_32_1, kR_35_0, kR_35_1, kR_39_0, kR_41_0, kR_43_0, kR_45_0, kR_47_0, kR_49_0, kR_51_0, kR_53_0, kR_55_0, kR_57_0, kR_59_0, kR_59_1, kR_60_0, kR_60_1, kR_64_0, kR_64_1, kR_65_0, kR_65_1, kR_69_0, kR_69_1, kR_70_0, kR_70_1, kR_74_0, kR_74_1, kR_74_2, kR_74_3, kR_74_4, kR_74_5, kR_74_6, kR_74_7, kR_74_8, kR_74_9, kR_74_13, kR_74_17, kR_74_24, kR_74_25, kR_74_26, kR_74_27, kR_74_28, kR_74_34, kR_74_35, kR_74_36, kL_1_11, kL_1_12, kL_74_15, kL_74_16, kK_39_1, kK_41_1, kK_43_1, kK_45_1, kK_47_1, kK_49_1, kK_51_1, kK_53_1, kK_55_1, kK_57_1, kA_6, kA_7, kA_8, kA_9, kA_12, kA_13, kA_14, kA_15, kA_18, kA_19, kA_20, kA_23, kA_24, kA_25, kA_27, kA_28, kA_30, kA_31, kA_33, kA_34, kA_36, kA_37, kA_38, kA_40, kA_42, kA_44, kA_46, kA_48, kA_50, kA_52, kA_54, kA_56, kA_58, kA_61, kA_62, kA_63, kA_66, kA_67, kA_68, kA_71, kA_72, kA_73, kA_75, kA_76, kA_77, kA_78, kA_79, kA_80, kA_81, kA_82, kA_83, kA_84, kA_85, kA_86, kA_87, kA_88, kA_89, kA_90, kA_91, kA_92, kA_93, kA_94, kQ_2, kQ_3, kQ_4, kQ_22, kC_1, kC_5, kC_10, kC_11, kC_16, kC_17, kC_21, kC_26, kC_29, kC_32, kC_35, kC_39, kC_41, kC_43, kC_45, kC_47, kC_49, kC_51, kC_53, kC_55, kC_57, kC_59, kC_60, kC_64, kC_65, kC_69, kC_70, kC_74, c1, c3, cx, nI_clamp (show k < 2 ^ 31 by omega), h5, b2i_t, b2i_f, lq_1_0, hw, e, not_false_eq_true, suit]
  | false =>
    by_cases e : v < w
    · simp only [P_X6_suits, pureM_hp, ifB_t, ifB_f, decide_true, decide_false, ifB_hp, jn_hp, retZ_0, retZ_1, thn_some, cll0_w, cllV_w, getI_w, getL_w, getR_w, setI_w, setZ_w0, setZ_w1, setL_w, ald_w, ast_w, alen_w, aldR_2, aldR_3, aldR_4, aldR_22, cll0_pure, ↓reduceIte, if_true, if_false, Bool.false_eq_true, reduceCtorEq, and_true, true_and, and_false, false_and, ite_self, kI_1_9, kI_1_10, kI_5_4, kI_5_5, kI_5_6, kI_10_1, kI_11_4, kI_11_5, kI_11_6, kI_16_2, kI_16_3, kI_16_4, kI_16_5, kI_16_6, kI_17_2, kI_17_3, kI_21_4, kI_21_5, kI_21_6, kI_21_7, kI_21_8, kI_21_9, kI_21_10, kI_21_11, kI_26_2, kI_26_3, kI_29_2, kI_29_3, kI_32_2, kI_32_3, kI_35_2, kI_39_2, kI_39_3, kI_41_2, kI_41_3, kI_43_2, kI_43_3, kI_45_2, kI_45_3, kI_47_2, kI_47_3, kI_49_2, kI_49_3, kI_51_2, kI_51_3, kI_53_2, kI_53_3, kI_55_2, kI_55_3, kI_57_2, kI_57_3, kI_59_2, kI_59_3, kI_59_4, kI_59_5, kI_59_6, kI_60_2, kI_60_3, kI_64_2, kI_64_3, kI_64_4, kI_64_5, kI_64_6, kI_65_2, kI_65_3, kI_69_2, kI_69_3, kI_69_4, kI_69_5, kI_69_6, kI_70_2, kI_70_3, kI_74_10, kI_74_11, kI_74_12, kI_74_14, kI_74_18, kI_74_19, kI_74_20, kI_74_21, kI_74_22, kI_74_23, kI_74_29, kI_74_30, kI_74_31, kI_74_32, kI_74_33, kR_1_0, kR_1_1, kR_1_2, kR_1_3, kR_1_4, kR_1_5, kR_1_6, kR_1_7, kR_1_8, kR_5_0, kR_5_1, kR_5_2, kR_5_3, kR_10_0, kR_11_0, kR_11_1, kR_11_2, kR_11_3, kR_16_0, kR_16_1, kR_17_0, kR_17_1, kR_21_0, kR_21_1, kR_21_2, kR_21_3, kR_26_0, kR_26_1, kR_29_0, kR_29_1, kR_32_0, kR_32_1, kR_35_0, kR_35_1, kR_39_0, kR_41_0, kR_43_0, kR_45_0, kR_47_0, kR_49_0, kR_51_0, kR_53_0, kR_55_0, kR_57_0, kR_59_0, kR_59_1, kR_60_0, kR_60_1, kR_64_0, kR_64_1, kR_65_0, kR_65_1, kR_69_0, kR_69_1, kR_70_0, kR_70_1, kR_74_0, kR_74_1, kR_74_2, kR_74_3, kR_74_4, kR_74_5, kR_74_6, kR_74_7, kR_74_8, kR_74_9, kR_74_13, kR_74_17, kR_74_24, kR_74_25, kR_74_26, kR_74_27, kR_74_28, kR_74_34, kR_74_35, kR_74_36, kL_1_11, kL_1_12, kL_74_15, kL_74_16, kK_39_1, kK_41_1, kK_43_1, kK_45_1, kK_47_1, kK_49_1, kK_51_1, kK_53_1, kK_55_1, kK_57_1, kA_6, kA_7, kA_8, kA_9, kA_12, kA_13, kA_14, kA_15, kA_18, kA_19, kA_20, kA_23, kA_24, kA_25, kA_27, kA_28, kA_30, kA_31, kA_33, kA_34, kA_36, kA_37, kA_38, kA_40, kA_42, kA_44, kA_46, kA_48, kA_50, kA_52, kA_54, kA_56, kA_58, kA_61, kA_62, kA_63, kA_66, kA_67, kA_68, kA_71, kA_72, kA_73, kA_75, kA_76, kA_77, kA_78, kA_79, kA_80, kA_81, kA_82, kA_83, kA_84, kA_85, kA_86, kA_87, kA_88, kA_89, kA_90, kA_91, kA_92, kA_93, kA_94, kQ_2, kQ_3, kQ_4, kQ_22, kC_1, kC_5, kC_10, kC_11, kC_16, kC_17, kC_21, kC_26, kC_29, kC_32, kC_35, kC_39, kC_41, kC_43, kC_45, kC_47, kC_49, kC_51, kC_53, kC_55, kC_57, kC_59, kC_60, kC_64, kC_65, kC_69, kC_70, kC_74, c1, c3, cx, nI_clamp (show k < 2 ^ 31 by omega), h5, b2i_f, hw, e, not_true_eq_false, suit]
    · simp only [P_X6_suits, pureM_hp, ifB_t, ifB_f, decide_true, decide_false, ifB_hp, jn_hp, retZ_0, retZ_1, thn_some, cll0_w, cllV_w, getI_w, getL_w, getR_w, setI_w, setZ_w0, setZ_w1, setL_w, ald_w, ast_w, alen_w, aldR_2, aldR_3, aldR_4, aldR_22, cll0_pure, ↓reduceIte, if_true, if_false, Bool.false_eq_true, reduceCtorEq, and_true, true_and, and_false, false_and, ite_self, kI_1_9, kI_1_10, kI_5_4, kI_5_5, kI_5_6, kI_10_1, kI_11_4, kI_11_5, kI_11_6, kI_16_2, kI_16_3, kI_16_4, kI_16_5, kI_16_6, kI_17_2, kI_17_3, kI_21_4, kI_21_5, kI_21_6, kI_21_7, kI_21_8, kI_21_9, kI_21_10, kI_21_11, kI_26_2, kI_26_3, kI_29_2, kI_29_3, kI_32_2, kI_32_3, kI_35_2, kI_39_2, kI_39_3, kI_41_2, kI_41_3, kI_43_2, kI_43_3, kI_45_2, kI_45_3, kI_47_2, kI_47_3, kI_49_2, kI_49_3, kI_51_2, kI_51_3, kI_53_2, kI_53_3, kI_55_2, kI_55_3, kI_57_2, kI_57_3, kI_59_2, kI_59_3, kI_59_4, kI_59_5, kI_59_6, kI_60_2, kI_60_3, kI_64_2, kI_64_3, kI_64_4, kI_64_5, kI_64_6, kI_65_2, kI_65_3, kI_69_2, kI_69_3, kI_69_4, kI_69_5, kI_69_6, kI_70_2, kI_70_3, kI_74_10, kI_74_11, kI_74_12, kI_74_14, kI_74_18, kI_74_19, kI_74_20, kI_74_21, kI_74_22, kI_74_23, kI_74_29, kI_74_30, kI_74_31, kI_74_32, kI_74_33, kR_1_0, kR_1_1, kR_1_2, kR_1_3, kR_1_4, kR_1_5, kR_1_6, kR_1_7, kR_1_8, kR_5_0, kR_5_1, kR_5_2, kR_5_3, kR_10_0, kR_11_0, kR_11_1, kR_11_2, kR_11_3, kR_16_0, kR_16_1, kR_17_0, kR_17_1, kR_21_0, kR_21_1, kR_21_2, kR_21_3, kR_26_0, kR_26_1, kR_29_0, kR_29_1, kR_32_0, kR_32_1, kR_35_0, kR_35_1, kR_39_0, kR_41_0, kR_43_0, kR_45_0, kR_47_0, kR_49_0, kR_51_0, kR_53_0, kR_55_0, kR_57_0, kR_59_0, kR_59_1, kR_60_0, kR_60_1, kR_64_0, kR_64_1, kR_65_0, kR_65_1, kR_69_0, kR_69_1, kR_70_0, kR_70_1, kR_74_0, kR_74_1, kR_74_2, kR_74_3, kR_74_4, kR_74_5, kR_74_6, kR_74_7, kR_74_8, kR_74_9, kR_74_13, kR_74_17, kR_74_24, kR_74_25, kR_74_26, kR_74_27, kR_74_28, kR_74_34, kR_74_35, kR_74_36, kL_1_11, kL_1_12, kL_74_15, kL_74_16, kK_39_1, kK_41_1, kK_43_1, kK_45_1, kK_47_1, kK_49_1, kK_51_1, kK_53_1, kK_55_1, kK_57_1, kA_6, kA_7, kA_8, kA_9, kA_12, kA_13, kA_14, kA_15, kA_18, kA_19, kA_20, kA_23, kA_24, kA_25, kA_27, kA_28, kA_30, kA_31, kA_33, kA_34, kA_36, kA_37, kA_38, kA_40, kA_42, kA_44, kA_46, kA_48, kA_50, kA_52, kA_54, kA_56, kA_58, kA_61, kA_62, kA_63, kA_66, kA_67, kA_68, kA_71, kA_72, kA_73, kA_75, kA_76, kA_77, kA_78, kA_79, kA_80, kA_81, kA_82, kA_83, kA_84, kA_85, kA_86, kA_87, kA_88, kA_89, kA_90, kA_91, kA_92, kA_93, kA_94, kQ_2, kQ_3, kQ_4, kQ_22, kC_1, kC_5, kC_10, kC_11, kC_16, kC_17, kC_21, kC_26, kC_29, kC_32, kC_35, kC_39, kC_41, kC_43, kC_45, kC_47, kC_49, kC_51, kC_53, kC_55, kC_57, kC_59, kC_60, kC_64, kC_65, kC_69, kC_70, kC_74, c1, c3, cx, nI_clamp (show k < 2 ^ 31 by omega), h5, b2i_t, b2i_f, hw, e, not_false_eq_true, suit]
/-- what a row does -/
def fS (ex : Bool) (wn : Nat → Int32) (q : QT) (H : HT) (p : List Nat) (st : SYt) (l : List Nat) : SYt := if okL ex wn q H p.length l = true then nt st (nI ((p ++ l).getD 0 0)) (whoN (p ++ l)) else st
def SeekW (B : BT) (m : Nat) (q : QT) (H0 : HT) (ex : Bool) (wn : Nat → Int32) (n r : Nat) (R : Nat → Nat → Int32 → Int32 → PM Unit) : Prop := ∀ (p : List Nat) (D : DT) (st : SYt), p.length + r = n → (∀ c ∈ p, c ∈ prs m) → XF D 5 m q → fI D 21 4 = nI n → fI D 21 5 = b2i ex → (∀ k, k < n → fG D 25 k = wn k) → XH D (26 + 3 * p.length) m q (rnL q H0 p) → WY D p → SWy D st → ∃ D', R 21 5 (nI p.length) (nI (whoN p)) (hp B D) = some ((), hp B D') ∧ SWy D' ((seqs (prs m) r).foldl (fS ex wn q (rnL q H0 p) p) st) ∧ Off (Tsk p.length) D D' ∧ WY D' p
theorem seekW_in {m : Nat} {q : QT} {H0 : HT} {ex : Bool} {wn : Nat → Int32} {n r : Nat} {R : Nat → Nat → Int32 → Int32 → PM Unit} (hm6 : m ≤ 6) (hv : QV m q) (hW : HW 40 m H0) (hn : n ≤ 3) (hR : r = 0 ∨ (r ≠ 0 ∧ SeekW B m q H0 ex wn n r R)) {p : List Nat} (hp1 : p.length + (r + 1) = n) (hpm : ∀ c ∈ p, c ∈ prs m) {i : Nat} (K : PM Unit) :
    ∀ (F t : Nat) (D : DT) (st : SYt), t < F → i + t < m → XF D 5 m q → fI D 21 4 = nI n → fI D 21 5 = b2i ex → (∀ k, k < n → fG D 25 k = wn k) → XH D (26 + 3 * p.length) m q (rnL q H0 p) → WY D p → SWy D st →
    ∃ D', P_X6_seekWays_36 R K 21 5 (nI p.length) (nI (whoN p)) (nI i) F (nI (m - t)) (hp B D) = K (hp B D') ∧ SWy D' ((ext (seqs (prs m) r) (rj i m t)).foldl (fS ex wn q (rnL q H0 p) p) st) ∧ Off (Tsk p.length) D D' ∧ WY D' p := by
  intro F
  induction F with
  | zero => intro t D st h1; omega
  | succ F ih =>
    intro t D st h1 h2 hF h4 h5 h25 hX hWy hS
    have g4 : fI D 5 4 = nI m := hF.1
    cases t with
    | zero =>
      have c1 : nI m ≤ nI (m - 0) := nI_le (by omega) (by omega)
      refine ⟨D, ?_, hS, Off.refl D, hWy⟩
      simp only [P_X6_seekWays_36, pureM_hp, ifB_t, ifB_f, decide_true, decide_false, ifB_hp, jn_hp, retZ_0, retZ_1, thn_some, cll0_w, cllV_w, getI_w, getL_w, getR_w, setI_w, setZ_w0, setZ_w1, setL_w, ald_w, ast_w, alen_w, aldR_2, aldR_3, aldR_4, aldR_22, cll0_pure, ↓reduceIte, if_true, if_false, Bool.false_eq_true, reduceCtorEq, and_true, true_and, and_false, false_and, ite_self, kI_1_9, kI_1_10, kI_5_4, kI_5_5, kI_5_6, kI_10_1, kI_11_4, kI_11_5, kI_11_6, kI_16_2, kI_16_3, kI_16_4, kI_16_5, kI_16_6, kI_17_2, kI_17_3, kI_21_4, kI_21_5, kI_21_6, kI_21_7, kI_21_8, kI_21_9, kI_21_10, kI_21_11, kI_26_2, kI_26_3, kI_29_2, kI_29_3, kI_32_2, kI_32_3, kI_35_2, kI_39_2, kI_39_3, kI_41_2, kI_41_3, kI_43_2, kI_43_3, kI_45_2, kI_45_3, kI_47_2, kI_47_3, kI_49_2, kI_49_3, kI_51_2, kI_51_3, kI_53_2, kI_53_3, kI_55_2, kI_55_3, kI_57_2, kI_57_3, kI_59_2, kI_59_3, kI_59_4, kI_59_5, kI_59_6, kI_60_2, kI_60_3, kI_64_2, kI_64_3, kI_64_4, kI_64_5, kI_64_6, kI_65_2, kI_65_3, kI_69_2, kI_69_3, kI_69_4, kI_69_5, kI_69_6, kI_70_2, kI_70_3, kI_74_10, kI_74_11, kI_74_12, kI_74_14, kI_74_18, kI_74_19, kI_74_20, kI_74_21, kI_74_22, kI_74_23, kI_74_29, kI_74_30, kI_74_31, kI_74_32, kI_74_33, kR_1_0, kR_1_1, kR_1_2, kR_1_3, kR_1_4, kR_1_5, kR_1_6, kR_1_7, kR_1_8, kR_5_0, kR_5_1, kR_5_2, kR_5_3, kR_10_0, kR_11_0, kR_11_1, kR_11_2, kR_11_3, kR_16_0, kR_16_1, kR_17_0, kR_17_1, kR_21_0, kR_21_1, kR_21_2, kR_21_3, kR_26_0, kR_26_1, kR_29_0, kR_29_1, kR_32_0, kR_32_1, kR_35_0, kR_35_1, kR_39_0, kR_41_0, kR_43_0, kR_45_0, kR_47_0, kR_49_0, kR_51_0, kR_53_0, kR_55_0, kR_57_0, kR_59_0, kR_59_1, kR_60_0, kR_60_1, kR_64_0, kR_64_1, kR_65_0, kR_65_1, kR_69_0, kR_69_1, kR_70_0, kR_70_1, kR_74_0, kR_74_1, kR_74_2, kR_74_3, kR_74_4, kR_74_5, kR_74_6, kR_74_7, kR_74_8, kR_74_9, kR_74_13, kR_74_17, kR_74_24, kR_74_25, kR_74_26, kR_74_27, kR_74_28, kR_74_34, kR_74_35, kR_74_36, kL_1_11, kL_1_12, kL_74_15, kL_74_16, kK_39_1, kK_41_1, kK_43_1, kK_45_1, kK_47_1, kK_49_1, kK_51_1, kK_53_1, kK_55_1, kK_57_1, kA_6, kA_7, kA_8, kA_9, kA_12, kA_13, kA_14, kA_15, kA_18, kA_19, kA_20, kA_23, kA_24, kA_25, kA_27, kA_28, kA_30, kA_31, kA_33, kA_34, kA_36, kA_37, kA_38, kA_40, kA_42, kA_44, kA_46, kA_48, kA_50, kA_52, kA_54, kA_56, kA_58, kA_61, kA_62, kA_63, kA_66, kA_67, kA_68, kA_71, kA_72, kA_73, kA_75, kA_76, kA_77, kA_78, kA_79, kA_80, kA_81, kA_82, kA_83, kA_84, kA_85, kA_86, kA_87, kA_88, kA_89, kA_90, kA_91, kA_92, kA_93, kA_94, kQ_2, kQ_3, kQ_4, kQ_22, kC_1, kC_5, kC_10, kC_11, kC_16, kC_17, kC_21, kC_26, kC_29, kC_32, kC_35, kC_39, kC_41, kC_43, kC_45, kC_47, kC_49, kC_51, kC_53, kC_55, kC_57, kC_59, kC_60, kC_64, kC_65, kC_69, kC_70, kC_74, g4, c1]
    | succ t =>
      have c1 : ¬ nI m ≤ nI (m - (t + 1)) := nI_ge (by omega) (by omega)
      have em : m - (t + 1) + 1 = m - t := by omega
      have cx : 0 ≤ (nI p.length).toInt ∧ (nI p.length).toInt < ((3 : Nat) : Int) := ixc (by omega) (by omega)
      have cx3 : 0 ≤ (nI p.length).toInt ∧ (nI p.length).toInt < 3 := by rw [nI_toInt (by omega)]; omega
      have cl := nI_clamp (show p.length < 2 ^ 31 by omega)
      have hho := ho_s (k := p.length) (by omega)
      generalize hj : m - (t + 1) = j at *
      have hij : i < j := by omega
      have hjm : j < m := by omega
      have hc : 10 * i + j ∈ prs m := prs_has hm6 hij hjm
      have erj : rj i m (t + 1) = (10 * i + j) :: rj i m t := by rw [← hj]; rfl
      have d1 : (10 * i + j) / 10 = i := by omega
      have d2 : (10 * i + j) % 10 = j := by omega
      have e1 : rnL q H0 (p ++ [10 * i + j]) = wat q (rnL q H0 p) i j := by
        rw [rnL_app]
        show wat q (rnL q H0 p) ((10 * i + j) / 10) ((10 * i + j) % 10) = _
        rw [d1, d2]
      have bh := x_behind (B := B) (D := D) hho fo_5 hF hX hm6 (show i < m by omega) hjm (by omega)
      have su := x_suits (B := B) (v := wst q (rnL q H0 p) i j) h5 (show p.length < 3 by omega) (h25 p.length (by omega))
      have okc : ∀ l, okL ex wn q (rnL q H0 p) p.length ((10 * i + j) :: l) = (suit ex (wst q (rnL q H0 p) i j) (wn p.length) && okL ex wn q (wat q (rnL q H0 p) i j) (p.length + 1) l) := fun l => by
        show (suit ex (wat q (rnL q H0 p) ((10 * i + j) / 10) ((10 * i + j) % 10)).1 (wn p.length) && okL ex wn q (wat q (rnL q H0 p) ((10 * i + j) / 10) ((10 * i + j) % 10)) (p.length + 1) l) = _
        rw [d1, d2]
        rfl
      have fin : ∀ D2, SWy D2 ((seqs (prs m) r).foldl (fun st l => fS ex wn q (rnL q H0 p) p st ((10 * i + j) :: l)) st) → Off (Tsk p.length) D D2 → WY D2 p → ∃ D', P_X6_seekWays_36 R K 21 5 (nI p.length) (nI (whoN p)) (nI i) F (nI (m - t)) (hp B D2) = K (hp B D') ∧ SWy D' ((ext (seqs (prs m) r) (rj i m (t + 1))).foldl (fS ex wn q (rnL q H0 p) p) st) ∧ Off (Tsk p.length) D D' ∧ WY D' p := by
        intro D2 a1 a2 a3
        obtain ⟨D', r1, r2, r3, r4⟩ := ih t D2 _ (by omega) (by omega) (Tsk_f hF a2) (by rw [(a2.1 21 4 (by unfold Tsk; omega)).1]; exact h4) (by rw [(a2.1 21 5 (by unfold Tsk; omega)).1]; exact h5) (fun k hk => by rw [a2.2 25 (by unfold Tsk; omega)]; exact h25 k hk) (Tsk_h hX (by omega) a2) a3 a1
        exact ⟨D', r1, by rw [erj, foldl_ext]; exact r2, a2.trans r3, r4⟩
      by_cases hsu : suit ex (wst q (rnL q H0 p) i j) (wn p.length) = true
      case neg =>
        obtain ⟨D', r1, r2, r3, r4⟩ := fin D (by
          rw [foldl_id _ st (fun st l _ => by
            unfold fS
            rw [if_neg (by rw [okc, Bool.not_eq_true _ |>.mp hsu]; simp)])]
          exact hS) (Off.refl D) hWy
        refine ⟨D', ?_, r2, r3, r4⟩
        rw [Bool.not_eq_true] at hsu
        simp only [P_X6_seekWays_36, pureM_hp, ifB_t, ifB_f, decide_true, decide_false, ifB_hp, jn_hp, retZ_0, retZ_1, thn_some, cll0_w, cllV_w, getI_w, getL_w, getR_w, setI_w, setZ_w0, setZ_w1, setL_w, ald_w, ast_w, alen_w, aldR_2, aldR_3, aldR_4, aldR_22, cll0_pure, ↓reduceIte, if_true, if_false, Bool.false_eq_true, reduceCtorEq, and_true, true_and, and_false, false_and, ite_self, kI_1_9, kI_1_10, kI_5_4, kI_5_5, kI_5_6, kI_10_1, kI_11_4, kI_11_5, kI_11_6, kI_16_2, kI_16_3, kI_16_4, kI_16_5, kI_16_6, kI_17_2, kI_17_3, kI_21_4, kI_21_5, kI_21_6, kI_21_7, kI_21_8, kI_21_9, kI_21_10, kI_21_11, kI_26_2, kI_26_3, kI_29_2, kI_29_3, kI_32_2, kI_32_3, kI_35_2, kI_39_2, kI_39_3, kI_41_2, kI_41_3, kI_43_2, kI_43_3, kI_45_2, kI_45_3, kI_47_2, kI_47_3, kI_49_2, kI_49_3, kI_51_2, kI_51_3, kI_53_2, kI_53_3, kI_55_2, kI_55_3, kI_57_2, kI_57_3, kI_59_2, kI_59_3, kI_59_4, kI_59_5, kI_59_6, kI_60_2, kI_60_3, kI_64_2, kI_64_3, kI_64_4, kI_64_5, kI_64_6, kI_65_2, kI_65_3, kI_69_2, kI_69_3, kI_69_4, kI_69_5, kI_69_6, kI_70_2, kI_70_3, kI_74_10, kI_74_11, kI_74_12, kI_74_14, kI_74_18, kI_74_19, kI_74_20, kI_74_21, kI_74_22, kI_74_23, kI_74_29, kI_74_30, kI_74_31, kI_74_32, kI_74_33, kR_1_0, kR_1_1, kR_1_2, kR_1_3, kR_1_4, kR_1_5, kR_1_6, kR_1_7, kR_1_8, kR_5_0, kR_5_1, kR_5_2, kR_5_3, kR_10_0, kR_11_0, kR_11_1, kR_11_2, kR_11_3, kR_16_0, kR_16_1, kR_17_0, kR_17_1, kR_21_0, kR_21_1, kR_21_2, kR_21_3, kR_26_0, kR_26_1, kR_29_0, kR_29_1, kR_32_0, kR_32_1, kR_35_0, kR_35_1, kR_39_0, kR_41_0, kR_43_0, kR_45_0, kR_47_0, kR_49_0, kR_51_0, kR_53_0, kR_55_0, kR_57_0, kR_59_0, kR_59_1, kR_60_0, kR_60_1, kR_64_0, kR_64_1, kR_65_0, kR_65_1, kR_69_0, kR_69_1, kR_70_0, kR_70_1, kR_74_0, kR_74_1, kR_74_2, kR_74_3, kR_74_4, kR_74_5, kR_74_6, kR_74_7, kR_74_8, kR_74_9, kR_74_13, kR_74_17, kR_74_24, kR_74_25, kR_74_26, kR_74_27, kR_74_28, kR_74_34, kR_74_35, kR_74_36, kL_1_11, kL_1_12, kL_74_15, kL_74_16, kK_39_1, kK_41_1, kK_43_1, kK_45_1, kK_47_1, kK_49_1, kK_51_1, kK_53_1, kK_55_1, kK_57_1, kA_6, kA_7, kA_8, kA_9, kA_12, kA_13, kA_14, kA_15, kA_18, kA_19, kA_20, kA_23, kA_24, kA_25, kA_27, kA_28, kA_30, kA_31, kA_33, kA_34, kA_36, kA_37, kA_38, kA_40, kA_42, kA_44, kA_46, kA_48, kA_50, kA_52, kA_54, kA_56, kA_58, kA_61, kA_62, kA_63, kA_66, kA_67, kA_68, kA_71, kA_72, kA_73, kA_75, kA_76, kA_77, kA_78, kA_79, kA_80, kA_81, kA_82, kA_83, kA_84, kA_85, kA_86, kA_87, kA_88, kA_89, kA_90, kA_91, kA_92, kA_93, kA_94, kQ_2, kQ_3, kQ_4, kQ_22, kC_1, kC_5, kC_10, kC_11, kC_16, kC_17, kC_21, kC_26, kC_29, kC_32, kC_35, kC_39, kC_41, kC_43, kC_45, kC_47, kC_49, kC_51, kC_53, kC_55, kC_57, kC_59, kC_60, kC_64, kC_65, kC_69, kC_70, kC_74, g4, c1, cx3, cl, hho.1, bh, su, hsu, b2i_f, not_true_eq_false, nI_p1, em, r1]
      have hlt := whoN_lt hm6 p 0 (by omega) hpm
      have ob : (nI (whoN p) ||| (1 <<< (nI i &&& 31))) ||| (1 <<< (nI j &&& 31)) = nI (whoN (p ++ [10 * i + j])) := by
        rw [(or_dec (whoN p) hlt i (by omega) j (by omega)).1, whoN_app]
        unfold orc
        rw [d1, d2]
      have hpm' : ∀ c ∈ p ++ [10 * i + j], c ∈ prs m := fun c h => by
        rcases List.mem_append.mp h with h | h
        · exact hpm c h
        · rw [List.mem_singleton] at h
          rw [h]
          exact hc
      have o1 : Off (Tsk p.length) D (uG D 23 (upd (fG D 23) p.length (nI (10 * i + j)))) := (Off.refl D).uG _ _ (by unfold Tsk; omega)
      have w1 : WY (uG D 23 (upd (fG D 23) p.length (nI (10 * i + j)))) (p ++ [10 * i + j]) := hWy.app (by rw [fG_uG, if_pos rfl])
      have s1 : SWy (uG D 23 (upd (fG D 23) p.length (nI (10 * i + j)))) st := by
        unfold SWy
        simp only [fI_uG]
        exact hS
      have f1 := Tsk_f hF o1
      have x1 := Tsk_h hX (by omega) o1
      have h41 : fI (uG D 23 (upd (fG D 23) p.length (nI (10 * i + j)))) 21 4 = nI n := by rw [fI_uG]; exact h4
      have h51 : fI (uG D 23 (upd (fG D 23) p.length (nI (10 * i + j)))) 21 5 = b2i ex := by rw [fI_uG]; exact h5
      have h251 : ∀ k, k < n → fG (uG D 23 (upd (fG D 23) p.length (nI (10 * i + j)))) 25 k = wn k := fun k hk => by rw [fG_uG, if_neg (by omega)]; exact h25 k hk
      generalize hD1 : uG D 23 (upd (fG D 23) p.length (nI (10 * i + j))) = D1 at *
      have n10 : ¬ (1 : Int32) = 0 := by decide
      have lp1 : (p ++ [10 * i + j]).length = p.length + 1 := by rw [List.length_append]; rfl
      rcases hR with rfl | ⟨hr0, hR⟩
      · have c2 : nI n ≤ nI (p.length + 1) := nI_le (by omega) (by omega)
        have hs64 := whoN_lt hm6 (p ++ [10 * i + j]) 0 (by omega) hpm'
        obtain ⟨D2, n1, n2, n3⟩ := x_noteWay (B := B) (s := whoN (p ++ [10 * i + j])) s1 hs64
        have o2 : Off (Tsk p.length) D D2 := o1.trans (n3.mono (fun a k z => by unfold Tnw at z; unfold Tsk; omega))
        have wy2 : WY D2 (p ++ [10 * i + j]) := fun k hk => by rw [n3.2 23 (by unfold Tnw; omega)]; exact w1 k hk
        obtain ⟨D', r1, r2, r3, r4⟩ := fin D2 (by
          show SWy D2 (fS ex wn q (rnL q H0 p) p st ((10 * i + j) :: []))
          unfold fS
          rw [if_pos (by rw [okc, hsu]; rfl), ← w1 0 (by rw [lp1]; omega)]
          exact n2) o2 wy2.pre
        refine ⟨D', ?_, r2, r3, r4⟩
        simp only [P_X6_seekWays_36, pureM_hp, ifB_t, ifB_f, decide_true, decide_false, ifB_hp, jn_hp, retZ_0, retZ_1, thn_some, cll0_w, cllV_w, getI_w, getL_w, getR_w, setI_w, setZ_w0, setZ_w1, setL_w, ald_w, ast_w, alen_w, aldR_2, aldR_3, aldR_4, aldR_22, cll0_pure, ↓reduceIte, if_true, if_false, Bool.false_eq_true, reduceCtorEq, and_true, true_and, and_false, false_and, ite_self, kI_1_9, kI_1_10, kI_5_4, kI_5_5, kI_5_6, kI_10_1, kI_11_4, kI_11_5, kI_11_6, kI_16_2, kI_16_3, kI_16_4, kI_16_5, kI_16_6, kI_17_2, kI_17_3, kI_21_4, kI_21_5, kI_21_6, kI_21_7, kI_21_8, kI_21_9, kI_21_10, kI_21_11, kI_26_2, kI_26_3, kI_29_2, kI_29_3, kI_32_2, kI_32_3, kI_35_2, kI_39_2, kI_39_3, kI_41_2, kI_41_3, kI_43_2, kI_43_3, kI_45_2, kI_45_3, kI_47_2, kI_47_3, kI_49_2, kI_49_3, kI_51_2, kI_51_3, kI_53_2, kI_53_3, kI_55_2, kI_55_3, kI_57_2, kI_57_3, kI_59_2, kI_59_3, kI_59_4, kI_59_5, kI_59_6, kI_60_2, kI_60_3, kI_64_2, kI_64_3, kI_64_4, kI_64_5, kI_64_6, kI_65_2, kI_65_3, kI_69_2, kI_69_3, kI_69_4, kI_69_5, kI_69_6, kI_70_2, kI_70_3, kI_74_10, kI_74_11, kI_74_12, kI_74_14, kI_74_18, kI_74_19, kI_74_20, kI_74_21, kI_74_22, kI_74_23, kI_74_29, kI_74_30, kI_74_31, kI_74_32, kI_74_33, kR_1_0, kR_1_1, kR_1_2, kR_1_3, kR_1_4, kR_1_5, kR_1_6, kR_1_7, kR_1_8, kR_5_0, kR_5_1, kR_5_2, kR_5_3, kR_10_0, kR_11_0, kR_11_1, kR_11_2, kR_11_3, kR_16_0, kR_16_1, kR_17_0, kR_17_1, kR_21_0, kR_21_1, kR_21_2, kR_21_3, kR_26_0, kR_26_1, kR_29_0, kR_29_1, kR_32_0, kR_32_1, kR_35_0, kR_35_1, kR_39_0, kR_41_0, kR_43_0, kR_45_0, kR_47_0, kR_49_0, kR_51_0, kR_53_0, kR_55_0, kR_57_0, kR_59_0, kR_59_1, kR_60_0, kR_60_1, kR_64_0, kR_64_1, kR_65_0, kR_65_1, kR_69_0, kR_69_1, kR_70_0, kR_70_1, kR_74_0, kR_74_1, kR_74_2, kR_74_3, kR_74_4, kR_74_5, kR_74_6, kR_74_7, kR_74_8, kR_74_9, kR_74_13, kR_74_17, kR_74_24, kR_74_25, kR_74_26, kR_74_27, kR_74_28, kR_74_34, kR_74_35, kR_74_36, kL_1_11, kL_1_12, kL_74_15, kL_74_16, kK_39_1, kK_41_1, kK_43_1, kK_45_1, kK_47_1, kK_49_1, kK_51_1, kK_53_1, kK_55_1, kK_57_1, kA_6, kA_7, kA_8, kA_9, kA_12, kA_13, kA_14, kA_15, kA_18, kA_19, kA_20, kA_23, kA_24, kA_25, kA_27, kA_28, kA_30, kA_31, kA_33, kA_34, kA_36, kA_37, kA_38, kA_40, kA_42, kA_44, kA_46, kA_48, kA_50, kA_52, kA_54, kA_56, kA_58, kA_61, kA_62, kA_63, kA_66, kA_67, kA_68, kA_71, kA_72, kA_73, kA_75, kA_76, kA_77, kA_78, kA_79, kA_80, kA_81, kA_82, kA_83, kA_84, kA_85, kA_86, kA_87, kA_88, kA_89, kA_90, kA_91, kA_92, kA_93, kA_94, kQ_2, kQ_3, kQ_4, kQ_22, kC_1, kC_5, kC_10, kC_11, kC_16, kC_17, kC_21, kC_26, kC_29, kC_32, kC_35, kC_39, kC_41, kC_43, kC_45, kC_47, kC_49, kC_51, kC_53, kC_55, kC_57, kC_59, kC_60, kC_64, kC_65, kC_69, kC_70, kC_74, g4, c1, cx3, cl, hho.1, bh, su, hsu, b2i_t, n10, not_false_eq_true, nI_10, cx, hD1, h41, nI_p1, c2, ob, n1, em, r1]
      · have c2 : ¬ nI n ≤ nI (p.length + 1) := nI_ge (by omega) (by omega)
        obtain ⟨D2, n1, n2, n3⟩ := x_copyDeeper (B := B) D1 (d := p.length) (by omega)
        have x2 := n3 m q _ hm6 x1
        have hho2 := ho_s (k := p.length + 1) (by omega)
        have hV : HV m (rnL q H0 p) := (rnL_W hv hm6 hW p hpm).v (by omega)
        obtain ⟨D3, k1, k2, k3⟩ := x_passWatch (B := B) hho2 fo_5 (by omega) (Tho_f f1 n2 (by omega)) x2 hm6 hv hV (show i < m by omega) hjm (by omega)
        rw [← e1] at k2
        have o3 : Off (Tho (26 + 3 * (p.length + 1))) D1 D3 := n2.trans k3
        obtain ⟨D4, t1, t2, t3, t4⟩ := hR (p ++ [10 * i + j]) D3 st (by omega) hpm' (Tho_f f1 o3 (by omega)) (by rw [(o3.1 21 4 (by unfold Tho; omega)).1]; exact h41) (by rw [(o3.1 21 5 (by unfold Tho; omega)).1]; exact h51) (fun k hk => by rw [o3.2 25 (by unfold Tho; omega)]; exact h251 k hk) (by rw [lp1]; exact k2) (fun k hk => by rw [o3.2 23 (by unfold Tho; omega)]; exact w1 k hk) (by
          unfold SWy
          rw [(o3.1 21 7 (by unfold Tho; omega)).1, (o3.1 21 8 (by unfold Tho; omega)).1, (o3.1 21 9 (by unfold Tho; omega)).1, (o3.1 21 10 (by unfold Tho; omega)).1, (o3.1 21 11 (by unfold Tho; omega)).1]
          exact s1)
        rw [lp1] at t1 t3
        obtain ⟨D', r1, r2, r3, r4⟩ := fin D4 (by
          rw [foldl_same _ st (fun st l _ => show fS ex wn q (rnL q H0 p) p st ((10 * i + j) :: l) = fS ex wn q (rnL q H0 (p ++ [10 * i + j])) (p ++ [10 * i + j]) st l by
            unfold fS
            rw [okc, hsu, Bool.true_and, e1, lp1, show p ++ (10 * i + j) :: l = (p ++ [10 * i + j]) ++ l by rw [List.append_assoc]; rfl])]
          exact t2) ((o1.trans (o3.mono (fun a k z => by unfold Tho at z; unfold Tsk; omega))).trans (t3.mono (fun a k z => Tsk_s z))) t4.pre
        refine ⟨D', ?_, r2, r3, r4⟩
        simp only [P_X6_seekWays_36, pureM_hp, ifB_t, ifB_f, decide_true, decide_false, ifB_hp, jn_hp, retZ_0, retZ_1, thn_some, cll0_w, cllV_w, getI_w, getL_w, getR_w, setI_w, setZ_w0, setZ_w1, setL_w, ald_w, ast_w, alen_w, aldR_2, aldR_3, aldR_4, aldR_22, cll0_pure, ↓reduceIte, if_true, if_false, Bool.false_eq_true, reduceCtorEq, and_true, true_and, and_false, false_and, ite_self, kI_1_9, kI_1_10, kI_5_4, kI_5_5, kI_5_6, kI_10_1, kI_11_4, kI_11_5, kI_11_6, kI_16_2, kI_16_3, kI_16_4, kI_16_5, kI_16_6, kI_17_2, kI_17_3, kI_21_4, kI_21_5, kI_21_6, kI_21_7, kI_21_8, kI_21_9, kI_21_10, kI_21_11, kI_26_2, kI_26_3, kI_29_2, kI_29_3, kI_32_2, kI_32_3, kI_35_2, kI_39_2, kI_39_3, kI_41_2, kI_41_3, kI_43_2, kI_43_3, kI_45_2, kI_45_3, kI_47_2, kI_47_3, kI_49_2, kI_49_3, kI_51_2, kI_51_3, kI_53_2, kI_53_3, kI_55_2, kI_55_3, kI_57_2, kI_57_3, kI_59_2, kI_59_3, kI_59_4, kI_59_5, kI_59_6, kI_60_2, kI_60_3, kI_64_2, kI_64_3, kI_64_4, kI_64_5, kI_64_6, kI_65_2, kI_65_3, kI_69_2, kI_69_3, kI_69_4, kI_69_5, kI_69_6, kI_70_2, kI_70_3, kI_74_10, kI_74_11, kI_74_12, kI_74_14, kI_74_18, kI_74_19, kI_74_20, kI_74_21, kI_74_22, kI_74_23, kI_74_29, kI_74_30, kI_74_31, kI_74_32, kI_74_33, kR_1_0, kR_1_1, kR_1_2, kR_1_3, kR_1_4, kR_1_5, kR_1_6, kR_1_7, kR_1_8, kR_5_0, kR_5_1, kR_5_2, kR_5_3, kR_10_0, kR_11_0, kR_11_1, kR_11_2, kR_11_3, kR_16_0, kR_16_1, kR_17_0, kR_17_1, kR_21_0, kR_21_1, kR_21_2, kR_21_3, kR_26_0, kR_26_1, kR_29_0, kR_29_1, kR_32_0, kR_32_1, kR_35_0, kR_35_1, kR_39_0, kR_41_0, kR_43_0, kR_45_0, kR_47_0, kR_49_0, kR_51_0, kR_53_0, kR_55_0, kR_57_0, kR_59_0, kR_59_1, kR_60_0, kR_60_1, kR_64_0, kR_64_1, kR_65_0, kR_65_1, kR_69_0, kR_69_1, kR_70_0, kR_70_1, kR_74_0, kR_74_1, kR_74_2, kR_74_3, kR_74_4, kR_74_5, kR_74_6, kR_74_7, kR_74_8, kR_74_9, kR_74_13, kR_74_17, kR_74_24, kR_74_25, kR_74_26, kR_74_27, kR_74_28, kR_74_34, kR_74_35, kR_74_36, kL_1_11, kL_1_12, kL_74_15, kL_74_16, kK_39_1, kK_41_1, kK_43_1, kK_45_1, kK_47_1, kK_49_1, kK_51_1, kK_53_1, kK_55_1, kK_57_1, kA_6, kA_7, kA_8, kA_9, kA_12, kA_13, kA_14, kA_15, kA_18, kA_19, kA_20, kA_23, kA_24, kA_25, kA_27, kA_28, kA_30, kA_31, kA_33, kA_34, kA_36, kA_37, kA_38, kA_40, kA_42, kA_44, kA_46, kA_48, kA_50, kA_52, kA_54, kA_56, kA_58, kA_61, kA_62, kA_63, kA_66, kA_67, kA_68, kA_71, kA_72, kA_73, kA_75, kA_76, kA_77, kA_78, kA_79, kA_80, kA_81, kA_82, kA_83, kA_84, kA_85, kA_86, kA_87, kA_88, kA_89, kA_90, kA_91, kA_92, kA_93, kA_94, kQ_2, kQ_3, kQ_4, kQ_22, kC_1, kC_5, kC_10, kC_11, kC_16, kC_17, kC_21, kC_26, kC_29, kC_32, kC_35, kC_39, kC_41, kC_43, kC_45, kC_47, kC_49, kC_51, kC_53, kC_55, kC_57, kC_59, kC_60, kC_64, kC_65, kC_69, kC_70, kC_74, g4, c1, cx3, cl, hho.1, bh, su, hsu, b2i_t, n10, not_false_eq_true, nI_10, cx, hD1, h41, nI_p1, c2, ob, n1, hho2.1, k1, t1, em, r1]
theorem seekW_out {m : Nat} {q : QT} {H0 : HT} {ex : Bool} {wn : Nat → Int32} {n r : Nat} {R : Nat → Nat → Int32 → Int32 → PM Unit} (hm6 : m ≤ 6) (hv : QV m q) (hW : HW 40 m H0) (hn : n ≤ 3) (hR : r = 0 ∨ (r ≠ 0 ∧ SeekW B m q H0 ex wn n r R)) {p : List Nat} (hp1 : p.length + (r + 1) = n) (hpm : ∀ c ∈ p, c ∈ prs m) :
    ∀ (F t : Nat) (D : DT) (st : SYt), t < F → t ≤ m → XF D 5 m q → fI D 21 4 = nI n → fI D 21 5 = b2i ex → (∀ k, k < n → fG D 25 k = wn k) → XH D (26 + 3 * p.length) m q (rnL q H0 p) → WY D p → SWy D st →
    ∃ D', P_X6_seekWays_21 R 21 5 (nI p.length) (nI (whoN p)) F (nI (m - t)) (hp B D) = some ((), hp B D') ∧ SWy D' ((ext (seqs (prs m) r) (ri m t)).foldl (fS ex wn q (rnL q H0 p) p) st) ∧ Off (Tsk p.length) D D' ∧ WY D' p := by
  intro F
  induction F with
  | zero => intro t D st h1; omega
  | succ F ih =>
    intro t D st h1 h2 hF h4 h5 h25 hX hWy hS
    have g4 : fI D 5 4 = nI m := hF.1
    cases t with
    | zero =>
      have c1 : nI m ≤ nI (m - 0) := nI_le (by omega) (by omega)
      refine ⟨D, ?_, hS, Off.refl D, hWy⟩
      simp only [P_X6_seekWays_21, pureM_hp, ifB_t, ifB_f, decide_true, decide_false, ifB_hp, jn_hp, retZ_0, retZ_1, thn_some, cll0_w, cllV_w, getI_w, getL_w, getR_w, setI_w, setZ_w0, setZ_w1, setL_w, ald_w, ast_w, alen_w, aldR_2, aldR_3, aldR_4, aldR_22, cll0_pure, ↓reduceIte, if_true, if_false, Bool.false_eq_true, reduceCtorEq, and_true, true_and, and_false, false_and, ite_self, kI_1_9, kI_1_10, kI_5_4, kI_5_5, kI_5_6, kI_10_1, kI_11_4, kI_11_5, kI_11_6, kI_16_2, kI_16_3, kI_16_4, kI_16_5, kI_16_6, kI_17_2, kI_17_3, kI_21_4, kI_21_5, kI_21_6, kI_21_7, kI_21_8, kI_21_9, kI_21_10, kI_21_11, kI_26_2, kI_26_3, kI_29_2, kI_29_3, kI_32_2, kI_32_3, kI_35_2, kI_39_2, kI_39_3, kI_41_2, kI_41_3, kI_43_2, kI_43_3, kI_45_2, kI_45_3, kI_47_2, kI_47_3, kI_49_2, kI_49_3, kI_51_2, kI_51_3, kI_53_2, kI_53_3, kI_55_2, kI_55_3, kI_57_2, kI_57_3, kI_59_2, kI_59_3, kI_59_4, kI_59_5, kI_59_6, kI_60_2, kI_60_3, kI_64_2, kI_64_3, kI_64_4, kI_64_5, kI_64_6, kI_65_2, kI_65_3, kI_69_2, kI_69_3, kI_69_4, kI_69_5, kI_69_6, kI_70_2, kI_70_3, kI_74_10, kI_74_11, kI_74_12, kI_74_14, kI_74_18, kI_74_19, kI_74_20, kI_74_21, kI_74_22, kI_74_23, kI_74_29, kI_74_30, kI_74_31, kI_74_32, kI_74_33, kR_1_0, kR_1_1, kR_1_2, kR_1_3, kR_1_4, kR_1_5, kR_1_6, kR_1_7, kR_1_8, kR_5_0, kR_5_1, kR_5_2, kR_5_3, kR_10_0, kR_11_0, kR_11_1, kR_11_2, kR_11_3, kR_16_0, kR_16_1, kR_17_0, kR_17_1, kR_21_0, kR_21_1, kR_21_2, kR_21_3, kR_26_0, kR_26_1, kR_29_0, kR_29_1, kR_32_0, kR_32_1, kR_35_0, kR_35_1, kR_39_0, kR_41_0, kR_43_0, kR_45_0, kR_47_0, kR_49_0, kR_51_0, kR_53_0, kR_55_0, kR_57_0, kR_59_0, kR_59_1, kR_60_0, kR_60_1, kR_64_0, kR_64_1, kR_65_0, kR_65_1, kR_69_0, kR_69_1, kR_70_0, kR_70_1, kR_74_0, kR_74_1, kR_74_2, kR_74_3, kR_74_4, kR_74_5, kR_74_6, kR_74_7, kR_74_8, kR_74_9, kR_74_13, kR_74_17, kR_74_24, kR_74_25, kR_74_26, kR_74_27, kR_74_28, kR_74_34, kR_74_35, kR_74_36, kL_1_11, kL_1_12, kL_74_15, kL_74_16, kK_39_1, kK_41_1, kK_43_1, kK_45_1, kK_47_1, kK_49_1, kK_51_1, kK_53_1, kK_55_1, kK_57_1, kA_6, kA_7, kA_8, kA_9, kA_12, kA_13, kA_14, kA_15, kA_18, kA_19, kA_20, kA_23, kA_24, kA_25, kA_27, kA_28, kA_30, kA_31, kA_33, kA_34, kA_36, kA_37, kA_38, kA_40, kA_42, kA_44, kA_46, kA_48, kA_50, kA_52, kA_54, kA_56, kA_58, kA_61, kA_62, kA_63, kA_66, kA_67, kA_68, kA_71, kA_72, kA_73, kA_75, kA_76, kA_77, kA_78, kA_79, kA_80, kA_81, kA_82, kA_83, kA_84, kA_85, kA_86, kA_87, kA_88, kA_89, kA_90, kA_91, kA_92, kA_93, kA_94, kQ_2, kQ_3, kQ_4, kQ_22, kC_1, kC_5, kC_10, kC_11, kC_16, kC_17, kC_21, kC_26, kC_29, kC_32, kC_35, kC_39, kC_41, kC_43, kC_45, kC_47, kC_49, kC_51, kC_53, kC_55, kC_57, kC_59, kC_60, kC_64, kC_65, kC_69, kC_70, kC_74, g4, c1]
    | succ t =>
      have c1 : ¬ nI m ≤ nI (m - (t + 1)) := nI_ge (by omega) (by omega)
      have em : m - (t + 1) + 1 = m - t := by omega
      obtain ⟨D1, a1, a2, a3, a4⟩ := seekW_in (B := B) (i := m - (t + 1)) hm6 hv hW hn hR hp1 hpm (P_X6_seekWays_21 R 21 5 (nI p.length) (nI (whoN p)) F (nI (m - t))) 4000 t D st (by omega) (by omega) hF h4 h5 h25 hX hWy hS
      obtain ⟨D2, r1, r2, r3, r4⟩ := ih t D1 _ (by omega) (by omega) (Tsk_f hF a3) (by rw [(a3.1 21 4 (by unfold Tsk; omega)).1]; exact h4) (by rw [(a3.1 21 5 (by unfold Tsk; omega)).1]; exact h5) (fun k hk => by rw [a3.2 25 (by unfold Tsk; omega)]; exact h25 k hk) (Tsk_h hX (by omega) a3) a4 a2
      refine ⟨D2, ?_, by rw [show ri m (t + 1) = rj (m - (t + 1)) m t ++ ri m t from rfl, foldl_ext_app]; exact r2, a3.trans r3, r4⟩
      simp only [P_X6_seekWays_21, pureM_hp, ifB_t, ifB_f, decide_true, decide_false, ifB_hp, jn_hp, retZ_0, retZ_1, thn_some, cll0_w, cllV_w, getI_w, getL_w, getR_w, setI_w, setZ_w0, setZ_w1, setL_w, ald_w, ast_w, alen_w, aldR_2, aldR_3, aldR_4, aldR_22, cll0_pure, ↓reduceIte, if_true, if_false, Bool.false_eq_true, reduceCtorEq, and_true, true_and, and_false, false_and, ite_self, kI_1_9, kI_1_10, kI_5_4, kI_5_5, kI_5_6, kI_10_1, kI_11_4, kI_11_5, kI_11_6, kI_16_2, kI_16_3, kI_16_4, kI_16_5, kI_16_6, kI_17_2, kI_17_3, kI_21_4, kI_21_5, kI_21_6, kI_21_7, kI_21_8, kI_21_9, kI_21_10, kI_21_11, kI_26_2, kI_26_3, kI_29_2, kI_29_3, kI_32_2, kI_32_3, kI_35_2, kI_39_2, kI_39_3, kI_41_2, kI_41_3, kI_43_2, kI_43_3, kI_45_2, kI_45_3, kI_47_2, kI_47_3, kI_49_2, kI_49_3, kI_51_2, kI_51_3, kI_53_2, kI_53_3, kI_55_2, kI_55_3, kI_57_2, kI_57_3, kI_59_2, kI_59_3, kI_59_4, kI_59_5, kI_59_6, kI_60_2, kI_60_3, kI_64_2, kI_64_3, kI_64_4, kI_64_5, kI_64_6, kI_65_2, kI_65_3, kI_69_2, kI_69_3, kI_69_4, kI_69_5, kI_69_6, kI_70_2, kI_70_3, kI_74_10, kI_74_11, kI_74_12, kI_74_14, kI_74_18, kI_74_19, kI_74_20, kI_74_21, kI_74_22, kI_74_23, kI_74_29, kI_74_30, kI_74_31, kI_74_32, kI_74_33, kR_1_0, kR_1_1, kR_1_2, kR_1_3, kR_1_4, kR_1_5, kR_1_6, kR_1_7, kR_1_8, kR_5_0, kR_5_1, kR_5_2, kR_5_3, kR_10_0, kR_11_0, kR_11_1, kR_11_2, kR_11_3, kR_16_0, kR_16_1, kR_17_0, kR_17_1, kR_21_0, kR_21_1, kR_21_2, kR_21_3, kR_26_0, kR_26_1, kR_29_0, kR_29_1, kR_32_0, kR_32_1, kR_35_0, kR_35_1, kR_39_0, kR_41_0, kR_43_0, kR_45_0, kR_47_0, kR_49_0, kR_51_0, kR_53_0, kR_55_0, kR_57_0, kR_59_0, kR_59_1, kR_60_0, kR_60_1, kR_64_0, kR_64_1, kR_65_0, kR_65_1, kR_69_0, kR_69_1, kR_70_0, kR_70_1, kR_74_0, kR_74_1, kR_74_2, kR_74_3, kR_74_4, kR_74_5, kR_74_6, kR_74_7, kR_74_8, kR_74_9, kR_74_13, kR_74_17, kR_74_24, kR_74_25, kR_74_26, kR_74_27, kR_74_28, kR_74_34, kR_74_35, kR_74_36, kL_1_11, kL_1_12, kL_74_15, kL_74_16, kK_39_1, kK_41_1, kK_43_1, kK_45_1, kK_47_1, kK_49_1, kK_51_1, kK_53_1, kK_55_1, kK_57_1, kA_6, kA_7, kA_8, kA_9, kA_12, kA_13, kA_14, kA_15, kA_18, kA_19, kA_20, kA_23, kA_24, kA_25, kA_27, kA_28, kA_30, kA_31, kA_33, kA_34, kA_36, kA_37, kA_38, kA_40, kA_42, kA_44, kA_46, kA_48, kA_50, kA_52, kA_54, kA_56, kA_58, kA_61, kA_62, kA_63, kA_66, kA_67, kA_68, kA_71, kA_72, kA_73, kA_75, kA_76, kA_77, kA_78, kA_79, kA_80, kA_81, kA_82, kA_83, kA_84, kA_85, kA_86, kA_87, kA_88, kA_89, kA_90, kA_91, kA_92, kA_93, kA_94, kQ_2, kQ_3, kQ_4, kQ_22, kC_1, kC_5, kC_10, kC_11, kC_16, kC_17, kC_21, kC_26, kC_29, kC_32, kC_35, kC_39, kC_41, kC_43, kC_45, kC_47, kC_49, kC_51, kC_53, kC_55, kC_57, kC_59, kC_60, kC_64, kC_65, kC_69, kC_70, kC_74, g4, c1, nI_p1, em, a1, r1]
theorem seekW {m : Nat} {q : QT} {H0 : HT} {ex : Bool} {wn : Nat → Int32} {n : Nat} (hm6 : m ≤ 6) (hv : QV m q) (hW : HW 40 m H0) (hn : n ≤ 3) : ∀ (r f : Nat), r + 1 ≤ f → SeekW B m q H0 ex wn n (r + 1) (P_X6_seekWays f) := by
  intro r
  induction r with
  | zero =>
    intro f hf
    cases f with
    | zero => omega
    | succ f =>
      intro p D st hp1 hpm hF h4 h5 h25 hX hWy hS
      have c1 : ¬ nI p.length < 0 := fun z => by
        have := (nI_ltI (b := 0) (by omega) (by omega)).mp z
        omega
      have c2 : ¬ nI n ≤ nI p.length := nI_ge (by omega) (by omega)
      have c3 : nI p.length < 3 := (nI_ltI (b := 3) (by omega) (by omega)).mpr (by omega)
      obtain ⟨D', r1, r2, r3, r4⟩ := seekW_out (B := B) (R := P_X6_seekWays f) hm6 hv hW hn (Or.inl rfl) hp1 hpm 4000 m D st (by omega) (Nat.le_refl _) hF h4 h5 h25 hX hWy hS
      rw [Nat.sub_self, nI_0] at r1
      refine ⟨D', ?_, r2, r3, r4⟩
      simp only [P_X6_seekWays, pureM_hp, ifB_t, ifB_f, decide_true, decide_false, ifB_hp, jn_hp, retZ_0, retZ_1, thn_some, cll0_w, cllV_w, getI_w, getL_w, getR_w, setI_w, setZ_w0, setZ_w1, setL_w, ald_w, ast_w, alen_w, aldR_2, aldR_3, aldR_4, aldR_22, cll0_pure, ↓reduceIte, if_true, if_false, Bool.false_eq_true, reduceCtorEq, and_true, true_and, and_false, false_and, ite_self, kI_1_9, kI_1_10, kI_5_4, kI_5_5, kI_5_6, kI_10_1, kI_11_4, kI_11_5, kI_11_6, kI_16_2, kI_16_3, kI_16_4, kI_16_5, kI_16_6, kI_17_2, kI_17_3, kI_21_4, kI_21_5, kI_21_6, kI_21_7, kI_21_8, kI_21_9, kI_21_10, kI_21_11, kI_26_2, kI_26_3, kI_29_2, kI_29_3, kI_32_2, kI_32_3, kI_35_2, kI_39_2, kI_39_3, kI_41_2, kI_41_3, kI_43_2, kI_43_3, kI_45_2, kI_45_3, kI_47_2, kI_47_3, kI_49_2, kI_49_3, kI_51_2, kI_51_3, kI_53_2, kI_53_3, kI_55_2, kI_55_3, kI_57_2, kI_57_3, kI_59_2, kI_59_3, kI_59_4, kI_59_5, kI_59_6, kI_60_2, kI_60_3, kI_64_2, kI_64_3, kI_64_4, kI_64_5, kI_64_6, kI_65_2, kI_65_3, kI_69_2, kI_69_3, kI_69_4, kI_69_5, kI_69_6, kI_70_2, kI_70_3, kI_74_10, kI_74_11, kI_74_12, kI_74_14, kI_74_18, kI_74_19, kI_74_20, kI_74_21, kI_74_22, kI_74_23, kI_74_29, kI_74_30, kI_74_31, kI_74_32, kI_74_33, kR_1_0, kR_1_1, kR_1_2, kR_1_3, kR_1_4, kR_1_5, kR_1_6, kR_1_7, kR_1_8, kR_5_0, kR_5_1, kR_5_2, kR_5_3, kR_10_0, kR_11_0, kR_11_1, kR_11_2, kR_11_3, kR_16_0, kR_16_1, kR_17_0, kR_17_1, kR_21_0, kR_21_1, kR_21_2, kR_21_3, kR_26_0, kR_26_1, kR_29_0, kR_29_1, kR_32_0, kR_32_1, kR_35_0, kR_35_1, kR_39_0, kR_41_0, kR_43_0, kR_45_0, kR_47_0, kR_49_0, kR_51_0, kR_53_0, kR_55_0, kR_57_0, kR_59_0, kR_59_1, kR_60_0, kR_60_1, kR_64_0, kR_64_1, kR_65_0, kR_65_1, kR_69_0, kR_69_1, kR_70_0, kR_70_1, kR_74_0, kR_74_1, kR_74_2, kR_74_3, kR_74_4, kR_74_5, kR_74_6, kR_74_7, kR_74_8, kR_74_9, kR_74_13, kR_74_17, kR_74_24, kR_74_25, kR_74_26, kR_74_27, kR_74_28, kR_74_34, kR_74_35, kR_74_36, kL_1_11, kL_1_12, kL_74_15, kL_74_16, kK_39_1, kK_41_1, kK_43_1, kK_45_1, kK_47_1, kK_49_1, kK_51_1, kK_53_1, kK_55_1, kK_57_1, kA_6, kA_7, kA_8, kA_9, kA_12, kA_13, kA_14, kA_15, kA_18, kA_19, kA_20, kA_23, kA_24, kA_25, kA_27, kA_28, kA_30, kA_31, kA_33, kA_34, kA_36, kA_37, kA_38, kA_40, kA_42, kA_44, kA_46, kA_48, kA_50, kA_52, kA_54, kA_56, kA_58, kA_61, kA_62, kA_63, kA_66, kA_67, kA_68, kA_71, kA_72, kA_73, kA_75, kA_76, kA_77, kA_78, kA_79, kA_80, kA_81, kA_82, kA_83, kA_84, kA_85, kA_86, kA_87, kA_88, kA_89, kA_90, kA_91, kA_92, kA_93, kA_94, kQ_2, kQ_3, kQ_4, kQ_22, kC_1, kC_5, kC_10, kC_11, kC_16, kC_17, kC_21, kC_26, kC_29, kC_32, kC_35, kC_39, kC_41, kC_43, kC_45, kC_47, kC_49, kC_51, kC_53, kC_55, kC_57, kC_59, kC_60, kC_64, kC_65, kC_69, kC_70, kC_74, c1, h4, c2, c3, r1]
  | succ r ih =>
    intro f hf
    cases f with
    | zero => omega
    | succ f =>
      intro p D st hp1 hpm hF h4 h5 h25 hX hWy hS
      have c1 : ¬ nI p.length < 0 := fun z => by
        have := (nI_ltI (b := 0) (by omega) (by omega)).mp z
        omega
      have c2 : ¬ nI n ≤ nI p.length := nI_ge (by omega) (by omega)
      have c3 : nI p.length < 3 := (nI_ltI (b := 3) (by omega) (by omega)).mpr (by omega)
      obtain ⟨D', r1, r2, r3, r4⟩ := seekW_out (B := B) (R := P_X6_seekWays f) hm6 hv hW hn (Or.inr ⟨by omega, ih f (by omega)⟩) hp1 hpm 4000 m D st (by omega) (Nat.le_refl _) hF h4 h5 h25 hX hWy hS
      rw [Nat.sub_self, nI_0] at r1
      refine ⟨D', ?_, r2, r3, r4⟩
      simp only [P_X6_seekWays, pureM_hp, ifB_t, ifB_f, decide_true, decide_false, ifB_hp, jn_hp, retZ_0, retZ_1, thn_some, cll0_w, cllV_w, getI_w, getL_w, getR_w, setI_w, setZ_w0, setZ_w1, setL_w, ald_w, ast_w, alen_w, aldR_2, aldR_3, aldR_4, aldR_22, cll0_pure, ↓reduceIte, if_true, if_false, Bool.false_eq_true, reduceCtorEq, and_true, true_and, and_false, false_and, ite_self, kI_1_9, kI_1_10, kI_5_4, kI_5_5, kI_5_6, kI_10_1, kI_11_4, kI_11_5, kI_11_6, kI_16_2, kI_16_3, kI_16_4, kI_16_5, kI_16_6, kI_17_2, kI_17_3, kI_21_4, kI_21_5, kI_21_6, kI_21_7, kI_21_8, kI_21_9, kI_21_10, kI_21_11, kI_26_2, kI_26_3, kI_29_2, kI_29_3, kI_32_2, kI_32_3, kI_35_2, kI_39_2, kI_39_3, kI_41_2, kI_41_3, kI_43_2, kI_43_3, kI_45_2, kI_45_3, kI_47_2, kI_47_3, kI_49_2, kI_49_3, kI_51_2, kI_51_3, kI_53_2, kI_53_3, kI_55_2, kI_55_3, kI_57_2, kI_57_3, kI_59_2, kI_59_3, kI_59_4, kI_59_5, kI_59_6, kI_60_2, kI_60_3, kI_64_2, kI_64_3, kI_64_4, kI_64_5, kI_64_6, kI_65_2, kI_65_3, kI_69_2, kI_69_3, kI_69_4, kI_69_5, kI_69_6, kI_70_2, kI_70_3, kI_74_10, kI_74_11, kI_74_12, kI_74_14, kI_74_18, kI_74_19, kI_74_20, kI_74_21, kI_74_22, kI_74_23, kI_74_29, kI_74_30, kI_74_31, kI_74_32, kI_74_33, kR_1_0, kR_1_1, kR_1_2, kR_1_3, kR_1_4, kR_1_5, kR_1_6, kR_1_7, kR_1_8, kR_5_0, kR_5_1, kR_5_2, kR_5_3, kR_10_0, kR_11_0, kR_11_1, kR_11_2, kR_11_3, kR_16_0, kR_16_1, kR_17_0, kR_17_1, kR_21_0, kR_21_1, kR_21_2, kR_21_3, kR_26_0, kR_26_1, kR_29_0, kR_29_1, kR_32_0, kR_32_1, kR_35_0, kR_35_1, kR_39_0, kR_41_0, kR_43_0, kR_45_0, kR_47_0, kR_49_0, kR_51_0, kR_53_0, kR_55_0, kR_57_0, kR_59_0, kR_59_1, kR_60_0, kR_60_1, kR_64_0, kR_64_1, kR_65_0, kR_65_1, kR_69_0, kR_69_1, kR_70_0, kR_70_1, kR_74_0, kR_74_1, kR_74_2, kR_74_3, kR_74_4, kR_74_5, kR_74_6, kR_74_7, kR_74_8, kR_74_9, kR_74_13, kR_74_17, kR_74_24, kR_74_25, kR_74_26, kR_74_27, kR_74_28, kR_74_34, kR_74_35, kR_74_36, kL_1_11, kL_1_12, kL_74_15, kL_74_16, kK_39_1, kK_41_1, kK_43_1, kK_45_1, kK_47_1, kK_49_1, kK_51_1, kK_53_1, kK_55_1, kK_57_1, kA_6, kA_7, kA_8, kA_9, kA_12, kA_13, kA_14, kA_15, kA_18, kA_19, kA_20, kA_23, kA_24, kA_25, kA_27, kA_28, kA_30, kA_31, kA_33, kA_34, kA_36, kA_37, kA_38, kA_40, kA_42, kA_44, kA_46, kA_48, kA_50, kA_52, kA_54, kA_56, kA_58, kA_61, kA_62, kA_63, kA_66, kA_67, kA_68, kA_71, kA_72, kA_73, kA_75, kA_76, kA_77, kA_78, kA_79, kA_80, kA_81, kA_82, kA_83, kA_84, kA_85, kA_86, kA_87, kA_88, kA_89, kA_90, kA_91, kA_92, kA_93, kA_94, kQ_2, kQ_3, kQ_4, kQ_22, kC_1, kC_5, kC_10, kC_11, kC_16, kC_17, kC_21, kC_26, kC_29, kC_32, kC_35, kC_39, kC_41, kC_43, kC_45, kC_47, kC_49, kC_51, kC_53, kC_55, kC_57, kC_59, kC_60, kC_64, kC_65, kC_69, kC_70, kC_74, c1, h4, c2, c3, r1]
end WAYS
