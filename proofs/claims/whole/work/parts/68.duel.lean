/-! duel -/
section DUEL
variable {B : BT}
def mmf (d : Nat) (v x : Int32) : Int32 := if d % 2 = 0 then maxI v x else minI v x
def mmi (d : Nat) : Int32 := if d % 2 = 0 then -1 else 61
def mmx (q : QT) (ps : List Nat) : Nat → Nat → HT → Int32
  | 0, _, H => H.1
  | r + 1, d, H => ps.foldl (fun v c => mmf d v (mmx q ps r (d + 1) (wat q H (c / 10) (c % 10)))) (mmi d)
theorem mmf_i {d a : Nat} (ha : a ≤ 60) : mmf d (mmi d) (nI a) = nI a := by
  unfold mmf mmi
  by_cases h : d % 2 = 0
  · rw [if_pos h, if_pos h]
    unfold maxI
    rw [if_pos (by
      rw [lt_i, nI_toInt (by omega)]
      have e : ((-1 : Int32)).toInt = -1 := rfl
      omega)]
  · rw [if_neg h, if_neg h]
    unfold minI
    rw [if_pos (show nI a < (61 : Int32) from (nI_ltI (b := 61) (by omega) (by omega)).mpr (by omega))]
theorem mmf_n {d a b : Nat} (ha : a ≤ 60) (hb : b ≤ 60) : ∃ x, x ≤ 60 ∧ mmf d (nI a) (nI b) = nI x := by
  unfold mmf maxI minI
  by_cases h : d % 2 = 0
  · rw [if_pos h]
    by_cases h2 : nI a < nI b
    · rw [if_pos h2]; exact ⟨b, hb, rfl⟩
    · rw [if_neg h2]; exact ⟨a, ha, rfl⟩
  · rw [if_neg h]
    by_cases h2 : nI b < nI a
    · rw [if_pos h2]; exact ⟨b, hb, rfl⟩
    · rw [if_neg h2]; exact ⟨a, ha, rfl⟩
theorem mmF_b {d : Nat} {F : Nat → Int32} : ∀ (l : List Nat) (a : Nat), a ≤ 60 → (∀ c ∈ l, ∃ x, x ≤ 60 ∧ F c = nI x) → ∃ x, x ≤ 60 ∧ l.foldl (fun v c => mmf d v (F c)) (nI a) = nI x := by
  intro l
  induction l with
  | nil => intro a ha _; exact ⟨a, ha, rfl⟩
  | cons c l ih =>
    intro a ha h
    obtain ⟨x, hx, ex⟩ := h c List.mem_cons_self
    obtain ⟨y, hy, ey⟩ := mmf_n (d := d) ha hx
    show ∃ x, x ≤ 60 ∧ l.foldl (fun v c => mmf d v (F c)) (mmf d (nI a) (F c)) = nI x
    rw [ex, ey]
    exact ih y hy (fun e he => h e (List.mem_cons_of_mem _ he))
theorem mmx_b {m : Nat} {q : QT} (hm6 : m ≤ 6) (h0 : 0 < pM m) (hv : QV m q) : ∀ (r d a : Nat) (H : HT), HW a m H → ∃ x, x ≤ 60 ∧ mmx q (prs m) r d H = nI x := by
  intro r
  induction r with
  | zero =>
    intro d a H hW
    obtain ⟨⟨s, h1, h2⟩, -⟩ := hW
    exact ⟨s, h1, h2⟩
  | succ r ih =>
    intro d a H hW
    have hF : ∀ c ∈ prs m, ∃ x, x ≤ 60 ∧ mmx q (prs m) r (d + 1) (wat q H (c / 10) (c % 10)) = nI x := fun c hc => by
      obtain ⟨g1, g2, g3⟩ := (prs_ok hm6).1 c hc
      exact ih (d + 1) (a + 1) _ (wat_W hv hW (by omega) g2)
    show ∃ x, x ≤ 60 ∧ (prs m).foldl (fun v c => mmf d v (mmx q (prs m) r (d + 1) (wat q H (c / 10) (c % 10)))) (mmi d) = nI x
    have hne : prs m ≠ [] := fun z => by
      have h : pM m = 0 := by show (prs m).length = 0; rw [z]; rfl
      omega
    generalize hF' : (fun c => mmx q (prs m) r (d + 1) (wat q H (c / 10) (c % 10))) = F
    have e : ∀ c, mmx q (prs m) r (d + 1) (wat q H (c / 10) (c % 10)) = F c := fun c => by rw [← hF']
    simp only [e] at hF ⊢
    generalize prs m = l at hF hne
    cases l with
    | nil => exact absurd rfl hne
    | cons c l =>
      obtain ⟨x, hx, ex⟩ := hF c List.mem_cons_self
      show ∃ x, x ≤ 60 ∧ l.foldl (fun v c => mmf d v (F c)) (mmf d (mmi d) (F c)) = nI x
      rw [ex, mmf_i hx]
      exact mmF_b l x hx (fun e he => hF e (List.mem_cons_of_mem _ he))
/-- the class -/
def Tpt (d : Nat) : Nat → Nat → Prop := fun a _ => 29 + 3 * d ≤ a ∧ a ≤ 34
def PlayT (B : BT) (m : Nat) (q : QT) (n r : Nat) (R : Nat → Nat → Int32 → PM Int32) : Prop := ∀ (d : Nat) (D : DT) (H : HT), d + r = n → HW (40 + d) m H → XF D 5 m q → fI D 21 4 = nI n → XH D (26 + 3 * d) m q H → ∃ D', R 21 5 (nI d) (hp B D) = some (mmx q (prs m) r d H, hp B D') ∧ Off (Tpt d) D D'
def wmc (d : Nat) : Int32 := if d % 2 = 0 then 1 else 0
theorem play_in {m n r d : Nat} {q : QT} {H : HT} {R : Nat → Nat → Int32 → PM Int32} (hm6 : m ≤ 6) (hv : QV m q) (hn : n ≤ 3) (hR : r = 0 ∨ (r ≠ 0 ∧ PlayT B m q n r R)) (hd : d + (r + 1) = n) (hW : HW (40 + d) m H) {i : Nat} (K : Int32 → PM Int32) :
    ∀ (F t : Nat) (D : DT) (v : Int32), t < F → i + t < m → XF D 5 m q → fI D 21 4 = nI n → XH D (26 + 3 * d) m q H → ∃ D', P_X6_playTurn_61 R K 21 5 (nI d) (wmc d) (nI i) F v (nI (m - t)) (hp B D) = K ((rj i m t).foldl (fun v c => mmf d v (mmx q (prs m) r (d + 1) (wat q H (c / 10) (c % 10)))) v) (hp B D') ∧ Off (Tpt d) D D' := by
  intro F
  induction F with
  | zero => intro t D v h1; omega
  | succ F ih =>
    intro t D v h1 h2 hF h4 hX
    have g4 : fI D 5 4 = nI m := hF.1
    cases t with
    | zero =>
      have c1 : nI m ≤ nI (m - 0) := nI_le (by omega) (by omega)
      refine ⟨D, ?_, Off.refl D⟩
      simp only [P_X6_playTurn_61, pureM_hp, ifB_t, ifB_f, decide_true, decide_false, ifB_hp, jn_hp, retZ_0, retZ_1, thn_some, cll0_w, cllV_w, getI_w, getL_w, getR_w, setI_w, setZ_w0, setZ_w1, setL_w, ald_w, ast_w, alen_w, aldR_2, aldR_3, aldR_4, aldR_22, cll0_pure, ↓reduceIte, if_true, if_false, Bool.false_eq_true, reduceCtorEq, and_true, true_and, and_false, false_and, ite_self, kI_1_9, kI_1_10, kI_5_4, kI_5_5, kI_5_6, kI_10_1, kI_11_4, kI_11_5, kI_11_6, kI_16_2, kI_16_3, kI_16_4, kI_16_5, kI_16_6, kI_17_2, kI_17_3, kI_21_4, kI_21_5, kI_21_6, kI_21_7, kI_21_8, kI_21_9, kI_21_10, kI_21_11, kI_26_2, kI_26_3, kI_29_2, kI_29_3, kI_32_2, kI_32_3, kI_35_2, kI_39_2, kI_39_3, kI_41_2, kI_41_3, kI_43_2, kI_43_3, kI_45_2, kI_45_3, kI_47_2, kI_47_3, kI_49_2, kI_49_3, kI_51_2, kI_51_3, kI_53_2, kI_53_3, kI_55_2, kI_55_3, kI_57_2, kI_57_3, kI_59_2, kI_59_3, kI_59_4, kI_59_5, kI_59_6, kI_60_2, kI_60_3, kI_64_2, kI_64_3, kI_64_4, kI_64_5, kI_64_6, kI_65_2, kI_65_3, kI_69_2, kI_69_3, kI_69_4, kI_69_5, kI_69_6, kI_70_2, kI_70_3, kI_74_10, kI_74_11, kI_74_12, kI_74_14, kI_74_18, kI_74_19, kI_74_20, kI_74_21, kI_74_22, kI_74_23, kI_74_29, kI_74_30, kI_74_31, kI_74_32, kI_74_33, kR_1_0, kR_1_1, kR_1_2, kR_1_3, kR_1_4, kR_1_5, kR_1_6, kR_1_7, kR_1_8, kR_5_0, kR_5_1, kR_5_2, kR_5_3, kR_10_0, kR_11_0, kR_11_1, kR_11_2, kR_11_3, kR_16_0, kR_16_1, kR_17_0, kR_17_1, kR_21_0, kR_21_1, kR_21_2, kR_21_3, kR_26_0, kR_26_1, kR_29_0, kR_29_1, kR_32_0, kR_32_1, kR_35_0, kR_35_1, kR_39_0, kR_41_0, kR_43_0, kR_45_0, kR_47_0, kR_49_0, kR_51_0, kR_53_0, kR_55_0, kR_57_0, kR_59_0, kR_59_1, kR_60_0, kR_60_1, kR_64_0, kR_64_1, kR_65_0, kR_65_1, kR_69_0, kR_69_1, kR_70_0, kR_70_1, kR_74_0, kR_74_1, kR_74_2, kR_74_3, kR_74_4, kR_74_5, kR_74_6, kR_74_7, kR_74_8, kR_74_9, kR_74_13, kR_74_17, kR_74_24, kR_74_25, kR_74_26, kR_74_27, kR_74_28, kR_74_34, kR_74_35, kR_74_36, kL_1_11, kL_1_12, kL_74_15, kL_74_16, kK_39_1, kK_41_1, kK_43_1, kK_45_1, kK_47_1, kK_49_1, kK_51_1, kK_53_1, kK_55_1, kK_57_1, kA_6, kA_7, kA_8, kA_9, kA_12, kA_13, kA_14, kA_15, kA_18, kA_19, kA_20, kA_23, kA_24, kA_25, kA_27, kA_28, kA_30, kA_31, kA_33, kA_34, kA_36, kA_37, kA_38, kA_40, kA_42, kA_44, kA_46, kA_48, kA_50, kA_52, kA_54, kA_56, kA_58, kA_61, kA_62, kA_63, kA_66, kA_67, kA_68, kA_71, kA_72, kA_73, kA_75, kA_76, kA_77, kA_78, kA_79, kA_80, kA_81, kA_82, kA_83, kA_84, kA_85, kA_86, kA_87, kA_88, kA_89, kA_90, kA_91, kA_92, kA_93, kA_94, kQ_2, kQ_3, kQ_4, kQ_22, kC_1, kC_5, kC_10, kC_11, kC_16, kC_17, kC_21, kC_26, kC_29, kC_32, kC_35, kC_39, kC_41, kC_43, kC_45, kC_47, kC_49, kC_51, kC_53, kC_55, kC_57, kC_59, kC_60, kC_64, kC_65, kC_69, kC_70, kC_74, g4, c1]
      rfl
    | succ t =>
      have c1 : ¬ nI m ≤ nI (m - (t + 1)) := nI_ge (by omega) (by omega)
      have em : m - (t + 1) + 1 = m - t := by omega
      have cx3 : 0 ≤ (nI d).toInt ∧ (nI d).toInt < 3 := by rw [nI_toInt (by omega)]; omega
      have cl := nI_clamp (show d < 2 ^ 31 by omega)
      have hho := ho_s (k := d) (by omega)
      generalize hj : m - (t + 1) = j at *
      have hij : i < j := by omega
      have hjm : j < m := by omega
      have erj : rj i m (t + 1) = (10 * i + j) :: rj i m t := by rw [← hj]; rfl
      have d1 : (10 * i + j) / 10 = i := by omega
      have d2 : (10 * i + j) % 10 = j := by omega
      have fin : ∀ D2, Off (Tpt d) D D2 → ∃ D', P_X6_playTurn_61 R K 21 5 (nI d) (wmc d) (nI i) F (mmf d v (mmx q (prs m) r (d + 1) (wat q H i j))) (nI (m - t)) (hp B D2) = K ((rj i m (t + 1)).foldl (fun v c => mmf d v (mmx q (prs m) r (d + 1) (wat q H (c / 10) (c % 10)))) v) (hp B D') ∧ Off (Tpt d) D D' := by
        intro D2 o2
        obtain ⟨D', r1, r2⟩ := ih t D2 (mmf d v (mmx q (prs m) r (d + 1) (wat q H i j))) (by omega) (by omega) (hF.off o2 (by unfold Tpt; omega) (fun k q1 q2 => by unfold Tpt; omega)) (by rw [(o2.1 21 4 (by unfold Tpt; omega)).1]; exact h4) (hX.off o2 (by unfold Tpt; omega) (by unfold Tpt; omega) (by unfold Tpt; omega) (by unfold Tpt; omega))
        refine ⟨D', ?_, o2.trans r2⟩
        rw [r1, erj, List.foldl_cons, d1, d2]
      have wm : ∀ x D2, (∃ D', P_X6_playTurn_61 R K 21 5 (nI d) (wmc d) (nI i) F (mmf d v x) (nI (m - t)) (hp B D2) = K ((rj i m (t + 1)).foldl (fun v c => mmf d v (mmx q (prs m) r (d + 1) (wat q H (c / 10) (c % 10)))) v) (hp B D') ∧ Off (Tpt d) D D') → ∃ D', (if wmc d = 0 then P_X6_playTurn_61 R K 21 5 (nI d) (wmc d) (nI i) F (minI v x) (nI (m - t)) (hp B D2) else P_X6_playTurn_61 R K 21 5 (nI d) (wmc d) (nI i) F (maxI v x) (nI (m - t)) (hp B D2)) = K ((rj i m (t + 1)).foldl (fun v c => mmf d v (mmx q (prs m) r (d + 1) (wat q H (c / 10) (c % 10)))) v) (hp B D') ∧ Off (Tpt d) D D' := by
        intro x D2 h
        obtain ⟨D', z1, z2⟩ := h
        refine ⟨D', ?_, z2⟩
        rw [← z1]
        unfold mmf
        by_cases hp2 : d % 2 = 0
        · have e : wmc d = 1 := if_pos hp2
          rw [if_pos hp2, e, if_neg (by decide)]
        · have e : wmc d = 0 := if_neg hp2
          rw [if_neg hp2, e, if_pos rfl]
      rcases hR with rfl | ⟨hr0, hR⟩
      · have c2 : nI n ≤ nI (d + 1) := nI_le (by omega) (by omega)
        have bh := x_behind (B := B) (D := D) hho fo_5 hF hX hm6 (show i < m by omega) hjm (by omega)
        obtain ⟨D', r1, r2⟩ := wm (wst q H i j) D (fin D (Off.refl D))
        refine ⟨D', ?_, r2⟩
        rw [← r1]
        simp only [P_X6_playTurn_61, pureM_hp, ifB_t, ifB_f, decide_true, decide_false, ifB_hp, jn_hp, retZ_0, retZ_1, thn_some, cll0_w, cllV_w, getI_w, getL_w, getR_w, setI_w, setZ_w0, setZ_w1, setL_w, ald_w, ast_w, alen_w, aldR_2, aldR_3, aldR_4, aldR_22, cll0_pure, ↓reduceIte, if_true, if_false, Bool.false_eq_true, reduceCtorEq, and_true, true_and, and_false, false_and, ite_self, kI_1_9, kI_1_10, kI_5_4, kI_5_5, kI_5_6, kI_10_1, kI_11_4, kI_11_5, kI_11_6, kI_16_2, kI_16_3, kI_16_4, kI_16_5, kI_16_6, kI_17_2, kI_17_3, kI_21_4, kI_21_5, kI_21_6, kI_21_7, kI_21_8, kI_21_9, kI_21_10, kI_21_11, kI_26_2, kI_26_3, kI_29_2, kI_29_3, kI_32_2, kI_32_3, kI_35_2, kI_39_2, kI_39_3, kI_41_2, kI_41_3, kI_43_2, kI_43_3, kI_45_2, kI_45_3, kI_47_2, kI_47_3, kI_49_2, kI_49_3, kI_51_2, kI_51_3, kI_53_2, kI_53_3, kI_55_2, kI_55_3, kI_57_2, kI_57_3, kI_59_2, kI_59_3, kI_59_4, kI_59_5, kI_59_6, kI_60_2, kI_60_3, kI_64_2, kI_64_3, kI_64_4, kI_64_5, kI_64_6, kI_65_2, kI_65_3, kI_69_2, kI_69_3, kI_69_4, kI_69_5, kI_69_6, kI_70_2, kI_70_3, kI_74_10, kI_74_11, kI_74_12, kI_74_14, kI_74_18, kI_74_19, kI_74_20, kI_74_21, kI_74_22, kI_74_23, kI_74_29, kI_74_30, kI_74_31, kI_74_32, kI_74_33, kR_1_0, kR_1_1, kR_1_2, kR_1_3, kR_1_4, kR_1_5, kR_1_6, kR_1_7, kR_1_8, kR_5_0, kR_5_1, kR_5_2, kR_5_3, kR_10_0, kR_11_0, kR_11_1, kR_11_2, kR_11_3, kR_16_0, kR_16_1, kR_17_0, kR_17_1, kR_21_0, kR_21_1, kR_21_2, kR_21_3, kR_26_0, kR_26_1, kR_29_0, kR_29_1, kR_32_0, kR_32_1, kR_35_0, kR_35_1, kR_39_0, kR_41_0, kR_43_0, kR_45_0, kR_47_0, kR_49_0, kR_51_0, kR_53_0, kR_55_0, kR_57_0, kR_59_0, kR_59_1, kR_60_0, kR_60_1, kR_64_0, kR_64_1, kR_65_0, kR_65_1, kR_69_0, kR_69_1, kR_70_0, kR_70_1, kR_74_0, kR_74_1, kR_74_2, kR_74_3, kR_74_4, kR_74_5, kR_74_6, kR_74_7, kR_74_8, kR_74_9, kR_74_13, kR_74_17, kR_74_24, kR_74_25, kR_74_26, kR_74_27, kR_74_28, kR_74_34, kR_74_35, kR_74_36, kL_1_11, kL_1_12, kL_74_15, kL_74_16, kK_39_1, kK_41_1, kK_43_1, kK_45_1, kK_47_1, kK_49_1, kK_51_1, kK_53_1, kK_55_1, kK_57_1, kA_6, kA_7, kA_8, kA_9, kA_12, kA_13, kA_14, kA_15, kA_18, kA_19, kA_20, kA_23, kA_24, kA_25, kA_27, kA_28, kA_30, kA_31, kA_33, kA_34, kA_36, kA_37, kA_38, kA_40, kA_42, kA_44, kA_46, kA_48, kA_50, kA_52, kA_54, kA_56, kA_58, kA_61, kA_62, kA_63, kA_66, kA_67, kA_68, kA_71, kA_72, kA_73, kA_75, kA_76, kA_77, kA_78, kA_79, kA_80, kA_81, kA_82, kA_83, kA_84, kA_85, kA_86, kA_87, kA_88, kA_89, kA_90, kA_91, kA_92, kA_93, kA_94, kQ_2, kQ_3, kQ_4, kQ_22, kC_1, kC_5, kC_10, kC_11, kC_16, kC_17, kC_21, kC_26, kC_29, kC_32, kC_35, kC_39, kC_41, kC_43, kC_45, kC_47, kC_49, kC_51, kC_53, kC_55, kC_57, kC_59, kC_60, kC_64, kC_65, kC_69, kC_70, kC_74, g4, c1, h4, nI_p1, c2, cx3, cl, hho.1, bh, j_min, j_max, em]
      · have c2 : ¬ nI n ≤ nI (d + 1) := nI_ge (by omega) (by omega)
        obtain ⟨D2, n1, n2, n3⟩ := x_copyDeeper (B := B) D (d := d) (by omega)
        have x2 := n3 m q _ hm6 hX
        have hho2 := ho_s (k := d + 1) (by omega)
        obtain ⟨D3, k1, k2, k3⟩ := x_passWatch (B := B) hho2 fo_5 (by omega) (Tho_f hF n2 (by omega)) x2 hm6 hv (hW.v (by omega)) (show i < m by omega) hjm (by omega)
        have o3 : Off (Tho (26 + 3 * (d + 1))) D D3 := n2.trans k3
        obtain ⟨D4, t1, t3⟩ := hR (d + 1) D3 (wat q H i j) (by omega) (by have := wat_W hv hW (show i < m by omega) hjm; rw [Nat.add_assoc] at this; exact this) (Tho_f hF o3 (by omega)) (by rw [(o3.1 21 4 (by unfold Tho; omega)).1]; exact h4) k2
        obtain ⟨D', r1, r2⟩ := wm (mmx q (prs m) r (d + 1) (wat q H i j)) D4 (fin D4 ((o3.mono (fun a k z => by unfold Tho at z; unfold Tpt; omega)).trans (t3.mono (fun a k z => by unfold Tpt at z ⊢; omega))))
        refine ⟨D', ?_, r2⟩
        rw [← r1]
        simp only [P_X6_playTurn_61, pureM_hp, ifB_t, ifB_f, decide_true, decide_false, ifB_hp, jn_hp, retZ_0, retZ_1, thn_some, cll0_w, cllV_w, getI_w, getL_w, getR_w, setI_w, setZ_w0, setZ_w1, setL_w, ald_w, ast_w, alen_w, aldR_2, aldR_3, aldR_4, aldR_22, cll0_pure, ↓reduceIte, if_true, if_false, Bool.false_eq_true, reduceCtorEq, and_true, true_and, and_false, false_and, ite_self, kI_1_9, kI_1_10, kI_5_4, kI_5_5, kI_5_6, kI_10_1, kI_11_4, kI_11_5, kI_11_6, kI_16_2, kI_16_3, kI_16_4, kI_16_5, kI_16_6, kI_17_2, kI_17_3, kI_21_4, kI_21_5, kI_21_6, kI_21_7, kI_21_8, kI_21_9, kI_21_10, kI_21_11, kI_26_2, kI_26_3, kI_29_2, kI_29_3, kI_32_2, kI_32_3, kI_35_2, kI_39_2, kI_39_3, kI_41_2, kI_41_3, kI_43_2, kI_43_3, kI_45_2, kI_45_3, kI_47_2, kI_47_3, kI_49_2, kI_49_3, kI_51_2, kI_51_3, kI_53_2, kI_53_3, kI_55_2, kI_55_3, kI_57_2, kI_57_3, kI_59_2, kI_59_3, kI_59_4, kI_59_5, kI_59_6, kI_60_2, kI_60_3, kI_64_2, kI_64_3, kI_64_4, kI_64_5, kI_64_6, kI_65_2, kI_65_3, kI_69_2, kI_69_3, kI_69_4, kI_69_5, kI_69_6, kI_70_2, kI_70_3, kI_74_10, kI_74_11, kI_74_12, kI_74_14, kI_74_18, kI_74_19, kI_74_20, kI_74_21, kI_74_22, kI_74_23, kI_74_29, kI_74_30, kI_74_31, kI_74_32, kI_74_33, kR_1_0, kR_1_1, kR_1_2, kR_1_3, kR_1_4, kR_1_5, kR_1_6, kR_1_7, kR_1_8, kR_5_0, kR_5_1, kR_5_2, kR_5_3, kR_10_0, kR_11_0, kR_11_1, kR_11_2, kR_11_3, kR_16_0, kR_16_1, kR_17_0, kR_17_1, kR_21_0, kR_21_1, kR_21_2, kR_21_3, kR_26_0, kR_26_1, kR_29_0, kR_29_1, kR_32_0, kR_32_1, kR_35_0, kR_35_1, kR_39_0, kR_41_0, kR_43_0, kR_45_0, kR_47_0, kR_49_0, kR_51_0, kR_53_0, kR_55_0, kR_57_0, kR_59_0, kR_59_1, kR_60_0, kR_60_1, kR_64_0, kR_64_1, kR_65_0, kR_65_1, kR_69_0, kR_69_1, kR_70_0, kR_70_1, kR_74_0, kR_74_1, kR_74_2, kR_74_3, kR_74_4, kR_74_5, kR_74_6, kR_74_7, kR_74_8, kR_74_9, kR_74_13, kR_74_17, kR_74_24, kR_74_25, kR_74_26, kR_74_27, kR_74_28, kR_74_34, kR_74_35, kR_74_36, kL_1_11, kL_1_12, kL_74_15, kL_74_16, kK_39_1, kK_41_1, kK_43_1, kK_45_1, kK_47_1, kK_49_1, kK_51_1, kK_53_1, kK_55_1, kK_57_1, kA_6, kA_7, kA_8, kA_9, kA_12, kA_13, kA_14, kA_15, kA_18, kA_19, kA_20, kA_23, kA_24, kA_25, kA_27, kA_28, kA_30, kA_31, kA_33, kA_34, kA_36, kA_37, kA_38, kA_40, kA_42, kA_44, kA_46, kA_48, kA_50, kA_52, kA_54, kA_56, kA_58, kA_61, kA_62, kA_63, kA_66, kA_67, kA_68, kA_71, kA_72, kA_73, kA_75, kA_76, kA_77, kA_78, kA_79, kA_80, kA_81, kA_82, kA_83, kA_84, kA_85, kA_86, kA_87, kA_88, kA_89, kA_90, kA_91, kA_92, kA_93, kA_94, kQ_2, kQ_3, kQ_4, kQ_22, kC_1, kC_5, kC_10, kC_11, kC_16, kC_17, kC_21, kC_26, kC_29, kC_32, kC_35, kC_39, kC_41, kC_43, kC_45, kC_47, kC_49, kC_51, kC_53, kC_55, kC_57, kC_59, kC_60, kC_64, kC_65, kC_69, kC_70, kC_74, g4, c1, h4, nI_p1, c2, n1, hho2.1, k1, t1, j_min, j_max, em]
theorem play_out {m n r d : Nat} {q : QT} {H : HT} {R : Nat → Nat → Int32 → PM Int32} (hm6 : m ≤ 6) (hv : QV m q) (hn : n ≤ 3) (hR : r = 0 ∨ (r ≠ 0 ∧ PlayT B m q n r R)) (hd : d + (r + 1) = n) (hW : HW (40 + d) m H) :
    ∀ (F t : Nat) (D : DT) (v : Int32), t < F → t ≤ m → XF D 5 m q → fI D 21 4 = nI n → XH D (26 + 3 * d) m q H → ∃ D', P_X6_playTurn_46 R 21 5 (nI d) (wmc d) F v (nI (m - t)) (hp B D) = some ((ri m t).foldl (fun v c => mmf d v (mmx q (prs m) r (d + 1) (wat q H (c / 10) (c % 10)))) v, hp B D') ∧ Off (Tpt d) D D' := by
  intro F
  induction F with
  | zero => intro t D v h1; omega
  | succ F ih =>
    intro t D v h1 h2 hF h4 hX
    have g4 : fI D 5 4 = nI m := hF.1
    cases t with
    | zero =>
      have c1 : nI m ≤ nI (m - 0) := nI_le (by omega) (by omega)
      refine ⟨D, ?_, Off.refl D⟩
      simp only [P_X6_playTurn_46, pureM_hp, ifB_t, ifB_f, decide_true, decide_false, ifB_hp, jn_hp, retZ_0, retZ_1, thn_some, cll0_w, cllV_w, getI_w, getL_w, getR_w, setI_w, setZ_w0, setZ_w1, setL_w, ald_w, ast_w, alen_w, aldR_2, aldR_3, aldR_4, aldR_22, cll0_pure, ↓reduceIte, if_true, if_false, Bool.false_eq_true, reduceCtorEq, and_true, true_and, and_false, false_and, ite_self, kI_1_9, kI_1_10, kI_5_4, kI_5_5, kI_5_6, kI_10_1, kI_11_4, kI_11_5, kI_11_6, kI_16_2, kI_16_3, kI_16_4, kI_16_5, kI_16_6, kI_17_2, kI_17_3, kI_21_4, kI_21_5, kI_21_6, kI_21_7, kI_21_8, kI_21_9, kI_21_10, kI_21_11, kI_26_2, kI_26_3, kI_29_2, kI_29_3, kI_32_2, kI_32_3, kI_35_2, kI_39_2, kI_39_3, kI_41_2, kI_41_3, kI_43_2, kI_43_3, kI_45_2, kI_45_3, kI_47_2, kI_47_3, kI_49_2, kI_49_3, kI_51_2, kI_51_3, kI_53_2, kI_53_3, kI_55_2, kI_55_3, kI_57_2, kI_57_3, kI_59_2, kI_59_3, kI_59_4, kI_59_5, kI_59_6, kI_60_2, kI_60_3, kI_64_2, kI_64_3, kI_64_4, kI_64_5, kI_64_6, kI_65_2, kI_65_3, kI_69_2, kI_69_3, kI_69_4, kI_69_5, kI_69_6, kI_70_2, kI_70_3, kI_74_10, kI_74_11, kI_74_12, kI_74_14, kI_74_18, kI_74_19, kI_74_20, kI_74_21, kI_74_22, kI_74_23, kI_74_29, kI_74_30, kI_74_31, kI_74_32, kI_74_33, kR_1_0, kR_1_1, kR_1_2, kR_1_3, kR_1_4, kR_1_5, kR_1_6, kR_1_7, kR_1_8, kR_5_0, kR_5_1, kR_5_2, kR_5_3, kR_10_0, kR_11_0, kR_11_1, kR_11_2, kR_11_3, kR_16_0, kR_16_1, kR_17_0, kR_17_1, kR_21_0, kR_21_1, kR_21_2, kR_21_3, kR_26_0, kR_26_1, kR_29_0, kR_29_1, kR_32_0, kR_32_1, kR_35_0, kR_35_1, kR_39_0, kR_41_0, kR_43_0, kR_45_0, kR_47_0, kR_49_0, kR_51_0, kR_53_0, kR_55_0, kR_57_0, kR_59_0, kR_59_1, kR_60_0, kR_60_1, kR_64_0, kR_64_1, kR_65_0, kR_65_1, kR_69_0, kR_69_1, kR_70_0, kR_70_1, kR_74_0, kR_74_1, kR_74_2, kR_74_3, kR_74_4, kR_74_5, kR_74_6, kR_74_7, kR_74_8, kR_74_9, kR_74_13, kR_74_17, kR_74_24, kR_74_25, kR_74_26, kR_74_27, kR_74_28, kR_74_34, kR_74_35, kR_74_36, kL_1_11, kL_1_12, kL_74_15, kL_74_16, kK_39_1, kK_41_1, kK_43_1, kK_45_1, kK_47_1, kK_49_1, kK_51_1, kK_53_1, kK_55_1, kK_57_1, kA_6, kA_7, kA_8, kA_9, kA_12, kA_13, kA_14, kA_15, kA_18, kA_19, kA_20, kA_23, kA_24, kA_25, kA_27, kA_28, kA_30, kA_31, kA_33, kA_34, kA_36, kA_37, kA_38, kA_40, kA_42, kA_44, kA_46, kA_48, kA_50, kA_52, kA_54, kA_56, kA_58, kA_61, kA_62, kA_63, kA_66, kA_67, kA_68, kA_71, kA_72, kA_73, kA_75, kA_76, kA_77, kA_78, kA_79, kA_80, kA_81, kA_82, kA_83, kA_84, kA_85, kA_86, kA_87, kA_88, kA_89, kA_90, kA_91, kA_92, kA_93, kA_94, kQ_2, kQ_3, kQ_4, kQ_22, kC_1, kC_5, kC_10, kC_11, kC_16, kC_17, kC_21, kC_26, kC_29, kC_32, kC_35, kC_39, kC_41, kC_43, kC_45, kC_47, kC_49, kC_51, kC_53, kC_55, kC_57, kC_59, kC_60, kC_64, kC_65, kC_69, kC_70, kC_74, g4, c1]
      rfl
    | succ t =>
      have c1 : ¬ nI m ≤ nI (m - (t + 1)) := nI_ge (by omega) (by omega)
      have em : m - (t + 1) + 1 = m - t := by omega
      obtain ⟨D1, a1, a2⟩ := play_in (B := B) (i := m - (t + 1)) hm6 hv hn hR hd hW (fun e6 => P_X6_playTurn_46 R 21 5 (nI d) (wmc d) F e6 (nI (m - t))) 4000 t D v (by omega) (by omega) hF h4 hX
      obtain ⟨D2, r1, r2⟩ := ih t D1 ((rj (m - (t + 1)) m t).foldl (fun v c => mmf d v (mmx q (prs m) r (d + 1) (wat q H (c / 10) (c % 10)))) v) (by omega) (by omega) (hF.off a2 (by unfold Tpt; omega) (fun k q1 q2 => by unfold Tpt; omega)) (by rw [(a2.1 21 4 (by unfold Tpt; omega)).1]; exact h4) (hX.off a2 (by unfold Tpt; omega) (by unfold Tpt; omega) (by unfold Tpt; omega) (by unfold Tpt; omega))
      refine ⟨D2, ?_, a2.trans r2⟩
      rw [show ri m (t + 1) = rj (m - (t + 1)) m t ++ ri m t from rfl, List.foldl_append]
      simp only [P_X6_playTurn_46, pureM_hp, ifB_t, ifB_f, decide_true, decide_false, ifB_hp, jn_hp, retZ_0, retZ_1, thn_some, cll0_w, cllV_w, getI_w, getL_w, getR_w, setI_w, setZ_w0, setZ_w1, setL_w, ald_w, ast_w, alen_w, aldR_2, aldR_3, aldR_4, aldR_22, cll0_pure, ↓reduceIte, if_true, if_false, Bool.false_eq_true, reduceCtorEq, and_true, true_and, and_false, false_and, ite_self, kI_1_9, kI_1_10, kI_5_4, kI_5_5, kI_5_6, kI_10_1, kI_11_4, kI_11_5, kI_11_6, kI_16_2, kI_16_3, kI_16_4, kI_16_5, kI_16_6, kI_17_2, kI_17_3, kI_21_4, kI_21_5, kI_21_6, kI_21_7, kI_21_8, kI_21_9, kI_21_10, kI_21_11, kI_26_2, kI_26_3, kI_29_2, kI_29_3, kI_32_2, kI_32_3, kI_35_2, kI_39_2, kI_39_3, kI_41_2, kI_41_3, kI_43_2, kI_43_3, kI_45_2, kI_45_3, kI_47_2, kI_47_3, kI_49_2, kI_49_3, kI_51_2, kI_51_3, kI_53_2, kI_53_3, kI_55_2, kI_55_3, kI_57_2, kI_57_3, kI_59_2, kI_59_3, kI_59_4, kI_59_5, kI_59_6, kI_60_2, kI_60_3, kI_64_2, kI_64_3, kI_64_4, kI_64_5, kI_64_6, kI_65_2, kI_65_3, kI_69_2, kI_69_3, kI_69_4, kI_69_5, kI_69_6, kI_70_2, kI_70_3, kI_74_10, kI_74_11, kI_74_12, kI_74_14, kI_74_18, kI_74_19, kI_74_20, kI_74_21, kI_74_22, kI_74_23, kI_74_29, kI_74_30, kI_74_31, kI_74_32, kI_74_33, kR_1_0, kR_1_1, kR_1_2, kR_1_3, kR_1_4, kR_1_5, kR_1_6, kR_1_7, kR_1_8, kR_5_0, kR_5_1, kR_5_2, kR_5_3, kR_10_0, kR_11_0, kR_11_1, kR_11_2, kR_11_3, kR_16_0, kR_16_1, kR_17_0, kR_17_1, kR_21_0, kR_21_1, kR_21_2, kR_21_3, kR_26_0, kR_26_1, kR_29_0, kR_29_1, kR_32_0, kR_32_1, kR_35_0, kR_35_1, kR_39_0, kR_41_0, kR_43_0, kR_45_0, kR_47_0, kR_49_0, kR_51_0, kR_53_0, kR_55_0, kR_57_0, kR_59_0, kR_59_1, kR_60_0, kR_60_1, kR_64_0, kR_64_1, kR_65_0, kR_65_1, kR_69_0, kR_69_1, kR_70_0, kR_70_1, kR_74_0, kR_74_1, kR_74_2, kR_74_3, kR_74_4, kR_74_5, kR_74_6, kR_74_7, kR_74_8, kR_74_9, kR_74_13, kR_74_17, kR_74_24, kR_74_25, kR_74_26, kR_74_27, kR_74_28, kR_74_34, kR_74_35, kR_74_36, kL_1_11, kL_1_12, kL_74_15, kL_74_16, kK_39_1, kK_41_1, kK_43_1, kK_45_1, kK_47_1, kK_49_1, kK_51_1, kK_53_1, kK_55_1, kK_57_1, kA_6, kA_7, kA_8, kA_9, kA_12, kA_13, kA_14, kA_15, kA_18, kA_19, kA_20, kA_23, kA_24, kA_25, kA_27, kA_28, kA_30, kA_31, kA_33, kA_34, kA_36, kA_37, kA_38, kA_40, kA_42, kA_44, kA_46, kA_48, kA_50, kA_52, kA_54, kA_56, kA_58, kA_61, kA_62, kA_63, kA_66, kA_67, kA_68, kA_71, kA_72, kA_73, kA_75, kA_76, kA_77, kA_78, kA_79, kA_80, kA_81, kA_82, kA_83, kA_84, kA_85, kA_86, kA_87, kA_88, kA_89, kA_90, kA_91, kA_92, kA_93, kA_94, kQ_2, kQ_3, kQ_4, kQ_22, kC_1, kC_5, kC_10, kC_11, kC_16, kC_17, kC_21, kC_26, kC_29, kC_32, kC_35, kC_39, kC_41, kC_43, kC_45, kC_47, kC_49, kC_51, kC_53, kC_55, kC_57, kC_59, kC_60, kC_64, kC_65, kC_69, kC_70, kC_74, g4, c1, nI_p1, em, a1, r1]
theorem play_head {m n r d f : Nat} {q : QT} {H : HT} (hm6 : m ≤ 6) (hv : QV m q) (hn : n ≤ 3) (hR : r = 0 ∨ (r ≠ 0 ∧ PlayT B m q n r (P_X6_playTurn f))) (hd : d + (r + 1) = n) (hW : HW (40 + d) m H) (D : DT) (hF : XF D 5 m q) (h4 : fI D 21 4 = nI n) (hX : XH D (26 + 3 * d) m q H) : ∃ D', P_X6_playTurn (f + 1) 21 5 (nI d) (hp B D) = some (mmx q (prs m) (r + 1) d H, hp B D') ∧ Off (Tpt d) D D' := by
  have c1 : ¬ nI d < 0 := fun z => by
    have := (nI_ltI (b := 0) (by omega) (by omega)).mp z
    omega
  have c2 : ¬ nI n ≤ nI d := nI_ge (by omega) (by omega)
  have c3 : nI d < 3 := (nI_ltI (b := 3) (by omega) (by omega)).mpr (by omega)
  have ne2 : ¬ (2 : Int32) = 0 := by decide
  have m2 : nI d % 2 = nI (d % 2) := nI_mod (b := 2) (by omega) (by omega)
  have z2 : (nI (d % 2) = 0) = (d % 2 = 0) := nI_z (by omega)
  have n10 : ¬ (1 : Int32) = 0 := by decide
  obtain ⟨D', r1, r2⟩ := play_out (B := B) (R := P_X6_playTurn f) hm6 hv hn hR hd hW 4000 m D (mmi d) (by omega) (Nat.le_refl _) hF h4 hX
  rw [Nat.sub_self, nI_0] at r1
  refine ⟨D', ?_, r2⟩
  rw [show mmx q (prs m) (r + 1) d H = (ri m m).foldl (fun v c => mmf d v (mmx q (prs m) r (d + 1) (wat q H (c / 10) (c % 10)))) (mmi d) from rfl, ← r1]
  by_cases hp2 : d % 2 = 0
  · rw [show wmc d = 1 from if_pos hp2, show mmi d = -1 from if_pos hp2]
    simp only [P_X6_playTurn, pureM_hp, ifB_t, ifB_f, decide_true, decide_false, ifB_hp, jn_hp, retZ_0, retZ_1, thn_some, cll0_w, cllV_w, getI_w, getL_w, getR_w, setI_w, setZ_w0, setZ_w1, setL_w, ald_w, ast_w, alen_w, aldR_2, aldR_3, aldR_4, aldR_22, cll0_pure, ↓reduceIte, if_true, if_false, Bool.false_eq_true, reduceCtorEq, and_true, true_and, and_false, false_and, ite_self, kI_1_9, kI_1_10, kI_5_4, kI_5_5, kI_5_6, kI_10_1, kI_11_4, kI_11_5, kI_11_6, kI_16_2, kI_16_3, kI_16_4, kI_16_5, kI_16_6, kI_17_2, kI_17_3, kI_21_4, kI_21_5, kI_21_6, kI_21_7, kI_21_8, kI_21_9, kI_21_10, kI_21_11, kI_26_2, kI_26_3, kI_29_2, kI_29_3, kI_32_2, kI_32_3, kI_35_2, kI_39_2, kI_39_3, kI_41_2, kI_41_3, kI_43_2, kI_43_3, kI_45_2, kI_45_3, kI_47_2, kI_47_3, kI_49_2, kI_49_3, kI_51_2, kI_51_3, kI_53_2, kI_53_3, kI_55_2, kI_55_3, kI_57_2, kI_57_3, kI_59_2, kI_59_3, kI_59_4, kI_59_5, kI_59_6, kI_60_2, kI_60_3, kI_64_2, kI_64_3, kI_64_4, kI_64_5, kI_64_6, kI_65_2, kI_65_3, kI_69_2, kI_69_3, kI_69_4, kI_69_5, kI_69_6, kI_70_2, kI_70_3, kI_74_10, kI_74_11, kI_74_12, kI_74_14, kI_74_18, kI_74_19, kI_74_20, kI_74_21, kI_74_22, kI_74_23, kI_74_29, kI_74_30, kI_74_31, kI_74_32, kI_74_33, kR_1_0, kR_1_1, kR_1_2, kR_1_3, kR_1_4, kR_1_5, kR_1_6, kR_1_7, kR_1_8, kR_5_0, kR_5_1, kR_5_2, kR_5_3, kR_10_0, kR_11_0, kR_11_1, kR_11_2, kR_11_3, kR_16_0, kR_16_1, kR_17_0, kR_17_1, kR_21_0, kR_21_1, kR_21_2, kR_21_3, kR_26_0, kR_26_1, kR_29_0, kR_29_1, kR_32_0, kR_32_1, kR_35_0, kR_35_1, kR_39_0, kR_41_0, kR_43_0, kR_45_0, kR_47_0, kR_49_0, kR_51_0, kR_53_0, kR_55_0, kR_57_0, kR_59_0, kR_59_1, kR_60_0, kR_60_1, kR_64_0, kR_64_1, kR_65_0, kR_65_1, kR_69_0, kR_69_1, kR_70_0, kR_70_1, kR_74_0, kR_74_1, kR_74_2, kR_74_3, kR_74_4, kR_74_5, kR_74_6, kR_74_7, kR_74_8, kR_74_9, kR_74_13, kR_74_17, kR_74_24, kR_74_25, kR_74_26, kR_74_27, kR_74_28, kR_74_34, kR_74_35, kR_74_36, kL_1_11, kL_1_12, kL_74_15, kL_74_16, kK_39_1, kK_41_1, kK_43_1, kK_45_1, kK_47_1, kK_49_1, kK_51_1, kK_53_1, kK_55_1, kK_57_1, kA_6, kA_7, kA_8, kA_9, kA_12, kA_13, kA_14, kA_15, kA_18, kA_19, kA_20, kA_23, kA_24, kA_25, kA_27, kA_28, kA_30, kA_31, kA_33, kA_34, kA_36, kA_37, kA_38, kA_40, kA_42, kA_44, kA_46, kA_48, kA_50, kA_52, kA_54, kA_56, kA_58, kA_61, kA_62, kA_63, kA_66, kA_67, kA_68, kA_71, kA_72, kA_73, kA_75, kA_76, kA_77, kA_78, kA_79, kA_80, kA_81, kA_82, kA_83, kA_84, kA_85, kA_86, kA_87, kA_88, kA_89, kA_90, kA_91, kA_92, kA_93, kA_94, kQ_2, kQ_3, kQ_4, kQ_22, kC_1, kC_5, kC_10, kC_11, kC_16, kC_17, kC_21, kC_26, kC_29, kC_32, kC_35, kC_39, kC_41, kC_43, kC_45, kC_47, kC_49, kC_51, kC_53, kC_55, kC_57, kC_59, kC_60, kC_64, kC_65, kC_69, kC_70, kC_74, c1, h4, c2, c3, remI_hp _ _ _ ne2, m2, hp2, show (nI 0 = 0) = True from eq_true rfl, not_true_eq_false, n10]
  · rw [show wmc d = 0 from if_neg hp2, show mmi d = 61 from if_neg hp2]
    simp only [P_X6_playTurn, pureM_hp, ifB_t, ifB_f, decide_true, decide_false, ifB_hp, jn_hp, retZ_0, retZ_1, thn_some, cll0_w, cllV_w, getI_w, getL_w, getR_w, setI_w, setZ_w0, setZ_w1, setL_w, ald_w, ast_w, alen_w, aldR_2, aldR_3, aldR_4, aldR_22, cll0_pure, ↓reduceIte, if_true, if_false, Bool.false_eq_true, reduceCtorEq, and_true, true_and, and_false, false_and, ite_self, kI_1_9, kI_1_10, kI_5_4, kI_5_5, kI_5_6, kI_10_1, kI_11_4, kI_11_5, kI_11_6, kI_16_2, kI_16_3, kI_16_4, kI_16_5, kI_16_6, kI_17_2, kI_17_3, kI_21_4, kI_21_5, kI_21_6, kI_21_7, kI_21_8, kI_21_9, kI_21_10, kI_21_11, kI_26_2, kI_26_3, kI_29_2, kI_29_3, kI_32_2, kI_32_3, kI_35_2, kI_39_2, kI_39_3, kI_41_2, kI_41_3, kI_43_2, kI_43_3, kI_45_2, kI_45_3, kI_47_2, kI_47_3, kI_49_2, kI_49_3, kI_51_2, kI_51_3, kI_53_2, kI_53_3, kI_55_2, kI_55_3, kI_57_2, kI_57_3, kI_59_2, kI_59_3, kI_59_4, kI_59_5, kI_59_6, kI_60_2, kI_60_3, kI_64_2, kI_64_3, kI_64_4, kI_64_5, kI_64_6, kI_65_2, kI_65_3, kI_69_2, kI_69_3, kI_69_4, kI_69_5, kI_69_6, kI_70_2, kI_70_3, kI_74_10, kI_74_11, kI_74_12, kI_74_14, kI_74_18, kI_74_19, kI_74_20, kI_74_21, kI_74_22, kI_74_23, kI_74_29, kI_74_30, kI_74_31, kI_74_32, kI_74_33, kR_1_0, kR_1_1, kR_1_2, kR_1_3, kR_1_4, kR_1_5, kR_1_6, kR_1_7, kR_1_8, kR_5_0, kR_5_1, kR_5_2, kR_5_3, kR_10_0, kR_11_0, kR_11_1, kR_11_2, kR_11_3, kR_16_0, kR_16_1, kR_17_0, kR_17_1, kR_21_0, kR_21_1, kR_21_2, kR_21_3, kR_26_0, kR_26_1, kR_29_0, kR_29_1, kR_32_0, kR_32_1, kR_35_0, kR_35_1, kR_39_0, kR_41_0, kR_43_0, kR_45_0, kR_47_0, kR_49_0, kR_51_0, kR_53_0, kR_55_0, kR_57_0, kR_59_0, kR_59_1, kR_60_0, kR_60_1, kR_64_0, kR_64_1, kR_65_0, kR_65_1, kR_69_0, kR_69_1, kR_70_0, kR_70_1, kR_74_0, kR_74_1, kR_74_2, kR_74_3, kR_74_4, kR_74_5, kR_74_6, kR_74_7, kR_74_8, kR_74_9, kR_74_13, kR_74_17, kR_74_24, kR_74_25, kR_74_26, kR_74_27, kR_74_28, kR_74_34, kR_74_35, kR_74_36, kL_1_11, kL_1_12, kL_74_15, kL_74_16, kK_39_1, kK_41_1, kK_43_1, kK_45_1, kK_47_1, kK_49_1, kK_51_1, kK_53_1, kK_55_1, kK_57_1, kA_6, kA_7, kA_8, kA_9, kA_12, kA_13, kA_14, kA_15, kA_18, kA_19, kA_20, kA_23, kA_24, kA_25, kA_27, kA_28, kA_30, kA_31, kA_33, kA_34, kA_36, kA_37, kA_38, kA_40, kA_42, kA_44, kA_46, kA_48, kA_50, kA_52, kA_54, kA_56, kA_58, kA_61, kA_62, kA_63, kA_66, kA_67, kA_68, kA_71, kA_72, kA_73, kA_75, kA_76, kA_77, kA_78, kA_79, kA_80, kA_81, kA_82, kA_83, kA_84, kA_85, kA_86, kA_87, kA_88, kA_89, kA_90, kA_91, kA_92, kA_93, kA_94, kQ_2, kQ_3, kQ_4, kQ_22, kC_1, kC_5, kC_10, kC_11, kC_16, kC_17, kC_21, kC_26, kC_29, kC_32, kC_35, kC_39, kC_41, kC_43, kC_45, kC_47, kC_49, kC_51, kC_53, kC_55, kC_57, kC_59, kC_60, kC_64, kC_65, kC_69, kC_70, kC_74, c1, h4, c2, c3, remI_hp _ _ _ ne2, m2, z2, hp2, not_false_eq_true]
theorem playT {m n : Nat} {q : QT} (hm6 : m ≤ 6) (hv : QV m q) (hn : n ≤ 3) : ∀ (r f : Nat), r + 1 ≤ f → PlayT B m q n (r + 1) (P_X6_playTurn f) := by
  intro r
  induction r with
  | zero =>
    intro f hf
    cases f with
    | zero => omega
    | succ f => exact fun d D H hd hW hF h4 hX => play_head hm6 hv hn (Or.inl rfl) hd hW D hF h4 hX
  | succ r ih =>
    intro f hf
    cases f with
    | zero => omega
    | succ f => exact fun d D H hd hW hF h4 hX => play_head hm6 hv hn (Or.inr ⟨by omega, ih f (by omega)⟩) hd hW D hF h4 hX
theorem x_byTurns {D : DT} {m n : Nat} {q : QT} {H : HT} (hm6 : m ≤ 6) (hv : QV m q) (hW : HW 40 m H) (hF : XF D 5 m q) (hX : XH D 17 m q H) (hn : n ≤ 3) : ∃ D', P_X6_byTurns 21 5 17 (nI n) (hp B D) = some (mmx q (prs m) n 0 H, hp B D') ∧ Off Tsx D D' := by
  obtain ⟨D1, a1, a2, a3⟩ := x_aside (B := B) hm6 hX
  obtain ⟨e1, e2⟩ := mm_n hn
  have oa : Off Tsx D D1 := a3.mono (fun a k z => Tho_sx (by omega) (by omega) z)
  have o1 : Off T21 D1 (uI D1 21 4 (nI n)) := (Off.refl D1).uI _ _ _ (show T21 21 4 from rfl)
  have f4 : fI (uI D1 21 4 (nI n)) 21 4 = nI n := by rw [fI_uI, if_pos ⟨rfl, rfl⟩]
  by_cases h0 : n = 0
  · subst h0
    refine ⟨uI D1 21 4 (nI 0), ?_, oa.trans (o1.mono (fun a k z => by unfold T21 at z; unfold Tsx; omega))⟩
    have s17 : fI (uI D1 21 4 0) 17 2 = H.1 := by rw [fI_uI, if_neg (by omega), (a3.1 17 2 (by unfold Tho; omega)).1]; exact hX.1
    have z0 : nI 0 = 0 := rfl
    have z1 : minI 0 3 = 0 := by decide
    have z2 : maxI 0 0 = 0 := by decide
    rw [z0] at f4
    rw [show mmx q (prs m) 0 0 H = H.1 from rfl]
    simp only [P_X6_byTurns, pureM_hp, ifB_t, ifB_f, decide_true, decide_false, ifB_hp, jn_hp, retZ_0, retZ_1, thn_some, cll0_w, cllV_w, getI_w, getL_w, getR_w, setI_w, setZ_w0, setZ_w1, setL_w, ald_w, ast_w, alen_w, aldR_2, aldR_3, aldR_4, aldR_22, cll0_pure, ↓reduceIte, if_true, if_false, Bool.false_eq_true, reduceCtorEq, and_true, true_and, and_false, false_and, ite_self, kI_1_9, kI_1_10, kI_5_4, kI_5_5, kI_5_6, kI_10_1, kI_11_4, kI_11_5, kI_11_6, kI_16_2, kI_16_3, kI_16_4, kI_16_5, kI_16_6, kI_17_2, kI_17_3, kI_21_4, kI_21_5, kI_21_6, kI_21_7, kI_21_8, kI_21_9, kI_21_10, kI_21_11, kI_26_2, kI_26_3, kI_29_2, kI_29_3, kI_32_2, kI_32_3, kI_35_2, kI_39_2, kI_39_3, kI_41_2, kI_41_3, kI_43_2, kI_43_3, kI_45_2, kI_45_3, kI_47_2, kI_47_3, kI_49_2, kI_49_3, kI_51_2, kI_51_3, kI_53_2, kI_53_3, kI_55_2, kI_55_3, kI_57_2, kI_57_3, kI_59_2, kI_59_3, kI_59_4, kI_59_5, kI_59_6, kI_60_2, kI_60_3, kI_64_2, kI_64_3, kI_64_4, kI_64_5, kI_64_6, kI_65_2, kI_65_3, kI_69_2, kI_69_3, kI_69_4, kI_69_5, kI_69_6, kI_70_2, kI_70_3, kI_74_10, kI_74_11, kI_74_12, kI_74_14, kI_74_18, kI_74_19, kI_74_20, kI_74_21, kI_74_22, kI_74_23, kI_74_29, kI_74_30, kI_74_31, kI_74_32, kI_74_33, kR_1_0, kR_1_1, kR_1_2, kR_1_3, kR_1_4, kR_1_5, kR_1_6, kR_1_7, kR_1_8, kR_5_0, kR_5_1, kR_5_2, kR_5_3, kR_10_0, kR_11_0, kR_11_1, kR_11_2, kR_11_3, kR_16_0, kR_16_1, kR_17_0, kR_17_1, kR_21_0, kR_21_1, kR_21_2, kR_21_3, kR_26_0, kR_26_1, kR_29_0, kR_29_1, kR_32_0, kR_32_1, kR_35_0, kR_35_1, kR_39_0, kR_41_0, kR_43_0, kR_45_0, kR_47_0, kR_49_0, kR_51_0, kR_53_0, kR_55_0, kR_57_0, kR_59_0, kR_59_1, kR_60_0, kR_60_1, kR_64_0, kR_64_1, kR_65_0, kR_65_1, kR_69_0, kR_69_1, kR_70_0, kR_70_1, kR_74_0, kR_74_1, kR_74_2, kR_74_3, kR_74_4, kR_74_5, kR_74_6, kR_74_7, kR_74_8, kR_74_9, kR_74_13, kR_74_17, kR_74_24, kR_74_25, kR_74_26, kR_74_27, kR_74_28, kR_74_34, kR_74_35, kR_74_36, kL_1_11, kL_1_12, kL_74_15, kL_74_16, kK_39_1, kK_41_1, kK_43_1, kK_45_1, kK_47_1, kK_49_1, kK_51_1, kK_53_1, kK_55_1, kK_57_1, kA_6, kA_7, kA_8, kA_9, kA_12, kA_13, kA_14, kA_15, kA_18, kA_19, kA_20, kA_23, kA_24, kA_25, kA_27, kA_28, kA_30, kA_31, kA_33, kA_34, kA_36, kA_37, kA_38, kA_40, kA_42, kA_44, kA_46, kA_48, kA_50, kA_52, kA_54, kA_56, kA_58, kA_61, kA_62, kA_63, kA_66, kA_67, kA_68, kA_71, kA_72, kA_73, kA_75, kA_76, kA_77, kA_78, kA_79, kA_80, kA_81, kA_82, kA_83, kA_84, kA_85, kA_86, kA_87, kA_88, kA_89, kA_90, kA_91, kA_92, kA_93, kA_94, kQ_2, kQ_3, kQ_4, kQ_22, kC_1, kC_5, kC_10, kC_11, kC_16, kC_17, kC_21, kC_26, kC_29, kC_32, kC_35, kC_39, kC_41, kC_43, kC_45, kC_47, kC_49, kC_51, kC_53, kC_55, kC_57, kC_59, kC_60, kC_64, kC_65, kC_69, kC_70, kC_74, a1, j_min, j_max, z1, z2, f4, z0, not_true_eq_false, s17]
  · obtain ⟨D2, b1, b2⟩ := playT (B := B) (q := q) hm6 hv hn (n - 1) 10 (by omega) 0 (uI D1 21 4 (nI n)) H (by omega) hW ((Tho_f hF a3 (by omega)).off o1 (by unfold T21; omega) (fun k q1 q2 => by unfold T21; omega)) f4 (XH.off a2 o1 (by unfold T21; omega) (by unfold T21; omega) (by unfold T21; omega) (by unfold T21; omega))
    rw [nI_0, show n - 1 + 1 = n by omega] at b1
    have nz : ¬ nI n = 0 := by rw [nI_z (by omega)]; exact h0
    refine ⟨D2, ?_, (oa.trans (o1.mono (fun a k z => by unfold T21 at z; unfold Tsx; omega))).trans (b2.mono (fun a k z => by unfold Tpt at z; unfold Tsx; omega))⟩
    simp only [P_X6_byTurns, pureM_hp, ifB_t, ifB_f, decide_true, decide_false, ifB_hp, jn_hp, retZ_0, retZ_1, thn_some, cll0_w, cllV_w, getI_w, getL_w, getR_w, setI_w, setZ_w0, setZ_w1, setL_w, ald_w, ast_w, alen_w, aldR_2, aldR_3, aldR_4, aldR_22, cll0_pure, ↓reduceIte, if_true, if_false, Bool.false_eq_true, reduceCtorEq, and_true, true_and, and_false, false_and, ite_self, kI_1_9, kI_1_10, kI_5_4, kI_5_5, kI_5_6, kI_10_1, kI_11_4, kI_11_5, kI_11_6, kI_16_2, kI_16_3, kI_16_4, kI_16_5, kI_16_6, kI_17_2, kI_17_3, kI_21_4, kI_21_5, kI_21_6, kI_21_7, kI_21_8, kI_21_9, kI_21_10, kI_21_11, kI_26_2, kI_26_3, kI_29_2, kI_29_3, kI_32_2, kI_32_3, kI_35_2, kI_39_2, kI_39_3, kI_41_2, kI_41_3, kI_43_2, kI_43_3, kI_45_2, kI_45_3, kI_47_2, kI_47_3, kI_49_2, kI_49_3, kI_51_2, kI_51_3, kI_53_2, kI_53_3, kI_55_2, kI_55_3, kI_57_2, kI_57_3, kI_59_2, kI_59_3, kI_59_4, kI_59_5, kI_59_6, kI_60_2, kI_60_3, kI_64_2, kI_64_3, kI_64_4, kI_64_5, kI_64_6, kI_65_2, kI_65_3, kI_69_2, kI_69_3, kI_69_4, kI_69_5, kI_69_6, kI_70_2, kI_70_3, kI_74_10, kI_74_11, kI_74_12, kI_74_14, kI_74_18, kI_74_19, kI_74_20, kI_74_21, kI_74_22, kI_74_23, kI_74_29, kI_74_30, kI_74_31, kI_74_32, kI_74_33, kR_1_0, kR_1_1, kR_1_2, kR_1_3, kR_1_4, kR_1_5, kR_1_6, kR_1_7, kR_1_8, kR_5_0, kR_5_1, kR_5_2, kR_5_3, kR_10_0, kR_11_0, kR_11_1, kR_11_2, kR_11_3, kR_16_0, kR_16_1, kR_17_0, kR_17_1, kR_21_0, kR_21_1, kR_21_2, kR_21_3, kR_26_0, kR_26_1, kR_29_0, kR_29_1, kR_32_0, kR_32_1, kR_35_0, kR_35_1, kR_39_0, kR_41_0, kR_43_0, kR_45_0, kR_47_0, kR_49_0, kR_51_0, kR_53_0, kR_55_0, kR_57_0, kR_59_0, kR_59_1, kR_60_0, kR_60_1, kR_64_0, kR_64_1, kR_65_0, kR_65_1, kR_69_0, kR_69_1, kR_70_0, kR_70_1, kR_74_0, kR_74_1, kR_74_2, kR_74_3, kR_74_4, kR_74_5, kR_74_6, kR_74_7, kR_74_8, kR_74_9, kR_74_13, kR_74_17, kR_74_24, kR_74_25, kR_74_26, kR_74_27, kR_74_28, kR_74_34, kR_74_35, kR_74_36, kL_1_11, kL_1_12, kL_74_15, kL_74_16, kK_39_1, kK_41_1, kK_43_1, kK_45_1, kK_47_1, kK_49_1, kK_51_1, kK_53_1, kK_55_1, kK_57_1, kA_6, kA_7, kA_8, kA_9, kA_12, kA_13, kA_14, kA_15, kA_18, kA_19, kA_20, kA_23, kA_24, kA_25, kA_27, kA_28, kA_30, kA_31, kA_33, kA_34, kA_36, kA_37, kA_38, kA_40, kA_42, kA_44, kA_46, kA_48, kA_50, kA_52, kA_54, kA_56, kA_58, kA_61, kA_62, kA_63, kA_66, kA_67, kA_68, kA_71, kA_72, kA_73, kA_75, kA_76, kA_77, kA_78, kA_79, kA_80, kA_81, kA_82, kA_83, kA_84, kA_85, kA_86, kA_87, kA_88, kA_89, kA_90, kA_91, kA_92, kA_93, kA_94, kQ_2, kQ_3, kQ_4, kQ_22, kC_1, kC_5, kC_10, kC_11, kC_16, kC_17, kC_21, kC_26, kC_29, kC_32, kC_35, kC_39, kC_41, kC_43, kC_45, kC_47, kC_49, kC_51, kC_53, kC_55, kC_57, kC_59, kC_60, kC_64, kC_65, kC_69, kC_70, kC_74, a1, j_min, j_max, e1, e2, f4, nz, not_false_eq_true, b1]
end DUEL
