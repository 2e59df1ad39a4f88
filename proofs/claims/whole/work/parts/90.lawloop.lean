/-! The law's loop. -/
section LAWLOOP
variable {B : BT}
def good (B : BT) (r : Option (Int32 × AH)) : Prop := ∃ D, r = some (1, hp B D)
def AllG (B : BT) (h : AH) : List (PM Int32) → Prop
  | [] => True
  | A :: r => good B (A h) ∧ AllG B h r
theorem AllG.get {h : AH} : ∀ {l : List (PM Int32)} {k : Nat} {A : PM Int32}, AllG B h l → l[k]? = some A → good B (A h) := by
  intro l
  induction l with
  | nil => intro k A _ hk; simp at hk
  | cons a l ih =>
    intro k A hl hk
    cases k with
    | zero =>
      rw [List.getElem?_cons_zero] at hk
      cases hk
      exact hl.1
    | succ k =>
      rw [List.getElem?_cons_succ] at hk
      exact ih hl.2 hk
theorem swT_good {h : AH} {x : Int32} {lo : Int} {l : List (PM Int32)} {E : PM Int32} (hE : good B (E h)) (hl : AllG B h l) : good B (swT x lo l E h) := by
  unfold swT
  by_cases hx : x.toInt < lo
  · rw [if_pos hx]; exact hE
  · rw [if_neg hx]
    cases e : l[(x.toInt - lo).toNat]? with
    | none => exact hE
    | some A => exact hl.get e
variable {L : Nat} {xs : Nat → Int32}
theorem sld_hp {τ : Type} {i : Int32} (hi : 0 ≤ i.toInt ∧ i.toInt < L) (f : Int32 → PM τ) (h : AH) : sldM L xs i f h = f (xs i.toNatClampNeg) h := if_pos hi
theorem cs0 {D : DT} {P Q : PM Int32} (hO : OpA Int32 P Q) (hI : Inv D) {k : PM Int32} (hk : ∀ D, Inv D → good B (k (hp B D))) : good B (cllV 7 1 P (fun v => cllV 8 74 Q fun w => ifB (decide (v = w)) k (retZ 0)) (hp B D)) := by
  obtain ⟨v, D1, D2, e1, e2, e3⟩ := hO B D hI
  rw [cllV_w, if_pos kC_1, e1, thn_some, cllV_w, if_pos kC_74, e2, thn_some, ifB_hp, if_pos rfl]
  exact hk D2 e3
theorem csL {D : DT} {P Q : PM Int64} (hO : OpA Int64 P Q) (hI : Inv D) {k : PM Int32} (hk : ∀ D, Inv D → good B (k (hp B D))) : good B (cllV 7 1 P (fun v => cllV 8 74 Q fun w => ifB (decide (lg_cmp v w = 0)) k (retZ 0)) (hp B D)) := by
  obtain ⟨v, D1, D2, e1, e2, e3⟩ := hO B D hI
  rw [cllV_w, if_pos kC_1, e1, thn_some, cllV_w, if_pos kC_74, e2, thn_some, ifB_hp, if_pos ((lgc_eq v v).mpr rfl)]
  exact hk D2 e3
theorem cs1 {D : DT} {P Q : Int32 → PM Int32} (hO : ∀ a, OpA Int32 (P a) (Q a)) {i1 : Int32} (h1 : 0 ≤ i1.toInt ∧ i1.toInt < L) (hI : Inv D) {k : PM Int32} (hk : ∀ D, Inv D → good B (k (hp B D))) : good B (sldM L xs i1 (fun a => cllV 7 1 (P a) fun v => sldM L xs i1 fun b => cllV 8 74 (Q b) fun w => ifB (decide (v = w)) k (retZ 0)) (hp B D)) := by
  obtain ⟨v, D1, D2, e1, e2, e3⟩ := hO (xs i1.toNatClampNeg) B D hI
  rw [sld_hp h1, cllV_w, if_pos kC_1, e1, thn_some, sld_hp h1, cllV_w, if_pos kC_74, e2, thn_some, ifB_hp, if_pos rfl]
  exact hk D2 e3
theorem cs2 {D : DT} {P Q : Int32 → Int32 → PM Int32} (hO : ∀ a b, OpA Int32 (P a b) (Q a b)) {i1 i2 : Int32} (h1 : 0 ≤ i1.toInt ∧ i1.toInt < L) (h2 : 0 ≤ i2.toInt ∧ i2.toInt < L) (hI : Inv D) {k : PM Int32} (hk : ∀ D, Inv D → good B (k (hp B D))) : good B (sldM L xs i1 (fun a1 => sldM L xs i2 fun a2 => cllV 7 1 (P a1 a2) fun v => sldM L xs i1 fun b1 => sldM L xs i2 fun b2 => cllV 8 74 (Q b1 b2) fun w => ifB (decide (v = w)) k (retZ 0)) (hp B D)) := by
  obtain ⟨v, D1, D2, e1, e2, e3⟩ := hO (xs i1.toNatClampNeg) (xs i2.toNatClampNeg) B D hI
  rw [sld_hp h1, sld_hp h2, cllV_w, if_pos kC_1, e1, thn_some, sld_hp h1, sld_hp h2, cllV_w, if_pos kC_74, e2, thn_some, ifB_hp, if_pos rfl]
  exact hk D2 e3
theorem cs3 {D : DT} {P Q : Int32 → Int32 → Int32 → PM Int32} (hO : ∀ a b c, OpA Int32 (P a b c) (Q a b c)) {i1 i2 i3 : Int32} (h1 : 0 ≤ i1.toInt ∧ i1.toInt < L) (h2 : 0 ≤ i2.toInt ∧ i2.toInt < L) (h3 : 0 ≤ i3.toInt ∧ i3.toInt < L) (hI : Inv D) {k : PM Int32} (hk : ∀ D, Inv D → good B (k (hp B D))) : good B (sldM L xs i1 (fun a1 => sldM L xs i2 fun a2 => sldM L xs i3 fun a3 => cllV 7 1 (P a1 a2 a3) fun v => sldM L xs i1 fun b1 => sldM L xs i2 fun b2 => sldM L xs i3 fun b3 => cllV 8 74 (Q b1 b2 b3) fun w => ifB (decide (v = w)) k (retZ 0)) (hp B D)) := by
  obtain ⟨v, D1, D2, e1, e2, e3⟩ := hO (xs i1.toNatClampNeg) (xs i2.toNatClampNeg) (xs i3.toNatClampNeg) B D hI
  rw [sld_hp h1, sld_hp h2, sld_hp h3, cllV_w, if_pos kC_1, e1, thn_some, sld_hp h1, sld_hp h2, sld_hp h3, cllV_w, if_pos kC_74, e2, thn_some, ifB_hp, if_pos rfl]
  exact hk D2 e3
theorem cs4 {D : DT} {P Q : Int32 → Int32 → Int32 → Int32 → PM Int32} (hO : ∀ a b c d, OpA Int32 (P a b c d) (Q a b c d)) {i1 i2 i3 i4 : Int32} (h1 : 0 ≤ i1.toInt ∧ i1.toInt < L) (h2 : 0 ≤ i2.toInt ∧ i2.toInt < L) (h3 : 0 ≤ i3.toInt ∧ i3.toInt < L) (h4 : 0 ≤ i4.toInt ∧ i4.toInt < L) (hI : Inv D) {k : PM Int32} (hk : ∀ D, Inv D → good B (k (hp B D))) : good B (sldM L xs i1 (fun a1 => sldM L xs i2 fun a2 => sldM L xs i3 fun a3 => sldM L xs i4 fun a4 => cllV 7 1 (P a1 a2 a3 a4) fun v => sldM L xs i1 fun b1 => sldM L xs i2 fun b2 => sldM L xs i3 fun b3 => sldM L xs i4 fun b4 => cllV 8 74 (Q b1 b2 b3 b4) fun w => ifB (decide (v = w)) k (retZ 0)) (hp B D)) := by
  obtain ⟨v, D1, D2, e1, e2, e3⟩ := hO (xs i1.toNatClampNeg) (xs i2.toNatClampNeg) (xs i3.toNatClampNeg) (xs i4.toNatClampNeg) B D hI
  rw [sld_hp h1, sld_hp h2, sld_hp h3, sld_hp h4, cllV_w, if_pos kC_1, e1, thn_some, sld_hp h1, sld_hp h2, sld_hp h3, sld_hp h4, cllV_w, if_pos kC_74, e2, thn_some, ifB_hp, if_pos rfl]
  exact hk D2 e3
theorem cs5 {D : DT} {P Q : Int32 → Int32 → Int32 → Int32 → Int32 → PM Int32} (hO : ∀ a b c d e, OpA Int32 (P a b c d e) (Q a b c d e)) {i1 i2 i3 i4 i5 : Int32} (h1 : 0 ≤ i1.toInt ∧ i1.toInt < L) (h2 : 0 ≤ i2.toInt ∧ i2.toInt < L) (h3 : 0 ≤ i3.toInt ∧ i3.toInt < L) (h4 : 0 ≤ i4.toInt ∧ i4.toInt < L) (h5 : 0 ≤ i5.toInt ∧ i5.toInt < L) (hI : Inv D) {k : PM Int32} (hk : ∀ D, Inv D → good B (k (hp B D))) : good B (sldM L xs i1 (fun a1 => sldM L xs i2 fun a2 => sldM L xs i3 fun a3 => sldM L xs i4 fun a4 => sldM L xs i5 fun a5 => cllV 7 1 (P a1 a2 a3 a4 a5) fun v => sldM L xs i1 fun b1 => sldM L xs i2 fun b2 => sldM L xs i3 fun b3 => sldM L xs i4 fun b4 => sldM L xs i5 fun b5 => cllV 8 74 (Q b1 b2 b3 b4 b5) fun w => ifB (decide (v = w)) k (retZ 0)) (hp B D)) := by
  obtain ⟨v, D1, D2, e1, e2, e3⟩ := hO (xs i1.toNatClampNeg) (xs i2.toNatClampNeg) (xs i3.toNatClampNeg) (xs i4.toNatClampNeg) (xs i5.toNatClampNeg) B D hI
  rw [sld_hp h1, sld_hp h2, sld_hp h3, sld_hp h4, sld_hp h5, cllV_w, if_pos kC_1, e1, thn_some, sld_hp h1, sld_hp h2, sld_hp h3, sld_hp h4, sld_hp h5, cllV_w, if_pos kC_74, e2, thn_some, ifB_hp, if_pos rfl]
  exact hk D2 e3
theorem law_loop (hL : L ≤ 384) : ∀ (F q : Nat) (D : DT), q ≤ L + 6 → L + 12 < q + 6 * F → Inv D → good B (P_L_law_18 L xs 1 74 F (nI q) (hp B D)) := by
  intro F
  induction F with
  | zero => intro q D h1 h2; omega
  | succ F ih =>
    intro q D h1 h2 hI
    have tq := nI_toInt (show q < 2 ^ 31 by omega)
    have tL := nI_toInt (show L < 2 ^ 31 by omega)
    have e6 : (6 : Int32).toInt = 6 := rfl
    have tS : (nI L - 6).toInt = (L : Int) - 6 := by rw [sub_s (by rw [tL, e6]; omega), tL, e6]
    unfold P_L_law_18
    rw [show Int32.ofNat L = nI L from rfl, ifB_hp]
    by_cases hq : (L : Int) - 6 < q
    · rw [if_pos (by rw [lt_i, tS, tq]; exact hq)]
      exact ⟨D, rfl⟩
    · rw [if_neg (by rw [lt_i, tS, tq]; exact hq)]
      have ix : ∀ d : Nat, d < 6 → 0 ≤ (nI q + nI d).toInt ∧ (nI q + nI d).toInt < L := fun d hd => by
        rw [nI_add, nI_toInt (by omega)]
        omega
      have i0' : 0 ≤ (nI q).toInt ∧ (nI q).toInt < L := by rw [tq]; omega
      have i1 : 0 ≤ (nI q + 1).toInt ∧ (nI q + 1).toInt < L := ix 1 (by omega)
      have i2 : 0 ≤ (nI q + 2).toInt ∧ (nI q + 2).toInt < L := ix 2 (by omega)
      have i3 : 0 ≤ (nI q + 3).toInt ∧ (nI q + 3).toInt < L := ix 3 (by omega)
      have i4 : 0 ≤ (nI q + 4).toInt ∧ (nI q + 4).toInt < L := ix 4 (by omega)
      have i5 : 0 ≤ (nI q + 5).toInt ∧ (nI q + 5).toInt < L := ix 5 (by omega)
      rw [sld_hp i0', jn_hp]
      have hk : ∀ D, Inv D → good B (P_L_law_18 L xs 1 74 F (nI q + 6) (hp B D)) := fun D' hI' => by
        rw [show nI q + 6 = nI (q + 6) from nI_add q 6]
        exact ih (q + 6) D' (by omega) (by omega) hI'
      generalize P_L_law_18 L xs 1 74 F (nI q + 6) = k at hk
      refine swT_good (hk D hI) ⟨?_, ?_, ?_, ?_, ?_, ?_, ?_, ?_, ?_, ?_, ?_, ?_, ?_, ?_, ?_, ?_, ?_, ?_, ?_, ?_, ?_, ?_, ?_, ?_, ?_, ?_, ?_, ?_, ?_, ?_, ?_, ?_, ?_, ?_, ?_, ?_, ?_, ?_, ?_, ?_, trivial⟩
      · exact cs2 (fun a b => op_row a b) i1 i2 hI hk
      · exact cs3 (fun a b c => op_lay a b c) i1 i2 i3 hI hk
      · exact cs2 (fun a b => op_at a b) i1 i2 hI hk
      · exact cs1 (fun a => op_tear a) i1 hI hk
      · exact cs5 (fun a b c d e => op_copy a b c d e) i1 i2 i3 i4 i5 hI hk
      · exact cs1 (fun a => op_mean a) i1 hI hk
      · exact cs2 (fun a b => op_text a b) i1 i2 hI hk
      · exact cs3 (fun a b c => op_put a b c) i1 i2 i3 hI hk
      · exact cs1 (fun a => op_fault a) i1 hI hk
      · exact cs1 (fun a => op_bridge a) i1 hI hk
      · exact cs2 (fun a b => op_one a b) i1 i2 hI hk
      · exact cs2 (fun a b => op_mark a b) i1 i2 hI hk
      · exact cs2 (fun a b => op_talk a b) i1 i2 hI hk
      · exact cs2 (fun a b => op_watch a b) i1 i2 hI hk
      · exact cs1 (fun a => op_load a) i1 hI hk
      · exact cs1 (fun a => op_coffee a) i1 hI hk
      · exact cs1 (fun a => op_undo a) i1 hI hk
      · exact cs1 (fun a => op_keep a) i1 hI hk
      · exact cs1 (fun a => op_on a) i1 hI hk
      · exact cs2 (fun a b => op_best a b) i1 i2 hI hk
      · exact cs1 (fun a => op_through a) i1 hI hk
      · exact cs2 (fun a b => op_when a b) i1 i2 hI hk
      · exact cs1 (fun a => op_bear a) i1 hI hk
      · exact cs1 (fun a => op_sagged a) i1 hI hk
      · exact cs1 (fun a => op_sure a) i1 hI hk
      · exact cs2 (fun a b => op_lasts a b) i1 i2 hI hk
      · exact cs2 (fun a b => op_kinds a b) i1 i2 hI hk
      · exact cs2 (fun a b => op_test a b) i1 i2 hI hk
      · exact cs1 (fun a => op_pairs a) i1 hI hk
      · exact cs1 (fun a => op_duel a) i1 hI hk
      · exact cs4 (fun a b c d => op_odds a b c d) i1 i2 i3 i4 hI hk
      · exact cs3 (fun a b c => op_mid a b c) i1 i2 i3 hI hk
      · exact cs2 (fun a b => op_lots a b) i1 i2 hI hk
      · exact cs0 op_asked hI hk
      · exact csL op_upper hI hk
      · exact csL op_lower hI hk
      · exact cs1 (fun a => op_count a) i1 hI hk
      · exact cs0 op_finding hI hk
      · exact cs1 (fun a => op_findings a) i1 hI hk
      · exact csL op_digest hI hk
end LAWLOOP
