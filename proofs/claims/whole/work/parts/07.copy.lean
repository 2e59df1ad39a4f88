/-! System.arraycopy of ints; the law's script. -/
section COPY
variable {Γ : Cx} {cc : ByteArray} {own : String} {d : Nat} {nm : String} {τ σ : Type} {inj : τ → Option Value} {P A B : PM τ} {pc pc' tgt : Nat} {l l' : List (Option Value)} {st : List Value}
theorem nneg {z : Int32} (hz : ¬ z < 0) : z.toInt = (z.toNatClampNeg : Int) := by
  have h0 : (0 : Int) ≤ z.toInt := by simpa using Int32.le_iff_toInt_le.mp (Int32.not_lt.mp hz)
  show z.toInt = ((z.toInt.toNat : Nat) : Int)
  omega
set_option maxHeartbeats 4000000 in
theorem sw_cpy (ok : OKc Γ cc own d nm) {idx a b : Nat} {sp dp n : Int32} (hw1 : Jvm.Cond.methodLink own idx arraycopyName ∈ tALL) (hw2 : Jvm.Cond.native arraycopyName ∈ tALL) (hw3 : Jvm.Cond.static arraycopyName ∈ tALL) (hw4 : Jvm.Cond.initialized "java/lang/System" ∈ tALL) (hd0 : 1 ≤ d) (hd : decode cc pc = .ok (.invokestatic idx, 3)) (hst : (st.map fun v => v.category).sum ≤ 8) (hp : pc + 3 = pc') (kk : SW Γ inj pc' l st P) : SW Γ inj pc l (.int n :: .int dp :: .ref b :: .int sp :: .ref a :: st) (cpyA a sp b dp n P) := by
  obtain ⟨p, la, e, R, s, m, args, below, meth, c, X, c0, s0, Q, hF, rF⟩ := Γ
  obtain ⟨hx, hb, hown, hts, hKw, hbs, hfr, hlo, hcl, hsl, hnm⟩ := ok
  subst hp
  intro h x H locs ls cells slots h1 h2 h3 h4 h5 h6 h7 h8 h9 h10
  unfold cpyA at h1
  split at h1
  · rename_i n0 f n1 g hca hcb
    obtain ⟨ja, rfl, hja, hca⟩ := celO_some hca
    obtain ⟨jb, rfl, hjb, hcb⟩ := celO_some hcb
    split at h1
    · rename_i q
      obtain ⟨q1, q2, q3, q4, q5⟩ := q
      have ha0 := wsO_at X h hja
      rw [hca] at ha0
      have ha1 := wsO_at X h hjb
      rw [hcb] at ha1
      intro T hT XX
      have hc0 : H[X.2.2.2 + ja]? = some (vp_cell (X.2.1 0) (n0, .inl f)) := h3.2 ja _ ha0
      have hc1 : H[X.2.2.2 + jb]? = some (vp_cell (X.2.1 0) (n1, .inl g)) := h3.2 jb _ ha1
      obtain ⟨-, k0, hk0, cm0, hkk0⟩ := (hKw.1.2 0 _ rfl).1 n0 (fun j => .int (f j))
      have e1 : copied (vp_cell (X.2.1 0) (n0, .inl f)) (vp_cell (X.2.1 0) (n1, .inl g)) sp dp n = vp_cell (X.2.1 0) (n1, .inl (va_cpy f g sp.toNatClampNeg dp.toNatClampNeg n.toNatClampNeg)) := va_copied (fun z => .int z) (X.2.1 0) (X.2.1 0) f g q4
      have hsum : (List.map (fun v => v.category) (st.map (cv X))).sum ≤ 8 := by rw [cv_sum]; exact hst
      have hwords : 2 * 0 + (List.map (fun v => v.category) (st.map (cv X))).sum + (nativeFrameWords "java/lang/System" "arraycopy" 5 + 11) ≤ R.locals := by
        have hnw : nativeFrameWords "java/lang/System" "arraycopy" 5 = 7 := rfl
        rw [hnw]
        omega
      obtain ⟨vm', X', step⟩ := XX.arraycopy hx hown (hts _ hw1) (hts _ hw2) (hts _ hw3) (hts _ hw4) (src := X.2.2.2 + ja) (dst := X.2.2.2 + jb) (cs := vp_cell (X.2.1 0) (n0, .inl f)) (cd := vp_cell (X.2.1 0) (n1, .inl g)) (srcPos := sp) (destPos := dp) (n := n) (by rw [hT]; exact hc0) (by rw [hT]; exact hc1)
        (fun _ h => by cases h) (fun _ h => by cases h) (fun h => by cases h) (fun h => by cases h) hk0 hk0 hkk0 hkk0 (by simp [refKind]) q1 q2 q3
        (by rw [nneg q1, nneg q3]; show ¬ _ > ((arrV _ n0 (fun j => .int (f j))).slots.size : Int); rw [arrV_size]; omega)
        (by rw [nneg q2, nneg q3]; show ¬ _ > ((arrV _ n1 (fun j => .int (g j))).slots.size : Int); rw [arrV_size]; omega)
        (fun vm₁ _ i hi => by
          have e2 : (vp_cell (X.2.1 0) (n0, .inl f)).slots.getD (sp.toNatClampNeg + i) .null = .int (f (sp.toNatClampNeg + i)) := by
            show (arrV _ n0 (fun j => .int (f j))).slots.getD _ _ = _
            rw [Array.getD_eq_getD_getElem?, arrV_read _ _ (by omega)]
            rfl
          refine ⟨?_, ?_⟩
          · rw [e2]
            rfl
          · rw [e2]
            exact trivial)
        (g := F0 m pc ls (.int n :: .int dp :: .ref (X.2.2.2 + jb) :: .int sp :: .ref (X.2.2.2 + ja) :: st.map (cv X))) rfl h6 (rest := st.map (cv X)) rfl (by rw [hb]; exact hd) (by omega) hwords
      rw [e1] at X' step
      have hl : X.2.2.2 + jb < H.size := (Array.getElem?_eq_some_iff.mp hc1).1
      generalize hnew : vp_cell (X.2.1 0) (n1, .inl (va_cpy f g sp.toNatClampNeg dp.toNatClampNeg n.toNatClampNeg)) = nc at X' step
      have hheap : ((T.setVm vm').setCell (X.2.2.2 + jb) nc).heap = H.setIfInBounds (X.2.2.2 + jb) nc := by rw [← hT]; rfl
      have oq : ∀ q : Nat, q ≠ X.2.2.2 + jb → (H.setIfInBounds (X.2.2.2 + jb) nc)[q]? = H[q]? := fun q hq => by simp [Array.getElem?_setIfInBounds, Ne.symm hq]
      have hR := rel_set (c := .inr (.inl (n1, va_cpy f g sp.toNatClampNeg dp.toNatClampNeg n.toNatClampNeg))) h3 hjb (H1 := H.setIfInBounds (X.2.2.2 + jb) nc) (by simp) (h3.2.set (wsO_D X h) ha1 (by show (H.setIfInBounds (X.2.2.2 + jb) nc)[X.2.2.2 + jb]? = some (vp_cell _ _); rw [hnew]; simp [Array.getElem?_setIfInBounds, hl]) oq)
      obtain ⟨t, a1, b1⟩ := kk _ x _ _ ls cells slots h1 h2 hR ⟨by simp; exact h4.1, fun q g1 g2 => by
          rw [oq q (fun e => g2 (by rw [e]; show X.2.2.2 ≤ _; omega))]
          exact h4.2.1 q g1 g2, fun q hq => by
          rcases List.mem_append.mp hq with h | h
          · exact h4.2.2 q h
          · obtain ⟨z, -, hz⟩ := List.mem_map.mp h
            rw [← hz]
            show X.2.2.2 ≤ X.2.2.2 + jb
            omega⟩ h5 h6 h7 h8 h9 h10 _ hheap X'
      exact ⟨t, step t a1, b1⟩
    · cases h1
  · cases h1
/-- the script, at the cell of the launch -/
def OKs (Γ : Cx) (L : Nat) (xs : Nat → Int32) : Prop := match Γ with
  | (p, la, e, R, s, m, args, below, meth, c, X, c0, s0, Q, hF, rF) => va_X X.2.2.1 L xs s s.heap ∧ X.2.2.1 < s.heap.size ∧ ¬ X.2.2.2 ≤ X.2.2.1
theorem sw_sld (ok : OKc Γ cc own d nm) {L : Nat} {xs : Nat → Int32} (oks : OKs Γ L xs) {i : Int32} (hd : decode cc pc = .ok (.iaload, 1)) (hp : pc + 1 = pc') {f : Int32 → PM τ} (kk : ∀ v : Int32, SW Γ inj pc' l (.int v :: st) (f v)) : SW Γ inj pc l (.int i :: .ref 0 :: st) (sldM L xs i f) := by
  obtain ⟨p, la, e, R, s, m, args, below, meth, c, X, c0, s0, Q, hF, rF⟩ := Γ
  obtain ⟨hx, hb, hown, hts, hKw, hbs, hfr, hlo, hcl, hsl, hnm⟩ := ok
  obtain ⟨o1, o2, o3⟩ := oks
  subst hp
  intro h x H locs ls cells slots h1 h2 h3 h4 h5 h6 h7 h8 h9 h10
  unfold sldM at h1
  split at h1
  · rename_i q
    exact va_sld hx hb o1 o2 o3 h4 (inr_vp q) hd (kk _ h x H locs ls cells slots h1 h2 h3 h4 h5 h6 h7 h8 h9 h10)
  · cases h1
theorem sw_slen (ok : OKc Γ cc own d nm) {L : Nat} {xs : Nat → Int32} (oks : OKs Γ L xs) (hd : decode cc pc = .ok (.arraylength, 1)) (hp : pc + 1 = pc') (kk : SW Γ inj pc' l (.int (Int32.ofNat L) :: st) P) : SW Γ inj pc l (.ref 0 :: st) P := by
  obtain ⟨p, la, e, R, s, m, args, below, meth, c, X, c0, s0, Q, hF, rF⟩ := Γ
  obtain ⟨hx, hb, hown, hts, hKw, hbs, hfr, hlo, hcl, hsl, hnm⟩ := ok
  obtain ⟨o1, o2, o3⟩ := oks
  subst hp
  intro h x H locs ls cells slots h1 h2 h3 h4 h5 h6 h7 h8 h9 h10
  exact va_slen hx hb o1 o2 o3 h4 hd (kk h x H locs ls cells slots h1 h2 h3 h4 h5 h6 h7 h8 h9 h10)
end COPY
