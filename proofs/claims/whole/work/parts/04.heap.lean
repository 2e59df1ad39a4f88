/-! Rules of the heap: fields, arrays, new cells, switches, returns. -/
/-- a pool's entry that links a field: class's place, slot, type, final -/
def FR (own : String) (idx ci k : Nat) (ty : FieldType) (fin : Bool) : Prop :=
  ∃ (C : String) (T : u_T) (N : Nat) (t0 : Nat → FieldType), vwCl[ci]? = some (C, T, N) ∧ (∀ w ∈ u_ws C T N, w ∈ tALL) ∧ (∀ k, k < N → parseFieldDescriptor (T k).2.2.1 = some (t0 k)) ∧ (∀ a, a < N → ∀ b, b < N → a ≠ b → (T a).2.1 ≠ (T b).2.1) ∧ k < N ∧ parseFieldDescriptor (T k).2.2.1 = some ty ∧ (T k).2.2.2 = fin ∧ (Jvm.Cond.fieldLink own idx (T k).1 (T k).2.1 (T k).2.2.1 ∈ tALL ∨ ∃ host, Jvm.Cond.fieldLinkNest own idx (T k).1 (T k).2.1 (T k).2.2.1 host ∈ tNEST) ∧ (fin = true → (T k).1 = own ∧ Jvm.Cond.fieldLink own idx (T k).1 (T k).2.1 (T k).2.2.1 ∈ tALL)
/-- a link that is read alone -/
def FG (own : String) (idx ci k : Nat) : Prop :=
  ∃ (C : String) (T : u_T) (N : Nat), vwCl[ci]? = some (C, T, N) ∧ (∀ w ∈ u_ws C T N, w ∈ tALL) ∧ k < N ∧ (Jvm.Cond.fieldLink own idx (T k).1 (T k).2.1 (T k).2.2.1 ∈ tALL ∨ ∃ host, Jvm.Cond.fieldLinkNest own idx (T k).1 (T k).2.1 (T k).2.2.1 host ∈ tNEST)
theorem FR.g {own : String} {idx ci k : Nat} {ty : FieldType} {fin : Bool} (h : FR own idx ci k ty fin) : FG own idx ci k := by
  obtain ⟨C, T, N, t0, f1, f2, f3, f4, f5, f6, f7, f8, -⟩ := h
  exact ⟨C, T, N, f1, f2, f5, f8⟩
theorem celO_some {h : AH} {a : Nat} {c : ACell} (hc : celO h a = some c) : ∃ k, a = k + 1 ∧ k < h.1 ∧ h.2.2 (k + 1) = c := by
  unfold celO at hc
  split at hc
  · rename_i q
    cases hc
    exact ⟨a - 1, by omega, by omega, by rw [show a - 1 + 1 = a by omega]⟩
  · cases hc
theorem fld_some {ci k a : Nat} {h : AH} {v : Value} (hv : fld ci k h a = some v) : ∃ (j : Nat) (fs : List Value), a = j + 1 ∧ j < h.1 ∧ h.2.2 (j + 1) = .inl (ci, fs) ∧ fs[k]? = some v := by
  unfold fld at hv
  split at hv
  · rename_i c fs hc
    obtain ⟨j, h1, h2, h3⟩ := celO_some hc
    split at hv
    · rename_i e
      subst e
      exact ⟨j, fs, h1, h2, h3, hv⟩
    · cases hv
  · cases hv
section W0
variable {p : Program} {la : Launch} {e : Env} {R : Room} {s : State} {m : MethodId} {args : Array Value} {below : List Frame} {meth : Method} {c : Code} {H : Heap} {locs : List Loc} {cells slots : Nat} {Q : State → Prop} {cc : ByteArray} {pc : Nat} {ls : Array Slot} {rest : List Value} {X : Wx} {h : AH} {own : String}
theorem w_get (hx : p.tables.exec = Jvm.exec) (hb : c.code = cc) (hown : s.vm.findClass own = some m.cls) (hts : ∀ w ∈ tALL, w.before args s = true) (hKw : Kw X s) (hR : Rel X h H) {idx ci k a : Nat} (hf : FG own idx ci k) (hd : decode cc pc = .ok (.getfield idx, 3)) {v : Value} (hv : fld ci k h a = some v)
    (kk : W p la e R s m args below meth c H locs cells slots Q (F0 m (pc + 3) ls (cv X v :: rest))) : W p la e R s m args below meth c H locs cells slots Q (F0 m pc ls (.ref (ad X a) :: rest)) := by
  obtain ⟨j, fs, rfl, hj, hc, hk⟩ := fld_some hv
  obtain ⟨C, T, N, f1, f2, f5, f8⟩ := hf
  have he := wsO_at X h hj
  rw [hc] at he
  have hv2 : (fs.map (cv X))[k]? = some (cv X v) := by rw [List.getElem?_map, hk]; rfl
  rcases f8 with f8 | ⟨host, f8⟩
  · exact va_get hx hb hts f2 hown hKw.1 hR.2 j he f1 k f5 (hts _ f8) (fun _ z => z) hv2 hd kk
  · exact va_getN hx hb hts f2 hown hKw.1 hR.2 j he f1 k f5 (va_Nw.use rfl (hKw.2.1 _ f8)) (fun _ z => z) hv2 hd kk
theorem rel_set (hR : Rel X h H) {j : Nat} (hj : j < h.1) {c : ACell} {H1 : Heap} (hz : H1.size = H.size) (hP : va_P X.1 vwCl ((wsO X h).set j (X.2.2.2 + j, cvc X c)) H1) : Rel X (h.1, h.2.1, upA h.2.2 (j + 1) c) H1 := ⟨by rw [hz]; exact hR.1, by rw [← wsO_set X h hj c]; exact hP⟩
theorem w_put (hx : p.tables.exec = Jvm.exec) (hb : c.code = cc) (hown : s.vm.findClass own = some m.cls) (hts : ∀ w ∈ tALL, w.before args s = true) (hKw : Kw X s) (hR : Rel X h H) (hS : va_S (fun q => X.2.2.2 ≤ q) s.heap H locs) {idx ci k j : Nat} {ty : FieldType} {fin : Bool} (hf : FR own idx ci k ty fin) (hd : decode cc pc = .ok (.putfield idx, 3)) (hfin : fin = true → meth.name = "<init>") {fs : List Value} {v : Value} (hj : j < h.1) (hc : h.2.2 (j + 1) = .inl (ci, fs)) (hk : k < fs.length) (hn : narrow ty (cv X v) = cv X v) (hfit : fits ty (cv X v) = true)
    (kk : ∀ (H1 : Heap) (locs1 : List Loc), Rel X (h.1, h.2.1, upA h.2.2 (j + 1) (.inl (ci, fs.set k v))) H1 → va_S (fun q => X.2.2.2 ≤ q) s.heap H1 locs1 → W p la e R s m args below meth c H1 locs1 cells slots Q (F0 m (pc + 3) ls rest)) : W p la e R s m args below meth c H locs cells slots Q (F0 m pc ls (cv X v :: .ref (ad X (j + 1)) :: rest)) := by
  obtain ⟨C, T, N, t0, f1, f2, f3, f4, f5, f6, f7, f8, f9⟩ := hf
  have he := wsO_at X h hj
  rw [hc] at he
  have hl : k < (fs.map (cv X)).length := by simpa using hk
  have fin' : ∀ (H1 : Heap) (locs1 : List Loc), va_P X.1 vwCl ((wsO X h).set j (X.2.2.2 + j, .inr (ci, (fs.map (cv X)).set k (cv X v)))) H1 → va_D (fun q => X.2.2.2 ≤ q) ((wsO X h).set j (X.2.2.2 + j, .inr (ci, (fs.map (cv X)).set k (cv X v)))) → va_S (fun q => X.2.2.2 ≤ q) s.heap H1 locs1 → H1.size = H.size → W p la e R s m args below meth c H1 locs1 cells slots Q (F0 m (pc + 3) ls rest) := by
    intro H1 locs1 hP _ hS1 hz
    refine kk H1 locs1 (rel_set hR hj hz ?_) hS1
    show va_P X.1 vwCl ((wsO X h).set j (X.2.2.2 + j, .inr (ci, (fs.set k v).map (cv X)))) H1
    rw [List.map_set]
    exact hP
  cases fin with
  | false =>
    have hap := va_apart (own := own) hts f2 t0 f3 f4 hKw.1 f1
    obtain ⟨r, h1, cell, q1, q2, q3, q4⟩ := hR.2 j _ he
    have hr : r = (C, T, N) := Option.some.inj (h1.symm.trans f1)
    subst hr
    obtain ⟨hSl, hfc, kC, hkC, hkind⟩ := hKw.1.1 ci _ f1
    obtain ⟨cf, kf, fi, f, hi, hsl⟩ := hSl k f5
    have hlay := hts _ (f2 _ (u_in_lay f5))
    unfold u_lay at hlay
    rw [if_neg (by rw [f7]; decide)] at hlay
    have hst := (u_facts hfc hkC (u_lays hts f2 f5) hi).1
    have h6 := u_store hfc hkC hkind hlay hi f6 hn hfit
    have key : ∀ H' : Heap, H'[X.2.2.2 + j]? = some (cell.setSlot f.slot (cv X v)) → H'.size = H.size → (∀ q, q ≠ X.2.2.2 + j → H'[q]? = H[q]?) → W p la e R s m args below meth c H' (locs ++ [⟨X.2.2.2 + j, f.slot⟩]) cells slots Q (F0 m (pc + 3) ls rest) := by
      intro H' e1 e2 e3
      rw [hsl] at e1
      refine fin' H' _ (hR.2.set (wsO_D X h) he ⟨_, f1, t_OB.to (V := updV (vp_V (fs.map (cv X))) k (cv X v)) ⟨_, e1, q2, q3, t_set q4 hap f5 (cv X v)⟩ (fun j _ => vp_updV_set hl (cv X v) j)⟩ e3) ((wsO_D X h).set he) (hS.put e2 e3 (by show X.2.2.2 ≤ _; omega)) e2
    rcases f8 with f8 | ⟨host, f8⟩
    · exact W.putK hx hb (f := f) ⟨hown, hts _ f8, ⟨_, _, _, hi⟩, hst⟩ (by rw [q2]; exact h6) q1 q3 (by rw [hsl]; exact k2_hasslot (q4 k f5)) rfl rfl hd key
    · exact va_WputK hx hb hown (va_Nw.use rfl (hKw.2.1 _ f8)) hi hst (by rw [q2]; exact h6) q1 q3 (by rw [hsl]; exact k2_hasslot (q4 k f5)) rfl rfl hd key
  | true =>
    obtain ⟨g1, g2⟩ := f9 rfl
    have hap := va_apart (own := own) hts f2 t0 f3 f4 hKw.1 f1
    obtain ⟨r, h1, cell, q1, q2, q3, q4⟩ := hR.2 j _ he
    have hr : r = (C, T, N) := Option.some.inj (h1.symm.trans f1)
    subst hr
    obtain ⟨hSl, hfc, kC, hkC, hkind⟩ := hKw.1.1 ci _ f1
    obtain ⟨cf, kf, fi, f, hi, hsl⟩ := hSl k f5
    have hlay := hts _ (f2 _ (u_in_lay f5))
    unfold u_lay at hlay
    rw [if_pos f7] at hlay
    have hst := (u_facts hfc hkC (u_lays hts f2 f5) hi).1
    have hcf : m.cls = cf := by
      obtain ⟨_, _, c', _, _, _, -, -, hf', -, -, -, hown2, -⟩ := Cond.laysFinal_spec hlay
      have e1 : c' = cf := by have := hi.symm.trans hf'; simp at this; exact this.1.symm
      rw [g1] at hown2
      rw [← e1]; exact Option.some.inj (hown.symm.trans hown2)
    have h6 := u_fits hfc hkC hkind (Or.inr hlay) hi f6 hn hfit
    refine W.putFinK hx hb hown (hts _ g2) hi hst hcf (hfin rfl) (by rw [q2]; exact h6) q1 q3 (by rw [hsl]; exact k2_hasslot (q4 k f5)) rfl rfl hd fun H' e1 e2 e3 => ?_
    rw [hsl] at e1
    exact fin' H' _ (hR.2.set (wsO_D X h) he ⟨_, f1, t_OB.to (V := updV (vp_V (fs.map (cv X))) k (cv X v)) ⟨_, e1, q2, q3, t_set q4 hap f5 (cv X v)⟩ (fun j _ => vp_updV_set hl (cv X v) j)⟩ e3) ((wsO_D X h).set he) (hS.put e2 e3 (by show X.2.2.2 ≤ _; omega)) e2
end W0
