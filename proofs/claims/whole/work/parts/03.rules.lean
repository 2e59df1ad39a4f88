/-! The judgement SW: at this place of the code, with these locals and this stack, the machine does what the program says. -/
abbrev Cx : Type := Program × Launch × Env × Room × State × MethodId × Array Value × List Frame × Method × Code × Wx × Nat × Nat × (State → Prop) × AH × Option Value
def SW (Γ : Cx) {τ : Type} (inj : τ → Option Value) (pc : Nat) (l : List (Option Value)) (st : List Value) (P : PM τ) : Prop :=
  match Γ with
  | (p, la, e, R, s, m, args, below, meth, c, X, c0, s0, Q, hF, rF) => ∀ (h : AH) (x : τ) (H : Heap) (locs : List Loc) (ls : Array Slot) (cells slots : Nat), P h = some (x, hF) → inj x = rF → Rel X h H → va_S (fun q => X.2.2.2 ≤ q) s.heap H locs → LH X ls l → ls.size = c.maxLocals → cells + c0 = h.1 → slots + s0 = h.2.1 → h.1 ≤ hF.1 → h.2.1 ≤ hF.2.1 → W p la e R s m args below meth c H locs cells slots Q (F0 m pc ls (st.map (cv X)))
def OKc (Γ : Cx) (cc : ByteArray) (own : String) (d : Nat) (nm : String) : Prop :=
  match Γ with
  | (p, la, e, R, s, m, args, below, meth, c, X, c0, s0, Q, hF, rF) => p.tables.exec = Jvm.exec ∧ c.code = cc ∧ s.vm.findClass own = some m.cls ∧ (∀ w ∈ tALL, w.before args s = true) ∧ Kw X s ∧ X.2.2.2 ≤ s.heap.size ∧ d ≤ R.frames ∧ 64 * d ≤ R.locals ∧ hF.1 ≤ R.cells + c0 ∧ hF.2.1 ≤ R.slots + s0 ∧ meth.name = nm
def rOK (ret : Option FieldType) (i : Instr) (v : Option Value) : Prop := match ret, i, v with
  | some .int, .ireturn, some (.int _) => True
  | some .boolean, .ireturn, some (.int x) => x &&& 1 = x
  | some .long, .lreturn, some (.long _) => True
  | some (.object _), .areturn, some (.ref _) => True
  | none, .return_, none => True
  | _, _, _ => False
def OKr (Γ : Cx) (cc : ByteArray) (ret : Option FieldType) : Prop :=
  match Γ with
  | (p, la, e, R, s, m, args, below, meth, c, X, c0, s0, Q, hF, rF) => ∀ (i : Instr) (v : Option Value) (pc : Nat) (H : Heap) (locs : List Loc) (ls : Array Slot) (cells slots : Nat), decode cc pc = .ok (i, 1) → rOK ret i v → v = rF → Rel X hF H → va_S (fun q => X.2.2.2 ≤ q) s.heap H locs → cells + c0 = hF.1 → slots + s0 = hF.2.1 → W p la e R s m args below meth c H locs cells slots Q (F0 m pc ls (v.map (cv X)).toList)
def rmD (d mc ms : Nat) : Room := { frames := d, cells := mc, slots := ms, locals := 64 * d }
/-- a method's contract: it does, from the arguments as, what the program P says; d calls deep at most -/
def Sim (d : Nat) (y : MethodName) (cc : ByteArray) (maxL : Nat) (ret : Option FieldType) {σ : Type} (inj : σ → Option Value) (as : List Value) (P : PM σ) : Prop :=
  Jvm.Cond.code y cc maxL ret ∈ tALL ∧ maxL ≤ 45 ∧ ∀ (la : Launch) (X : Wx) (h : AH) (x : σ) (h' : AH), P h = some (x, h') → h.1 ≤ h'.1 → h.2.1 ≤ h'.2.1 →
    Met la y (Jvm.Cond.code y cc maxL ret :: tALL) (rmD d (h'.1 - h.1) (h'.2.1 - h.2.1)) (va_Pc (as.map (cv X)) (fun U => Rel X h U.heap ∧ Kw X U ∧ X.2.2.2 ≤ U.heap.size)) (fun _ st oc t => oc = .returned ((inj x).map (cv X)) ∧ Rel X h' t.heap ∧ va_F (fun q => X.2.2.2 ≤ q) st t) (h'.1 - h.1) (h'.2.1 - h.2.1) (fun q => X.2.2.2 ≤ q)
theorem cv_narrow {x : Int32} (h : x = 0 ∨ x = 1) : x &&& 1 = x := by rcases h with rfl | rfl <;> decide
set_option maxHeartbeats 4000000 in
theorem Sim.intro {d : Nat} {y : MethodName} {cc : ByteArray} {maxL : Nat} {ret : Option FieldType} {σ : Type} {inj : σ → Option Value} {as : List Value} {P : PM σ} (hc : Jvm.Cond.code y cc maxL ret ∈ tALL) (hm : maxL ≤ 45) (hpl : plainName y.cls = true) (hlen : (lg_sl as).length ≤ maxL)
    (body : ∀ Γ : Cx, OKc Γ cc y.cls d y.name → OKr Γ cc ret → SW Γ inj 0 (enL maxL as) [] P) : Sim d y cc maxL ret inj as P := by
  refine ⟨hc, hm, fun la X h x h' hP hle hle2 => ?_⟩
  refine Met.ofW (cc := cc) (maxL := maxL) (ret := ret) hpl rfl ?_
  intro p e s m args below meth c s₁ B hml hv
  obtain ⟨rfl, hR, hK, hbs⟩ := hv
  have hts := atoms_spec (ws := Jvm.Cond.code y cc maxL ret :: tALL) B.pre
  have hown : s.vm.findClass y.cls = some m.cls := findClass_of_methodNamed B.named
  have hlocks := B.notSynchronized
  have hin : meth.name = y.name := (name_of_methodNamed B.named B.method).1
  have hr := B.returns
  have hx := B.exec
  have hb := B.bytes
  have hl := lv_entry (as.map (cv X)) (n := maxL) (by rw [lg_sl_cv]; exact hlen)
  rw [lg_entry_eq]
  generalize (lg_sl (as.map (cv X)) ++ List.replicate (maxL - (lg_sl (as.map (cv X))).length) Slot.unset).toArray = ls at hl ⊢
  refine body (p, la, e, rmD d (h'.1 - h.1) (h'.2.1 - h.2.1), s, m, (as.map (cv X)).toArray, below, meth, c, X, h.1, h.2.1, MQ below (fun _ st oc t => oc = .returned ((inj x).map (cv X)) ∧ Rel X h' t.heap ∧ va_F (fun q => X.2.2.2 ≤ q) st t) (as.map (cv X)).toArray s (h'.1 - h.1) (h'.2.1 - h.2.1) (fun q => X.2.2.2 ≤ q), h', inj x)
    ⟨hx, hb, hown, fun w hw => hts w (List.mem_cons_of_mem _ hw), hK, hbs, Nat.le_refl d, Nat.le_refl _, ?_, ?_, hin⟩ ?_ h x s.heap [] ls 0 0 hP rfl hR va_S.rf ⟨hl.1.trans (enL_len as maxL hlen).symm, hl.2.1, fun j v hj => ?_⟩ (hl.1.trans hml.symm) (Nat.zero_add _) (Nat.zero_add _) hle hle2
  · show h'.1 ≤ (h'.1 - h.1) + h.1
    omega
  · show h'.2.1 ≤ (h'.2.1 - h.2.1) + h.2.1
    omega
  · intro i v pc H locs ls cells slots hd ho hv hRel hS hcc hss
    have e1 : cells = h'.1 - h.1 := by omega
    have e2 : slots = h'.2.1 - h.2.1 := by omega
    subst e1
    subst e2
    unfold rOK at ho
    split at ho
    · rename_i z
      exact W.iret (v := z) hx hb hr (fun t ht _ => ⟨by rw [← hv]; rfl, by rw [ht]; exact hRel, hS.F ht⟩) hS.2.2 hd
    · rename_i z
      exact W.zret (v := z) hx hb hr (by show Value.int (z &&& 1) = _; rw [ho]) (fun t ht _ => ⟨by rw [← hv]; rfl, by rw [ht]; exact hRel, hS.F ht⟩) hS.2.2 hd
    · rename_i z
      exact W.lret (v := z) hx hb hr (fun t ht _ => ⟨by rw [← hv]; rfl, by rw [ht]; exact hRel, hS.F ht⟩) hS.2.2 hd
    · rename_i n z
      exact W.aret (v := .ref (ad X z)) hx hb hr (Or.inl ⟨_, rfl⟩) (Or.inr ⟨_, rfl⟩) (fun t ht _ => ⟨by rw [← hv]; rfl, by rw [ht]; exact hRel, hS.F ht⟩) hS.2.2 hd
    · exact W.vret hx hb hr (fun t ht _ => ⟨by rw [← hv]; rfl, by rw [ht]; exact hRel, hS.F ht⟩) hS.2.2 hd
    · exact ho.elim
  · have := hl.2.2 (0 + j, cv X v) (enL_get X as maxL 0 j v hj)
    simpa using this
section RULES
variable {Γ : Cx} {cc : ByteArray} {own : String} {d : Nat} {nm : String} {τ : Type} {inj : τ → Option Value} {P A B : PM τ} {pc pc' tgt : Nat} {l l' : List (Option Value)} {st : List Value}
theorem sw_fg (ms : List Bool) (h : drp ms l = l') (kk : SW Γ inj pc l' st P) : SW Γ inj pc l st P := by
  obtain ⟨p, la, e, R, s, m, args, below, meth, c, X, c0, s0, Q, hF, rF⟩ := Γ
  subst h
  intro h x H locs ls cells slots h1 h2 h3 h4 h5 h6 h7 h8 h9 h10
  exact kk h x H locs ls cells slots h1 h2 h3 h4 (h5.drp ms) h6 h7 h8 h9 h10
theorem sw_fail : SW Γ inj pc l st (failM : PM τ) := by
  obtain ⟨p, la, e, R, s, m, args, below, meth, c, X, c0, s0, Q, hF, rF⟩ := Γ
  intro h x H locs ls cells slots h1
  cases h1
theorem sw_none {f : PM τ} (hf : ∀ h, f h = .none) : SW Γ inj pc l st f := by
  obtain ⟨p, la, e, R, s, m, args, below, meth, c, X, c0, s0, Q, hF, rF⟩ := Γ
  intro h x H locs ls cells slots h1
  rw [hf] at h1
  cases h1
theorem sw_iconst (ok : OKc Γ cc own d nm) {n : Int} {v : Int32} (hd : decode cc pc = .ok (.iconst n, 1)) (hp : pc + 1 = pc') (hv : Int32.ofInt n = v) (kk : SW Γ inj pc' l (.int v :: st) P) : SW Γ inj pc l st P := by
  obtain ⟨p, la, e, R, s, m, args, below, meth, c, X, c0, s0, Q, hF, rF⟩ := Γ
  obtain ⟨hx, hb, hown, hts, hKw, hbs, hfr, hlo, hcl, hsl, hnm⟩ := ok
  subst hp
  intro h x H locs ls cells slots h1 h2 h3 h4 h5 h6 h7 h8 h9 h10
  exact lv_iconst hx hb hd hv (kk h x H locs ls cells slots h1 h2 h3 h4 h5 h6 h7 h8 h9 h10)
theorem sw_bipush (ok : OKc Γ cc own d nm) {n : Int} {v : Int32} (hd : decode cc pc = .ok (.bipush n, 2)) (hp : pc + 2 = pc') (hv : (Int8.ofInt n).toInt32 = v) (kk : SW Γ inj pc' l (.int v :: st) P) : SW Γ inj pc l st P := by
  obtain ⟨p, la, e, R, s, m, args, below, meth, c, X, c0, s0, Q, hF, rF⟩ := Γ
  obtain ⟨hx, hb, hown, hts, hKw, hbs, hfr, hlo, hcl, hsl, hnm⟩ := ok
  subst hp
  intro h x H locs ls cells slots h1 h2 h3 h4 h5 h6 h7 h8 h9 h10
  exact lv_bipush hx hb hd hv (kk h x H locs ls cells slots h1 h2 h3 h4 h5 h6 h7 h8 h9 h10)
theorem sw_sipush (ok : OKc Γ cc own d nm) {n : Int} {v : Int32} (hd : decode cc pc = .ok (.sipush n, 3)) (hp : pc + 3 = pc') (hv : (Int16.ofInt n).toInt32 = v) (kk : SW Γ inj pc' l (.int v :: st) P) : SW Γ inj pc l st P := by
  obtain ⟨p, la, e, R, s, m, args, below, meth, c, X, c0, s0, Q, hF, rF⟩ := Γ
  obtain ⟨hx, hb, hown, hts, hKw, hbs, hfr, hlo, hcl, hsl, hnm⟩ := ok
  subst hp
  intro h x H locs ls cells slots h1 h2 h3 h4 h5 h6 h7 h8 h9 h10
  exact lv_sipush hx hb hd hv (kk h x H locs ls cells slots h1 h2 h3 h4 h5 h6 h7 h8 h9 h10)
theorem sw_lconst (ok : OKc Γ cc own d nm) {n : Fin 2} {v : Int64} (hd : decode cc pc = .ok (.lconst n, 1)) (hp : pc + 1 = pc') (hv : Int64.ofNat (n : Nat) = v) (kk : SW Γ inj pc' l (.long v :: st) P) : SW Γ inj pc l st P := by
  obtain ⟨p, la, e, R, s, m, args, below, meth, c, X, c0, s0, Q, hF, rF⟩ := Γ
  obtain ⟨hx, hb, hown, hts, hKw, hbs, hfr, hlo, hcl, hsl, hnm⟩ := ok
  subst hp
  intro h x H locs ls cells slots h1 h2 h3 h4 h5 h6 h7 h8 h9 h10
  exact lv_lconst hx hb hd hv (kk h x H locs ls cells slots h1 h2 h3 h4 h5 h6 h7 h8 h9 h10)
theorem sw_ldcw (ok : OKc Γ cc own d nm) {idx : Nat} {v : Int32} (hd : decode cc pc = .ok (.ldc_w idx, 3)) (hp : pc + 3 = pc') (hc : Jvm.Cond.constant own idx v ∈ tALL) (kk : SW Γ inj pc' l (.int v :: st) P) : SW Γ inj pc l st P := by
  obtain ⟨p, la, e, R, s, m, args, below, meth, c, X, c0, s0, Q, hF, rF⟩ := Γ
  obtain ⟨hx, hb, hown, hts, hKw, hbs, hfr, hlo, hcl, hsl, hnm⟩ := ok
  subst hp
  intro h x H locs ls cells slots h1 h2 h3 h4 h5 h6 h7 h8 h9 h10
  exact lv_ldcw hx hb hown (hts _ hc) hd (kk h x H locs ls cells slots h1 h2 h3 h4 h5 h6 h7 h8 h9 h10)
theorem sw_ldc2 (ok : OKc Γ cc own d nm) {idx : Nat} {v : Int64} (hd : decode cc pc = .ok (.ldc2_w idx, 3)) (hp : pc + 3 = pc') (hc : Jvm.Cond.constantLong own idx v ∈ tALL) (kk : SW Γ inj pc' l (.long v :: st) P) : SW Γ inj pc l st P := by
  obtain ⟨p, la, e, R, s, m, args, below, meth, c, X, c0, s0, Q, hF, rF⟩ := Γ
  obtain ⟨hx, hb, hown, hts, hKw, hbs, hfr, hlo, hcl, hsl, hnm⟩ := ok
  subst hp
  intro h x H locs ls cells slots h1 h2 h3 h4 h5 h6 h7 h8 h9 h10
  exact lv_ldc2 hx hb hown (hts _ hc) hd (kk h x H locs ls cells slots h1 h2 h3 h4 h5 h6 h7 h8 h9 h10)
theorem sw_iload_n (ok : OKc Γ cc own d nm) {k : Fin 4} {z : Int32} (hd : decode cc pc = .ok (.iload_n k, 1)) (hp : pc + 1 = pc') (hv : l[(k : Nat)]? = some (some (.int z))) (kk : SW Γ inj pc' l (.int z :: st) P) : SW Γ inj pc l st P := by
  obtain ⟨p, la, e, R, s, m, args, below, meth, c, X, c0, s0, Q, hF, rF⟩ := Γ
  obtain ⟨hx, hb, hown, hts, hKw, hbs, hfr, hlo, hcl, hsl, hnm⟩ := ok
  subst hp
  intro h x H locs ls cells slots h1 h2 h3 h4 h5 h6 h7 h8 h9 h10
  exact lv_iload_n hx hb hd rfl (h5.2.2 _ _ hv) (kk h x H locs ls cells slots h1 h2 h3 h4 h5 h6 h7 h8 h9 h10)
theorem sw_iload (ok : OKc Γ cc own d nm) {k : Nat} {z : Int32} (hd : decode cc pc = .ok (.iload k, 2)) (hp : pc + 2 = pc') (hv : l[(k : Nat)]? = some (some (.int z))) (kk : SW Γ inj pc' l (.int z :: st) P) : SW Γ inj pc l st P := by
  obtain ⟨p, la, e, R, s, m, args, below, meth, c, X, c0, s0, Q, hF, rF⟩ := Γ
  obtain ⟨hx, hb, hown, hts, hKw, hbs, hfr, hlo, hcl, hsl, hnm⟩ := ok
  subst hp
  intro h x H locs ls cells slots h1 h2 h3 h4 h5 h6 h7 h8 h9 h10
  exact lv_iload hx hb hd (h5.2.2 _ _ hv) (kk h x H locs ls cells slots h1 h2 h3 h4 h5 h6 h7 h8 h9 h10)
theorem sw_lload_n (ok : OKc Γ cc own d nm) {k : Fin 4} {z : Int64} (hd : decode cc pc = .ok (.lload_n k, 1)) (hp : pc + 1 = pc') (hv : l[(k : Nat)]? = some (some (.long z))) (kk : SW Γ inj pc' l (.long z :: st) P) : SW Γ inj pc l st P := by
  obtain ⟨p, la, e, R, s, m, args, below, meth, c, X, c0, s0, Q, hF, rF⟩ := Γ
  obtain ⟨hx, hb, hown, hts, hKw, hbs, hfr, hlo, hcl, hsl, hnm⟩ := ok
  subst hp
  intro h x H locs ls cells slots h1 h2 h3 h4 h5 h6 h7 h8 h9 h10
  exact lv_lload_n hx hb hd rfl (h5.2.2 _ _ hv) (kk h x H locs ls cells slots h1 h2 h3 h4 h5 h6 h7 h8 h9 h10)
theorem sw_lload (ok : OKc Γ cc own d nm) {k : Nat} {z : Int64} (hd : decode cc pc = .ok (.lload k, 2)) (hp : pc + 2 = pc') (hv : l[(k : Nat)]? = some (some (.long z))) (kk : SW Γ inj pc' l (.long z :: st) P) : SW Γ inj pc l st P := by
  obtain ⟨p, la, e, R, s, m, args, below, meth, c, X, c0, s0, Q, hF, rF⟩ := Γ
  obtain ⟨hx, hb, hown, hts, hKw, hbs, hfr, hlo, hcl, hsl, hnm⟩ := ok
  subst hp
  intro h x H locs ls cells slots h1 h2 h3 h4 h5 h6 h7 h8 h9 h10
  exact lv_lload hx hb hd (h5.2.2 _ _ hv) (kk h x H locs ls cells slots h1 h2 h3 h4 h5 h6 h7 h8 h9 h10)
theorem sw_aload_n (ok : OKc Γ cc own d nm) {k : Fin 4} {z : Nat} (hd : decode cc pc = .ok (.aload_n k, 1)) (hp : pc + 1 = pc') (hv : l[(k : Nat)]? = some (some (.ref z))) (kk : SW Γ inj pc' l (.ref z :: st) P) : SW Γ inj pc l st P := by
  obtain ⟨p, la, e, R, s, m, args, below, meth, c, X, c0, s0, Q, hF, rF⟩ := Γ
  obtain ⟨hx, hb, hown, hts, hKw, hbs, hfr, hlo, hcl, hsl, hnm⟩ := ok
  subst hp
  intro h x H locs ls cells slots h1 h2 h3 h4 h5 h6 h7 h8 h9 h10
  exact lv_aload_n hx hb hd rfl (h5.2.2 _ _ hv) (kk h x H locs ls cells slots h1 h2 h3 h4 h5 h6 h7 h8 h9 h10)
theorem sw_aload (ok : OKc Γ cc own d nm) {k : Nat} {z : Nat} (hd : decode cc pc = .ok (.aload k, 2)) (hp : pc + 2 = pc') (hv : l[(k : Nat)]? = some (some (.ref z))) (kk : SW Γ inj pc' l (.ref z :: st) P) : SW Γ inj pc l st P := by
  obtain ⟨p, la, e, R, s, m, args, below, meth, c, X, c0, s0, Q, hF, rF⟩ := Γ
  obtain ⟨hx, hb, hown, hts, hKw, hbs, hfr, hlo, hcl, hsl, hnm⟩ := ok
  subst hp
  intro h x H locs ls cells slots h1 h2 h3 h4 h5 h6 h7 h8 h9 h10
  exact lv_aload hx hb hd (h5.2.2 _ _ hv) (kk h x H locs ls cells slots h1 h2 h3 h4 h5 h6 h7 h8 h9 h10)
theorem sw_istore_n (ok : OKc Γ cc own d nm) {k : Fin 4} {z : Int32} (hd : decode cc pc = .ok (.istore_n k, 1)) (hp : pc + 1 = pc') (hn : (k : Nat) < l.length) (hs : st1 l (k : Nat) (.int z) = l') (kk : SW Γ inj pc' l' st P) : SW Γ inj pc l (.int z :: st) P := by
  obtain ⟨p, la, e, R, s, m, args, below, meth, c, X, c0, s0, Q, hF, rF⟩ := Γ
  obtain ⟨hx, hb, hown, hts, hKw, hbs, hfr, hlo, hcl, hsl, hnm⟩ := ok
  subst hp
  subst hs
  intro h x H locs ls cells slots h1 h2 h3 h4 h5 h6 h7 h8 h9 h10
  refine lv_istore_n hx hb hd rfl h5.has hn rfl (fun ls2 hl => ?_)
  have hl2 : LH X ls2 (st1 l (k : Nat) (.int z)) := LH.s1 (X := X) hl
  exact kk h x H locs ls2 cells slots h1 h2 h3 h4 hl2 (hl2.1.trans ((by simp [st1, clr_len] : _ = l.length).trans (h5.1.symm.trans h6))) h7 h8 h9 h10
theorem sw_istore (ok : OKc Γ cc own d nm) {k : Nat} {z : Int32} (hd : decode cc pc = .ok (.istore k, 2)) (hp : pc + 2 = pc') (hn : (k : Nat) < l.length) (hs : st1 l (k : Nat) (.int z) = l') (kk : SW Γ inj pc' l' st P) : SW Γ inj pc l (.int z :: st) P := by
  obtain ⟨p, la, e, R, s, m, args, below, meth, c, X, c0, s0, Q, hF, rF⟩ := Γ
  obtain ⟨hx, hb, hown, hts, hKw, hbs, hfr, hlo, hcl, hsl, hnm⟩ := ok
  subst hp
  subst hs
  intro h x H locs ls cells slots h1 h2 h3 h4 h5 h6 h7 h8 h9 h10
  refine lv_istore hx hb hd h5.has hn rfl (fun ls2 hl => ?_)
  have hl2 : LH X ls2 (st1 l (k : Nat) (.int z)) := LH.s1 (X := X) hl
  exact kk h x H locs ls2 cells slots h1 h2 h3 h4 hl2 (hl2.1.trans ((by simp [st1, clr_len] : _ = l.length).trans (h5.1.symm.trans h6))) h7 h8 h9 h10
theorem sw_lstore_n (ok : OKc Γ cc own d nm) {k : Fin 4} {z : Int64} (hd : decode cc pc = .ok (.lstore_n k, 1)) (hp : pc + 1 = pc') (hn : (k : Nat) + 1 < l.length) (hs : st2 l (k : Nat) (.long z) = l') (kk : SW Γ inj pc' l' st P) : SW Γ inj pc l (.long z :: st) P := by
  obtain ⟨p, la, e, R, s, m, args, below, meth, c, X, c0, s0, Q, hF, rF⟩ := Γ
  obtain ⟨hx, hb, hown, hts, hKw, hbs, hfr, hlo, hcl, hsl, hnm⟩ := ok
  subst hp
  subst hs
  intro h x H locs ls cells slots h1 h2 h3 h4 h5 h6 h7 h8 h9 h10
  refine lv_lstore_n hx hb hd rfl h5.has hn rfl (fun ls2 hl => ?_)
  have hl2 : LH X ls2 (st2 l (k : Nat) (.long z)) := LH.s2 (X := X) hl
  exact kk h x H locs ls2 cells slots h1 h2 h3 h4 hl2 (hl2.1.trans ((by simp [st2, clr_len] : _ = l.length).trans (h5.1.symm.trans h6))) h7 h8 h9 h10
theorem sw_lstore (ok : OKc Γ cc own d nm) {k : Nat} {z : Int64} (hd : decode cc pc = .ok (.lstore k, 2)) (hp : pc + 2 = pc') (hn : (k : Nat) + 1 < l.length) (hs : st2 l (k : Nat) (.long z) = l') (kk : SW Γ inj pc' l' st P) : SW Γ inj pc l (.long z :: st) P := by
  obtain ⟨p, la, e, R, s, m, args, below, meth, c, X, c0, s0, Q, hF, rF⟩ := Γ
  obtain ⟨hx, hb, hown, hts, hKw, hbs, hfr, hlo, hcl, hsl, hnm⟩ := ok
  subst hp
  subst hs
  intro h x H locs ls cells slots h1 h2 h3 h4 h5 h6 h7 h8 h9 h10
  refine lv_lstore hx hb hd h5.has hn rfl (fun ls2 hl => ?_)
  have hl2 : LH X ls2 (st2 l (k : Nat) (.long z)) := LH.s2 (X := X) hl
  exact kk h x H locs ls2 cells slots h1 h2 h3 h4 hl2 (hl2.1.trans ((by simp [st2, clr_len] : _ = l.length).trans (h5.1.symm.trans h6))) h7 h8 h9 h10
theorem sw_astore_n (ok : OKc Γ cc own d nm) {k : Fin 4} {z : Nat} (hd : decode cc pc = .ok (.astore_n k, 1)) (hp : pc + 1 = pc') (hn : (k : Nat) < l.length) (hs : st1 l (k : Nat) (.ref z) = l') (kk : SW Γ inj pc' l' st P) : SW Γ inj pc l (.ref z :: st) P := by
  obtain ⟨p, la, e, R, s, m, args, below, meth, c, X, c0, s0, Q, hF, rF⟩ := Γ
  obtain ⟨hx, hb, hown, hts, hKw, hbs, hfr, hlo, hcl, hsl, hnm⟩ := ok
  subst hp
  subst hs
  intro h x H locs ls cells slots h1 h2 h3 h4 h5 h6 h7 h8 h9 h10
  refine lv_astore_n hx hb hd rfl h5.has hn rfl (fun ls2 hl => ?_)
  have hl2 : LH X ls2 (st1 l (k : Nat) (.ref z)) := LH.s1 (X := X) hl
  exact kk h x H locs ls2 cells slots h1 h2 h3 h4 hl2 (hl2.1.trans ((by simp [st1, clr_len] : _ = l.length).trans (h5.1.symm.trans h6))) h7 h8 h9 h10
theorem sw_astore (ok : OKc Γ cc own d nm) {k : Nat} {z : Nat} (hd : decode cc pc = .ok (.astore k, 2)) (hp : pc + 2 = pc') (hn : (k : Nat) < l.length) (hs : st1 l (k : Nat) (.ref z) = l') (kk : SW Γ inj pc' l' st P) : SW Γ inj pc l (.ref z :: st) P := by
  obtain ⟨p, la, e, R, s, m, args, below, meth, c, X, c0, s0, Q, hF, rF⟩ := Γ
  obtain ⟨hx, hb, hown, hts, hKw, hbs, hfr, hlo, hcl, hsl, hnm⟩ := ok
  subst hp
  subst hs
  intro h x H locs ls cells slots h1 h2 h3 h4 h5 h6 h7 h8 h9 h10
  refine lv_astore hx hb hd h5.has hn rfl (fun ls2 hl => ?_)
  have hl2 : LH X ls2 (st1 l (k : Nat) (.ref z)) := LH.s1 (X := X) hl
  exact kk h x H locs ls2 cells slots h1 h2 h3 h4 hl2 (hl2.1.trans ((by simp [st1, clr_len] : _ = l.length).trans (h5.1.symm.trans h6))) h7 h8 h9 h10
theorem sw_iinc (ok : OKc Γ cc own d nm) {k : Nat} {n : Int} {z v : Int32} (hd : decode cc pc = .ok (.iinc k n, 3)) (hp : pc + 3 = pc') (hv : l[k]? = some (some (.int z))) (hz : z + Int32.ofInt n = v) (hs : st1 l k (.int v) = l') (kk : SW Γ inj pc' l' st P) : SW Γ inj pc l st P := by
  obtain ⟨p, la, e, R, s, m, args, below, meth, c, X, c0, s0, Q, hF, rF⟩ := Γ
  obtain ⟨hx, hb, hown, hts, hKw, hbs, hfr, hlo, hcl, hsl, hnm⟩ := ok
  subst hp
  subst hs
  intro h x H locs ls cells slots h1 h2 h3 h4 h5 h6 h7 h8 h9 h10
  obtain ⟨j, hj⟩ := List.getElem?_of_mem (mem_asc (X := X) hv)
  refine lv_iinc hx hb hd h5.has hj hz (List.getElem?_eq_some_iff.mp hv).1 rfl (fun ls2 hl => ?_)
  have hl2 : LH X ls2 (st1 l k (.int v)) := LH.s1 (X := X) hl
  exact kk h x H locs ls2 cells slots h1 h2 h3 h4 hl2 (hl2.1.trans ((by simp [st1, clr_len] : _ = l.length).trans (h5.1.symm.trans h6))) h7 h8 h9 h10
theorem sw_iadd (ok : OKc Γ cc own d nm) {z y : Int32} (hd : decode cc pc = .ok (.iadd, 1)) (hp : pc + 1 = pc') (kk : SW Γ inj pc' l (.int (z + y) :: st) P) : SW Γ inj pc l (.int y :: .int z :: st) P := by
  obtain ⟨p, la, e, R, s, m, args, below, meth, c, X, c0, s0, Q, hF, rF⟩ := Γ
  obtain ⟨hx, hb, hown, hts, hKw, hbs, hfr, hlo, hcl, hsl, hnm⟩ := ok
  subst hp
  intro h x H locs ls cells slots h1 h2 h3 h4 h5 h6 h7 h8 h9 h10
  exact lv_iadd hx hb hd (kk h x H locs ls cells slots h1 h2 h3 h4 h5 h6 h7 h8 h9 h10)
theorem sw_isub (ok : OKc Γ cc own d nm) {z y : Int32} (hd : decode cc pc = .ok (.isub, 1)) (hp : pc + 1 = pc') (kk : SW Γ inj pc' l (.int (z - y) :: st) P) : SW Γ inj pc l (.int y :: .int z :: st) P := by
  obtain ⟨p, la, e, R, s, m, args, below, meth, c, X, c0, s0, Q, hF, rF⟩ := Γ
  obtain ⟨hx, hb, hown, hts, hKw, hbs, hfr, hlo, hcl, hsl, hnm⟩ := ok
  subst hp
  intro h x H locs ls cells slots h1 h2 h3 h4 h5 h6 h7 h8 h9 h10
  exact lv_isub hx hb hd (kk h x H locs ls cells slots h1 h2 h3 h4 h5 h6 h7 h8 h9 h10)
theorem sw_imul (ok : OKc Γ cc own d nm) {z y : Int32} (hd : decode cc pc = .ok (.imul, 1)) (hp : pc + 1 = pc') (kk : SW Γ inj pc' l (.int (z * y) :: st) P) : SW Γ inj pc l (.int y :: .int z :: st) P := by
  obtain ⟨p, la, e, R, s, m, args, below, meth, c, X, c0, s0, Q, hF, rF⟩ := Γ
  obtain ⟨hx, hb, hown, hts, hKw, hbs, hfr, hlo, hcl, hsl, hnm⟩ := ok
  subst hp
  intro h x H locs ls cells slots h1 h2 h3 h4 h5 h6 h7 h8 h9 h10
  exact lv_imul hx hb hd (kk h x H locs ls cells slots h1 h2 h3 h4 h5 h6 h7 h8 h9 h10)
theorem sw_iand (ok : OKc Γ cc own d nm) {z y : Int32} (hd : decode cc pc = .ok (.iand, 1)) (hp : pc + 1 = pc') (kk : SW Γ inj pc' l (.int (z &&& y) :: st) P) : SW Γ inj pc l (.int y :: .int z :: st) P := by
  obtain ⟨p, la, e, R, s, m, args, below, meth, c, X, c0, s0, Q, hF, rF⟩ := Γ
  obtain ⟨hx, hb, hown, hts, hKw, hbs, hfr, hlo, hcl, hsl, hnm⟩ := ok
  subst hp
  intro h x H locs ls cells slots h1 h2 h3 h4 h5 h6 h7 h8 h9 h10
  exact lv_iand hx hb hd (kk h x H locs ls cells slots h1 h2 h3 h4 h5 h6 h7 h8 h9 h10)
theorem sw_ior (ok : OKc Γ cc own d nm) {z y : Int32} (hd : decode cc pc = .ok (.ior, 1)) (hp : pc + 1 = pc') (kk : SW Γ inj pc' l (.int (z ||| y) :: st) P) : SW Γ inj pc l (.int y :: .int z :: st) P := by
  obtain ⟨p, la, e, R, s, m, args, below, meth, c, X, c0, s0, Q, hF, rF⟩ := Γ
  obtain ⟨hx, hb, hown, hts, hKw, hbs, hfr, hlo, hcl, hsl, hnm⟩ := ok
  subst hp
  intro h x H locs ls cells slots h1 h2 h3 h4 h5 h6 h7 h8 h9 h10
  exact lv_ior hx hb hd (kk h x H locs ls cells slots h1 h2 h3 h4 h5 h6 h7 h8 h9 h10)
theorem sw_ixor (ok : OKc Γ cc own d nm) {z y : Int32} (hd : decode cc pc = .ok (.ixor, 1)) (hp : pc + 1 = pc') (kk : SW Γ inj pc' l (.int (z ^^^ y) :: st) P) : SW Γ inj pc l (.int y :: .int z :: st) P := by
  obtain ⟨p, la, e, R, s, m, args, below, meth, c, X, c0, s0, Q, hF, rF⟩ := Γ
  obtain ⟨hx, hb, hown, hts, hKw, hbs, hfr, hlo, hcl, hsl, hnm⟩ := ok
  subst hp
  intro h x H locs ls cells slots h1 h2 h3 h4 h5 h6 h7 h8 h9 h10
  exact lv_ixor hx hb hd (kk h x H locs ls cells slots h1 h2 h3 h4 h5 h6 h7 h8 h9 h10)
theorem sw_ishl (ok : OKc Γ cc own d nm) {z y : Int32} (hd : decode cc pc = .ok (.ishl, 1)) (hp : pc + 1 = pc') (kk : SW Γ inj pc' l (.int (z <<< (y &&& 31)) :: st) P) : SW Γ inj pc l (.int y :: .int z :: st) P := by
  obtain ⟨p, la, e, R, s, m, args, below, meth, c, X, c0, s0, Q, hF, rF⟩ := Γ
  obtain ⟨hx, hb, hown, hts, hKw, hbs, hfr, hlo, hcl, hsl, hnm⟩ := ok
  subst hp
  intro h x H locs ls cells slots h1 h2 h3 h4 h5 h6 h7 h8 h9 h10
  exact lv_ishl hx hb hd (kk h x H locs ls cells slots h1 h2 h3 h4 h5 h6 h7 h8 h9 h10)
theorem sw_ishr (ok : OKc Γ cc own d nm) {z y : Int32} (hd : decode cc pc = .ok (.ishr, 1)) (hp : pc + 1 = pc') (kk : SW Γ inj pc' l (.int (z >>> (y &&& 31)) :: st) P) : SW Γ inj pc l (.int y :: .int z :: st) P := by
  obtain ⟨p, la, e, R, s, m, args, below, meth, c, X, c0, s0, Q, hF, rF⟩ := Γ
  obtain ⟨hx, hb, hown, hts, hKw, hbs, hfr, hlo, hcl, hsl, hnm⟩ := ok
  subst hp
  intro h x H locs ls cells slots h1 h2 h3 h4 h5 h6 h7 h8 h9 h10
  exact lv_ishr hx hb hd (kk h x H locs ls cells slots h1 h2 h3 h4 h5 h6 h7 h8 h9 h10)
theorem sw_iushr (ok : OKc Γ cc own d nm) {z y v : Int32} (hd : decode cc pc = .ok (.iushr, 1)) (hp : pc + 1 = pc') (hv : (z.toUInt32 >>> (y.toUInt32 &&& Int32.toUInt32 31)).toInt32 = v) (kk : SW Γ inj pc' l (.int v :: st) P) : SW Γ inj pc l (.int y :: .int z :: st) P := by
  obtain ⟨p, la, e, R, s, m, args, below, meth, c, X, c0, s0, Q, hF, rF⟩ := Γ
  obtain ⟨hx, hb, hown, hts, hKw, hbs, hfr, hlo, hcl, hsl, hnm⟩ := ok
  subst hp
  intro h x H locs ls cells slots h1 h2 h3 h4 h5 h6 h7 h8 h9 h10
  exact lv_iushr hx hb hd hv (kk h x H locs ls cells slots h1 h2 h3 h4 h5 h6 h7 h8 h9 h10)
theorem sw_ladd (ok : OKc Γ cc own d nm) {z y : Int64} (hd : decode cc pc = .ok (.ladd, 1)) (hp : pc + 1 = pc') (kk : SW Γ inj pc' l (.long (z + y) :: st) P) : SW Γ inj pc l (.long y :: .long z :: st) P := by
  obtain ⟨p, la, e, R, s, m, args, below, meth, c, X, c0, s0, Q, hF, rF⟩ := Γ
  obtain ⟨hx, hb, hown, hts, hKw, hbs, hfr, hlo, hcl, hsl, hnm⟩ := ok
  subst hp
  intro h x H locs ls cells slots h1 h2 h3 h4 h5 h6 h7 h8 h9 h10
  exact lv_ladd hx hb hd (kk h x H locs ls cells slots h1 h2 h3 h4 h5 h6 h7 h8 h9 h10)
theorem sw_lmul (ok : OKc Γ cc own d nm) {z y : Int64} (hd : decode cc pc = .ok (.lmul, 1)) (hp : pc + 1 = pc') (kk : SW Γ inj pc' l (.long (z * y) :: st) P) : SW Γ inj pc l (.long y :: .long z :: st) P := by
  obtain ⟨p, la, e, R, s, m, args, below, meth, c, X, c0, s0, Q, hF, rF⟩ := Γ
  obtain ⟨hx, hb, hown, hts, hKw, hbs, hfr, hlo, hcl, hsl, hnm⟩ := ok
  subst hp
  intro h x H locs ls cells slots h1 h2 h3 h4 h5 h6 h7 h8 h9 h10
  exact lv_lmul hx hb hd (kk h x H locs ls cells slots h1 h2 h3 h4 h5 h6 h7 h8 h9 h10)
theorem sw_lsub (ok : OKc Γ cc own d nm) {z y : Int64} (hd : decode cc pc = .ok (.lsub, 1)) (hp : pc + 1 = pc') (kk : SW Γ inj pc' l (.long (z - y) :: st) P) : SW Γ inj pc l (.long y :: .long z :: st) P := by
  obtain ⟨p, la, e, R, s, m, args, below, meth, c, X, c0, s0, Q, hF, rF⟩ := Γ
  obtain ⟨hx, hb, hown, hts, hKw, hbs, hfr, hlo, hcl, hsl, hnm⟩ := ok
  subst hp
  intro h x H locs ls cells slots h1 h2 h3 h4 h5 h6 h7 h8 h9 h10
  exact lv_lsub hx hb hd (kk h x H locs ls cells slots h1 h2 h3 h4 h5 h6 h7 h8 h9 h10)
theorem sw_lcmp (ok : OKc Γ cc own d nm) {z y : Int64} (hd : decode cc pc = .ok (.lcmp, 1)) (hp : pc + 1 = pc') (kk : SW Γ inj pc' l (.int (lg_cmp z y) :: st) P) : SW Γ inj pc l (.long y :: .long z :: st) P := by
  obtain ⟨p, la, e, R, s, m, args, below, meth, c, X, c0, s0, Q, hF, rF⟩ := Γ
  obtain ⟨hx, hb, hown, hts, hKw, hbs, hfr, hlo, hcl, hsl, hnm⟩ := ok
  subst hp
  intro h x H locs ls cells slots h1 h2 h3 h4 h5 h6 h7 h8 h9 h10
  exact W.lcmp hx hb hd (kk h x H locs ls cells slots h1 h2 h3 h4 h5 h6 h7 h8 h9 h10)
theorem sw_i2l (ok : OKc Γ cc own d nm) {z : Int32} (hd : decode cc pc = .ok (.i2l, 1)) (hp : pc + 1 = pc') (kk : SW Γ inj pc' l (.long z.toInt64 :: st) P) : SW Γ inj pc l (.int z :: st) P := by
  obtain ⟨p, la, e, R, s, m, args, below, meth, c, X, c0, s0, Q, hF, rF⟩ := Γ
  obtain ⟨hx, hb, hown, hts, hKw, hbs, hfr, hlo, hcl, hsl, hnm⟩ := ok
  subst hp
  intro h x H locs ls cells slots h1 h2 h3 h4 h5 h6 h7 h8 h9 h10
  exact lv_i2l hx hb hd rfl (kk h x H locs ls cells slots h1 h2 h3 h4 h5 h6 h7 h8 h9 h10)
theorem sw_l2i (ok : OKc Γ cc own d nm) {z : Int64} (hd : decode cc pc = .ok (.l2i, 1)) (hp : pc + 1 = pc') (kk : SW Γ inj pc' l (.int z.toInt32 :: st) P) : SW Γ inj pc l (.long z :: st) P := by
  obtain ⟨p, la, e, R, s, m, args, below, meth, c, X, c0, s0, Q, hF, rF⟩ := Γ
  obtain ⟨hx, hb, hown, hts, hKw, hbs, hfr, hlo, hcl, hsl, hnm⟩ := ok
  subst hp
  intro h x H locs ls cells slots h1 h2 h3 h4 h5 h6 h7 h8 h9 h10
  exact lv_l2i hx hb hd rfl (kk h x H locs ls cells slots h1 h2 h3 h4 h5 h6 h7 h8 h9 h10)
theorem sw_i2b (ok : OKc Γ cc own d nm) {z : Int32} (hd : decode cc pc = .ok (.i2b, 1)) (hp : pc + 1 = pc') (kk : SW Γ inj pc' l (.int z.toInt8.toInt32 :: st) P) : SW Γ inj pc l (.int z :: st) P := by
  obtain ⟨p, la, e, R, s, m, args, below, meth, c, X, c0, s0, Q, hF, rF⟩ := Γ
  obtain ⟨hx, hb, hown, hts, hKw, hbs, hfr, hlo, hcl, hsl, hnm⟩ := ok
  subst hp
  intro h x H locs ls cells slots h1 h2 h3 h4 h5 h6 h7 h8 h9 h10
  exact lv_i2b hx hb hd rfl (kk h x H locs ls cells slots h1 h2 h3 h4 h5 h6 h7 h8 h9 h10)
theorem sw_dup (ok : OKc Γ cc own d nm) {va : Value} (hd : decode cc pc = .ok (.dup, 1)) (hp : pc + 1 = pc') (hc : va.category = 1) (kk : SW Γ inj pc' l (va :: va :: st) P) : SW Γ inj pc l (va :: st) P := by
  obtain ⟨p, la, e, R, s, m, args, below, meth, c, X, c0, s0, Q, hF, rF⟩ := Γ
  obtain ⟨hx, hb, hown, hts, hKw, hbs, hfr, hlo, hcl, hsl, hnm⟩ := ok
  subst hp
  intro h x H locs ls cells slots h1 h2 h3 h4 h5 h6 h7 h8 h9 h10
  exact lv_dup hx hb hd (by rw [cv_cat]; exact hc) (kk h x H locs ls cells slots h1 h2 h3 h4 h5 h6 h7 h8 h9 h10)
theorem sw_pop (ok : OKc Γ cc own d nm) {va : Value} (hd : decode cc pc = .ok (.pop, 1)) (hp : pc + 1 = pc') (hc : va.category = 1) (kk : SW Γ inj pc' l st P) : SW Γ inj pc l (va :: st) P := by
  obtain ⟨p, la, e, R, s, m, args, below, meth, c, X, c0, s0, Q, hF, rF⟩ := Γ
  obtain ⟨hx, hb, hown, hts, hKw, hbs, hfr, hlo, hcl, hsl, hnm⟩ := ok
  subst hp
  intro h x H locs ls cells slots h1 h2 h3 h4 h5 h6 h7 h8 h9 h10
  exact lv_pop hx hb hd (by rw [cv_cat]; exact hc) (kk h x H locs ls cells slots h1 h2 h3 h4 h5 h6 h7 h8 h9 h10)
theorem sw_dup2 (ok : OKc Γ cc own d nm) {va vb : Value} (hd : decode cc pc = .ok (.dup2, 1)) (hp : pc + 1 = pc') (hc : va.category = 1) (hc2 : vb.category = 1) (kk : SW Γ inj pc' l (va :: vb :: va :: vb :: st) P) : SW Γ inj pc l (va :: vb :: st) P := by
  obtain ⟨p, la, e, R, s, m, args, below, meth, c, X, c0, s0, Q, hF, rF⟩ := Γ
  obtain ⟨hx, hb, hown, hts, hKw, hbs, hfr, hlo, hcl, hsl, hnm⟩ := ok
  subst hp
  intro h x H locs ls cells slots h1 h2 h3 h4 h5 h6 h7 h8 h9 h10
  exact lv_dup2_11 hx hb hd (by rw [cv_cat]; exact hc) (by rw [cv_cat]; exact hc2) (kk h x H locs ls cells slots h1 h2 h3 h4 h5 h6 h7 h8 h9 h10)
theorem sw_goto (ok : OKc Γ cc own d nm) {off : Int} (hd : decode cc pc = .ok (.goto off, 3)) (ht : (pc : Int) + off = (tgt : Int)) (kk : SW Γ inj tgt l st P) : SW Γ inj pc l st P := by
  obtain ⟨p, la, e, R, s, m, args, below, meth, c, X, c0, s0, Q, hF, rF⟩ := Γ
  obtain ⟨hx, hb, hown, hts, hKw, hbs, hfr, hlo, hcl, hsl, hnm⟩ := ok
  intro h x H locs ls cells slots h1 h2 h3 h4 h5 h6 h7 h8 h9 h10
  exact lv_goto hx hb hd ht (kk h x H locs ls cells slots h1 h2 h3 h4 h5 h6 h7 h8 h9 h10)
theorem sw_if_eq (ok : OKc Γ cc own d nm) {z : Int32} {off : Int} (hd : decode cc pc = .ok (.ifCond .eq off, 3)) (ht : (pc : Int) + off = (tgt : Int)) (hp : pc + 3 = pc') (kt : SW Γ inj tgt l st A) (kf : SW Γ inj pc' l st B) : SW Γ inj pc l (.int z :: st) (ifB (decide (z = 0)) A B) := by
  obtain ⟨p, la, e, R, s, m, args, below, meth, c, X, c0, s0, Q, hF, rF⟩ := Γ
  obtain ⟨hx, hb, hown, hts, hKw, hbs, hfr, hlo, hcl, hsl, hnm⟩ := ok
  subst hp
  intro h x H locs ls cells slots h1 h2 h3 h4 h5 h6 h7 h8 h9 h10
  exact lv_if_eq hx hb hd ht (fun hc => kt h x H locs ls cells slots (by simpa [ifB, hc] using h1) h2 h3 h4 h5 h6 h7 h8 h9 h10) (fun hc => kf h x H locs ls cells slots (by simpa [ifB, hc] using h1) h2 h3 h4 h5 h6 h7 h8 h9 h10)
theorem sw_icmp_eq (ok : OKc Γ cc own d nm) {z y : Int32} {off : Int} (hd : decode cc pc = .ok (.if_icmp .eq off, 3)) (ht : (pc : Int) + off = (tgt : Int)) (hp : pc + 3 = pc') (kt : SW Γ inj tgt l st A) (kf : SW Γ inj pc' l st B) : SW Γ inj pc l (.int y :: .int z :: st) (ifB (decide (z = y)) A B) := by
  obtain ⟨p, la, e, R, s, m, args, below, meth, c, X, c0, s0, Q, hF, rF⟩ := Γ
  obtain ⟨hx, hb, hown, hts, hKw, hbs, hfr, hlo, hcl, hsl, hnm⟩ := ok
  subst hp
  intro h x H locs ls cells slots h1 h2 h3 h4 h5 h6 h7 h8 h9 h10
  exact lv_icmp_eq hx hb hd ht (fun hc => kt h x H locs ls cells slots (by simpa [ifB, hc] using h1) h2 h3 h4 h5 h6 h7 h8 h9 h10) (fun hc => kf h x H locs ls cells slots (by simpa [ifB, hc] using h1) h2 h3 h4 h5 h6 h7 h8 h9 h10)
theorem sw_if_ne (ok : OKc Γ cc own d nm) {z : Int32} {off : Int} (hd : decode cc pc = .ok (.ifCond .ne off, 3)) (ht : (pc : Int) + off = (tgt : Int)) (hp : pc + 3 = pc') (kt : SW Γ inj tgt l st A) (kf : SW Γ inj pc' l st B) : SW Γ inj pc l (.int z :: st) (ifB (decide (¬ z = 0)) A B) := by
  obtain ⟨p, la, e, R, s, m, args, below, meth, c, X, c0, s0, Q, hF, rF⟩ := Γ
  obtain ⟨hx, hb, hown, hts, hKw, hbs, hfr, hlo, hcl, hsl, hnm⟩ := ok
  subst hp
  intro h x H locs ls cells slots h1 h2 h3 h4 h5 h6 h7 h8 h9 h10
  exact lv_if_ne hx hb hd ht (fun hc => kt h x H locs ls cells slots (by simpa [ifB, hc] using h1) h2 h3 h4 h5 h6 h7 h8 h9 h10) (fun hc => kf h x H locs ls cells slots (by simpa [ifB, hc] using h1) h2 h3 h4 h5 h6 h7 h8 h9 h10)
theorem sw_icmp_ne (ok : OKc Γ cc own d nm) {z y : Int32} {off : Int} (hd : decode cc pc = .ok (.if_icmp .ne off, 3)) (ht : (pc : Int) + off = (tgt : Int)) (hp : pc + 3 = pc') (kt : SW Γ inj tgt l st A) (kf : SW Γ inj pc' l st B) : SW Γ inj pc l (.int y :: .int z :: st) (ifB (decide (¬ z = y)) A B) := by
  obtain ⟨p, la, e, R, s, m, args, below, meth, c, X, c0, s0, Q, hF, rF⟩ := Γ
  obtain ⟨hx, hb, hown, hts, hKw, hbs, hfr, hlo, hcl, hsl, hnm⟩ := ok
  subst hp
  intro h x H locs ls cells slots h1 h2 h3 h4 h5 h6 h7 h8 h9 h10
  exact lv_icmp_ne hx hb hd ht (fun hc => kt h x H locs ls cells slots (by simpa [ifB, hc] using h1) h2 h3 h4 h5 h6 h7 h8 h9 h10) (fun hc => kf h x H locs ls cells slots (by simpa [ifB, hc] using h1) h2 h3 h4 h5 h6 h7 h8 h9 h10)
theorem sw_if_lt (ok : OKc Γ cc own d nm) {z : Int32} {off : Int} (hd : decode cc pc = .ok (.ifCond .lt off, 3)) (ht : (pc : Int) + off = (tgt : Int)) (hp : pc + 3 = pc') (kt : SW Γ inj tgt l st A) (kf : SW Γ inj pc' l st B) : SW Γ inj pc l (.int z :: st) (ifB (decide (z < 0)) A B) := by
  obtain ⟨p, la, e, R, s, m, args, below, meth, c, X, c0, s0, Q, hF, rF⟩ := Γ
  obtain ⟨hx, hb, hown, hts, hKw, hbs, hfr, hlo, hcl, hsl, hnm⟩ := ok
  subst hp
  intro h x H locs ls cells slots h1 h2 h3 h4 h5 h6 h7 h8 h9 h10
  exact lv_if_lt hx hb hd ht (fun hc => kt h x H locs ls cells slots (by simpa [ifB, hc] using h1) h2 h3 h4 h5 h6 h7 h8 h9 h10) (fun hc => kf h x H locs ls cells slots (by simpa [ifB, hc] using h1) h2 h3 h4 h5 h6 h7 h8 h9 h10)
theorem sw_icmp_lt (ok : OKc Γ cc own d nm) {z y : Int32} {off : Int} (hd : decode cc pc = .ok (.if_icmp .lt off, 3)) (ht : (pc : Int) + off = (tgt : Int)) (hp : pc + 3 = pc') (kt : SW Γ inj tgt l st A) (kf : SW Γ inj pc' l st B) : SW Γ inj pc l (.int y :: .int z :: st) (ifB (decide (z < y)) A B) := by
  obtain ⟨p, la, e, R, s, m, args, below, meth, c, X, c0, s0, Q, hF, rF⟩ := Γ
  obtain ⟨hx, hb, hown, hts, hKw, hbs, hfr, hlo, hcl, hsl, hnm⟩ := ok
  subst hp
  intro h x H locs ls cells slots h1 h2 h3 h4 h5 h6 h7 h8 h9 h10
  exact lv_icmp_lt hx hb hd ht (fun hc => kt h x H locs ls cells slots (by simpa [ifB, hc] using h1) h2 h3 h4 h5 h6 h7 h8 h9 h10) (fun hc => kf h x H locs ls cells slots (by simpa [ifB, hc] using h1) h2 h3 h4 h5 h6 h7 h8 h9 h10)
theorem sw_if_ge (ok : OKc Γ cc own d nm) {z : Int32} {off : Int} (hd : decode cc pc = .ok (.ifCond .ge off, 3)) (ht : (pc : Int) + off = (tgt : Int)) (hp : pc + 3 = pc') (kt : SW Γ inj tgt l st A) (kf : SW Γ inj pc' l st B) : SW Γ inj pc l (.int z :: st) (ifB (decide (0 ≤ z)) A B) := by
  obtain ⟨p, la, e, R, s, m, args, below, meth, c, X, c0, s0, Q, hF, rF⟩ := Γ
  obtain ⟨hx, hb, hown, hts, hKw, hbs, hfr, hlo, hcl, hsl, hnm⟩ := ok
  subst hp
  intro h x H locs ls cells slots h1 h2 h3 h4 h5 h6 h7 h8 h9 h10
  exact lv_if_ge hx hb hd ht (fun hc => kt h x H locs ls cells slots (by simpa [ifB, hc] using h1) h2 h3 h4 h5 h6 h7 h8 h9 h10) (fun hc => kf h x H locs ls cells slots (by simpa [ifB, hc] using h1) h2 h3 h4 h5 h6 h7 h8 h9 h10)
theorem sw_icmp_ge (ok : OKc Γ cc own d nm) {z y : Int32} {off : Int} (hd : decode cc pc = .ok (.if_icmp .ge off, 3)) (ht : (pc : Int) + off = (tgt : Int)) (hp : pc + 3 = pc') (kt : SW Γ inj tgt l st A) (kf : SW Γ inj pc' l st B) : SW Γ inj pc l (.int y :: .int z :: st) (ifB (decide (y ≤ z)) A B) := by
  obtain ⟨p, la, e, R, s, m, args, below, meth, c, X, c0, s0, Q, hF, rF⟩ := Γ
  obtain ⟨hx, hb, hown, hts, hKw, hbs, hfr, hlo, hcl, hsl, hnm⟩ := ok
  subst hp
  intro h x H locs ls cells slots h1 h2 h3 h4 h5 h6 h7 h8 h9 h10
  exact lv_icmp_ge hx hb hd ht (fun hc => kt h x H locs ls cells slots (by simpa [ifB, hc] using h1) h2 h3 h4 h5 h6 h7 h8 h9 h10) (fun hc => kf h x H locs ls cells slots (by simpa [ifB, hc] using h1) h2 h3 h4 h5 h6 h7 h8 h9 h10)
theorem sw_if_gt (ok : OKc Γ cc own d nm) {z : Int32} {off : Int} (hd : decode cc pc = .ok (.ifCond .gt off, 3)) (ht : (pc : Int) + off = (tgt : Int)) (hp : pc + 3 = pc') (kt : SW Γ inj tgt l st A) (kf : SW Γ inj pc' l st B) : SW Γ inj pc l (.int z :: st) (ifB (decide (0 < z)) A B) := by
  obtain ⟨p, la, e, R, s, m, args, below, meth, c, X, c0, s0, Q, hF, rF⟩ := Γ
  obtain ⟨hx, hb, hown, hts, hKw, hbs, hfr, hlo, hcl, hsl, hnm⟩ := ok
  subst hp
  intro h x H locs ls cells slots h1 h2 h3 h4 h5 h6 h7 h8 h9 h10
  exact lv_if_gt hx hb hd ht (fun hc => kt h x H locs ls cells slots (by simpa [ifB, hc] using h1) h2 h3 h4 h5 h6 h7 h8 h9 h10) (fun hc => kf h x H locs ls cells slots (by simpa [ifB, hc] using h1) h2 h3 h4 h5 h6 h7 h8 h9 h10)
theorem sw_icmp_gt (ok : OKc Γ cc own d nm) {z y : Int32} {off : Int} (hd : decode cc pc = .ok (.if_icmp .gt off, 3)) (ht : (pc : Int) + off = (tgt : Int)) (hp : pc + 3 = pc') (kt : SW Γ inj tgt l st A) (kf : SW Γ inj pc' l st B) : SW Γ inj pc l (.int y :: .int z :: st) (ifB (decide (y < z)) A B) := by
  obtain ⟨p, la, e, R, s, m, args, below, meth, c, X, c0, s0, Q, hF, rF⟩ := Γ
  obtain ⟨hx, hb, hown, hts, hKw, hbs, hfr, hlo, hcl, hsl, hnm⟩ := ok
  subst hp
  intro h x H locs ls cells slots h1 h2 h3 h4 h5 h6 h7 h8 h9 h10
  exact lv_icmp_gt hx hb hd ht (fun hc => kt h x H locs ls cells slots (by simpa [ifB, hc] using h1) h2 h3 h4 h5 h6 h7 h8 h9 h10) (fun hc => kf h x H locs ls cells slots (by simpa [ifB, hc] using h1) h2 h3 h4 h5 h6 h7 h8 h9 h10)
theorem sw_if_le (ok : OKc Γ cc own d nm) {z : Int32} {off : Int} (hd : decode cc pc = .ok (.ifCond .le off, 3)) (ht : (pc : Int) + off = (tgt : Int)) (hp : pc + 3 = pc') (kt : SW Γ inj tgt l st A) (kf : SW Γ inj pc' l st B) : SW Γ inj pc l (.int z :: st) (ifB (decide (z ≤ 0)) A B) := by
  obtain ⟨p, la, e, R, s, m, args, below, meth, c, X, c0, s0, Q, hF, rF⟩ := Γ
  obtain ⟨hx, hb, hown, hts, hKw, hbs, hfr, hlo, hcl, hsl, hnm⟩ := ok
  subst hp
  intro h x H locs ls cells slots h1 h2 h3 h4 h5 h6 h7 h8 h9 h10
  exact lv_if_le hx hb hd ht (fun hc => kt h x H locs ls cells slots (by simpa [ifB, hc] using h1) h2 h3 h4 h5 h6 h7 h8 h9 h10) (fun hc => kf h x H locs ls cells slots (by simpa [ifB, hc] using h1) h2 h3 h4 h5 h6 h7 h8 h9 h10)
theorem sw_icmp_le (ok : OKc Γ cc own d nm) {z y : Int32} {off : Int} (hd : decode cc pc = .ok (.if_icmp .le off, 3)) (ht : (pc : Int) + off = (tgt : Int)) (hp : pc + 3 = pc') (kt : SW Γ inj tgt l st A) (kf : SW Γ inj pc' l st B) : SW Γ inj pc l (.int y :: .int z :: st) (ifB (decide (z ≤ y)) A B) := by
  obtain ⟨p, la, e, R, s, m, args, below, meth, c, X, c0, s0, Q, hF, rF⟩ := Γ
  obtain ⟨hx, hb, hown, hts, hKw, hbs, hfr, hlo, hcl, hsl, hnm⟩ := ok
  subst hp
  intro h x H locs ls cells slots h1 h2 h3 h4 h5 h6 h7 h8 h9 h10
  exact lv_icmp_le hx hb hd ht (fun hc => kt h x H locs ls cells slots (by simpa [ifB, hc] using h1) h2 h3 h4 h5 h6 h7 h8 h9 h10) (fun hc => kf h x H locs ls cells slots (by simpa [ifB, hc] using h1) h2 h3 h4 h5 h6 h7 h8 h9 h10)
end RULES
