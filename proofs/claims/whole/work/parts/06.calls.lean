/-! New cells; calls. -/
section CALLS
variable {Γ : Cx} {cc : ByteArray} {own : String} {d : Nat} {nm : String} {τ σ : Type} {inj : τ → Option Value} {P A B : PM τ} {pc pc' tgt : Nat} {l l' : List (Option Value)} {st : List Value}
theorem grown_some {τ : Type} {h1 h' : AH} {r : Option (τ × AH)} {x : τ} (h : grown h1 r = some (x, h')) : r = some (x, h') ∧ h1.1 ≤ h'.1 ∧ h1.2.1 ≤ h'.2.1 := by
  unfold grown at h
  split at h
  · split at h
    · rename_i q
      cases h
      exact ⟨rfl, q⟩
    · cases h
  · cases h
theorem rel_push {X : Wx} {h : AH} {H H1 : Heap} (hR : Rel X h H) (z : Nat) (c : ACell) (hz : H1.size = H.size + 1) (ho : ∀ q, q < H.size → H1[q]? = H[q]?) (hc : va_at X.1 vwCl (H.size, cvc X c) H1) : Rel X (h.1 + 1, z, upA h.2.2 (h.1 + 1) c) H1 := by
  refine ⟨by rw [hz, hR.1]; show _ = X.2.2.2 + (h.1 + 1); omega, ?_⟩
  rw [wsO_push]
  refine (hR.2.kept fun k q hk => ho q.1 (hR.2 k q hk).lt).app (fun k q hk => ?_)
  have hz : k < 1 := (List.getElem?_eq_some_iff.mp hk).1
  rw [show k = 0 by omega] at hk
  cases hk
  rw [← hR.1]
  exact hc
theorem s_push {b0 : Nat} {H0 H H1 : Heap} {locs : List Loc} (hS : va_S (fun q => b0 ≤ q) H0 H locs) (hz : H1.size = H.size + 1) (ho : ∀ q, q < H.size → H1[q]? = H[q]?) : va_S (fun q => b0 ≤ q) H0 H1 locs :=
  ⟨Nat.le_trans hS.1 (by omega), fun q h1 h2 => (ho q (Nat.lt_of_lt_of_le h1 hS.1)).trans (hS.2.1 q h1 h2), hS.2.2⟩
theorem sw_newO (ok : OKc Γ cc own d nm) {idx ci N : Nat} {C : String} {T : u_T} {ty : Nat → FieldType} {fs : List Value} (hc : vwCl[ci]? = some (C, T, N)) (hin : ∀ w ∈ u_ws C T N, w ∈ tALL) (hty : ∀ k, k < N → parseFieldDescriptor (T k).2.2.1 = some (ty k)) (hw1 : Jvm.Cond.classLink own idx C ∈ tALL) (hw2 : Jvm.Cond.instantiable C N ∈ tALL) (hw3 : Jvm.Cond.initialized C ∈ tALL) (hfs : ∀ X, ∀ j, j < N → defaultValue (ty j) = vp_V (fs.map (cv X)) j) (hd : decode cc pc = .ok (.new idx, 3)) (hp : pc + 3 = pc') {f : Nat → PM τ} (kk : ∀ v : Nat, SW Γ inj pc' l (.ref v :: st) (f v)) : SW Γ inj pc l st (newO ci N fs f) := by
  obtain ⟨p, la, e, R, s, m, args, below, meth, c, X, c0, s0, Q, hF, rF⟩ := Γ
  obtain ⟨hx, hb, hown, hts, hKw, hbs, hfr, hlo, hcl, hsl, hnm⟩ := ok
  subst hp
  intro h x H locs ls cells slots h1 h2 h3 h4 h5 h6 h7 h8 h9 h10
  obtain ⟨g1, g2, g3⟩ := grown_some (show grown (h.1 + 1, h.2.1 + N, h.2.2) _ = _ from h1)
  have g2 : h.1 + 1 ≤ hF.1 := g2
  have g3 : h.2.1 + N ≤ hF.2.1 := g3
  have hKn := hKw.1.1 ci _ hc
  refine W.newcK hx hb hown (hts _ hw1) (hts _ hw2) (hts _ hw3) rfl hd (by omega) (by omega) hKn.2.1 rfl fun H1 kC hkC e1 z1 o1 => ?_
  have hR := rel_push h3 (h.2.1 + N) (.inl (ci, fs)) z1 o1 ⟨_, hc, (u_born ty hts hin hKn hkC e1 hty).to (hfs X)⟩
  have := kk (h.1 + 1) (h.1 + 1, h.2.1 + N, upA h.2.2 (h.1 + 1) (.inl (ci, fs))) x H1 locs ls (cells + 1) (slots + N) g1 h2 hR (s_push h4 z1 o1) h5 h6 (by show _ = h.1 + 1; omega) (by show _ = h.2.1 + N; omega) g2 g3
  rw [h3.1]
  exact this
theorem sw_newA (ok : OKc Γ cc own d nm) {i : Int32} (hw : Jvm.Cond.arrayClass .int ∈ tALL) (hd : decode cc pc = .ok (.newarray .int, 2)) (hp : pc + 2 = pc') {f : Nat → PM τ} (kk : ∀ v : Nat, SW Γ inj pc' l (.ref v :: st) (f v)) : SW Γ inj pc l (.int i :: st) (newA i f) := by
  obtain ⟨p, la, e, R, s, m, args, below, meth, c, X, c0, s0, Q, hF, rF⟩ := Γ
  obtain ⟨hx, hb, hown, hts, hKw, hbs, hfr, hlo, hcl, hsl, hnm⟩ := ok
  subst hp
  intro h x H locs ls cells slots h1 h2 h3 h4 h5 h6 h7 h8 h9 h10
  unfold newA at h1
  split at h1
  · rename_i q
    obtain ⟨g1, g2, g3⟩ := grown_some h1
    have g2 : h.1 + 1 ≤ hF.1 := g2
    have g3 : h.2.1 + i.toNatClampNeg ≤ hF.2.1 := g3
    have hneg : ¬ i < 0 := fun z => by
      have := Int32.lt_iff_toInt_lt.mp z
      have e0 : (0 : Int32).toInt = 0 := by decide
      omega
    have hbig : i.toNatClampNeg * 4 ≤ 536870912 := by
      have : i.toNatClampNeg = i.toInt.toNat := rfl
      omega
    refine va_newaK (atype := .int) hx hb (hts _ hw) rfl hd rfl hneg rfl hbig (by omega) (by omega) rfl fun H1 cA e1 z1 o1 hAr hNm => ?_
    have hcA : cA = X.2.1 0 := by
      have h0 : s.vm.findClass ("[" ++ FieldType.int.toString) = some (X.2.1 0) := (hKw.1.2 0 _ rfl).2
      exact Option.some.inj (hNm.symm.trans h0)
    subst hcA
    have hR := rel_push h3 (h.2.1 + i.toNatClampNeg) (.inr (.inl (i.toNatClampNeg, fun _ => 0))) z1 o1 e1
    have := kk (h.1 + 1) _ x H1 locs ls (cells + 1) (slots + i.toNatClampNeg) g1 h2 hR (s_push h4 z1 o1) h5 h6 (by show _ = h.1 + 1; omega) (by show _ = h.2.1 + _; omega) g2 g3
    rw [h3.1]
    exact this
  · cases h1
theorem sw_newR (ok : OKc Γ cc own d nm) {idx t : Nat} {i : Int32} (ht3 : t < 3) (hw : Jvm.Cond.classLink own idx (tgn t) ∈ tALL) (hd : decode cc pc = .ok (.anewarray idx, 3)) (hp : pc + 3 = pc') {f : Nat → PM τ} (kk : ∀ v : Nat, SW Γ inj pc' l (.ref v :: st) (f v)) : SW Γ inj pc l (.int i :: st) (newR t i f) := by
  obtain ⟨p, la, e, R, s, m, args, below, meth, c, X, c0, s0, Q, hF, rF⟩ := Γ
  obtain ⟨hx, hb, hown, hts, hKw, hbs, hfr, hlo, hcl, hsl, hnm⟩ := ok
  subst hp
  intro h x H locs ls cells slots h1 h2 h3 h4 h5 h6 h7 h8 h9 h10
  unfold newR at h1
  split at h1
  · rename_i q
    obtain ⟨g1, g2, g3⟩ := grown_some h1
    have g2 : h.1 + 1 ≤ hF.1 := g2
    have g3 : h.2.1 + i.toNatClampNeg ≤ hF.2.1 := g3
    have hneg : ¬ i < 0 := fun z => by
      have := Int32.lt_iff_toInt_lt.mp z
      have e0 : (0 : Int32).toInt = 0 := by decide
      omega
    have hbig : i.toNatClampNeg * 4 ≤ 536870912 := by
      have : i.toNatClampNeg = i.toInt.toNat := rfl
      omega
    refine W.anew hx hb hown (hts _ hw) (va_AO.use (hKw.ao ht3)) rfl hd rfl hneg hbig (by omega) (by omega) fun cA kA comp f1 f2 f3 f4 => ?_
    generalize hH1 : H.push ({ cls := cA, slots := Array.replicate i.toNatClampNeg .null, vm := .none } : Cell) = H1
    have z1 : H1.size = H.size + 1 := by rw [← hH1, Array.size_push]
    have e1 : H1[H.size]? = some (arrV cA i.toNatClampNeg (fun _ => .null)) := by rw [← hH1, Array.getElem?_push_size, ← arrV_new]
    have o1 : ∀ q : Nat, q < H.size → H1[q]? = H[q]? := fun q hq => by rw [← hH1, Array.getElem?_push, if_neg (Nat.ne_of_lt hq)]
    have hcA : cA = X.2.1 (t + 1) := by
      obtain ⟨kA', comp', u1, u2, u3, u4⟩ := (hKw.1.2 (t + 1) _ (tyL_t X ht3)).2
      exact Option.some.inj (f1.symm.trans u4)
    subst hcA
    have hR := rel_push h3 (h.2.1 + i.toNatClampNeg) (.inr (.inr (t, i.toNatClampNeg, fun _ => none))) z1 o1 (by
      show H1[H.size]? = some (vp_cell _ _)
      rw [vp_cell_q]
      exact e1)
    have := kk (h.1 + 1) _ x H1 locs ls (cells + 1) (slots + i.toNatClampNeg) g1 h2 hR (s_push h4 z1 o1) h5 h6 (by show _ = h.1 + 1; omega) (by show _ = h.2.1 + _; omega) g2 g3
    rw [h3.1]
    exact this
  · cases h1
/-- what every link of a call says -/
def LKy (y : MethodName) (n : Nat) : Prop := Jvm.Cond.initialized y.cls ∈ tALL ∧ y.cls ≠ "java/lang/invoke/MethodHandle" ∧ y.cls ≠ "java/lang/invoke/VarHandle" ∧ (parseMethodDescriptor y.desc).map (fun d => d.parameters.length) = some n
def LKn (own : String) (idx : Nat) (y : MethodName) : Prop := Jvm.Cond.methodLink own idx y ∈ tALL ∨ ∃ host, Jvm.Cond.methodLinkNest own idx y host ∈ tNEST
def LKv (own : String) (idx : Nat) (y : MethodName) (n ci : Nat) : Prop := LKy y n ∧ LKn own idx y ∧ Jvm.Cond.instanceMethod y ∈ tALL ∧ Jvm.Cond.selects y.cls y y ∈ tALL ∧ ∃ r, vwCl[ci]? = some r ∧ r.1 = y.cls
def LKs (own : String) (idx : Nat) (y : MethodName) (n : Nat) : Prop := LKy y n ∧ LKn own idx y ∧ Jvm.Cond.static y ∈ tALL
def LKi (own : String) (idx : Nat) (y : MethodName) (n : Nat) : Prop := LKy y n ∧ LKn own idx y ∧ Jvm.Cond.instanceMethod y ∈ tALL ∧ y.name = "<init>"
theorem w_call {p : Program} {la : Launch} {e : Env} {R : Room} {s : State} {m : MethodId} {args : Array Value} {below : List Frame} {meth : Method} {c : Code} {H : Heap} {locs : List Loc} {cells slots mc ms : Nat} {Q : State → Prop} {pc : Nat} {ls : Array Slot} {rest st0 : List Value} {X : Wx} {h1 : AH} {vv : Option Value}
    (hr : va_Run p la e R s m args below meth c H locs cells slots mc ms (F0 m pc ls st0) rest (fun st oc t => oc = .returned vv ∧ Rel X h1 t.heap ∧ va_F (fun q => X.2.2.2 ≤ q) st t) (fun q => X.2.2.2 ≤ q)) (hS : va_S (fun q => X.2.2.2 ≤ q) s.heap H locs)
    (kk : ∀ (H1 : Heap) (locs1 : List Loc), Rel X h1 H1 → va_S (fun q => X.2.2.2 ≤ q) s.heap H1 locs1 → W p la e R s m args below meth c H1 locs1 (cells + mc) (slots + ms) Q (F0 m (pc + 3) ls (vv.toList ++ rest))) : W p la e R s m args below meth c H locs cells slots Q (F0 m pc ls st0) := by
  intro T hT XX
  obtain ⟨v, st₀, t, T', L, h0, X', hL, e1, e2, ⟨hv, hrel, hz, hk⟩, st⟩ := hr T hT XX
  cases hv
  rw [h0] at hz hk
  obtain ⟨t2, a1, b1⟩ := kk T'.heap (locs ++ L) (by rw [e1]; exact hrel)
    ⟨Nat.le_trans hS.1 (by rw [e1]; exact hz), fun q h1 h2 => by rw [e1, hk q (Nat.lt_of_lt_of_le h1 hS.1) h2]; exact hS.2.1 q h1 h2, fun q hq => by
      rcases List.mem_append.mp hq with h | h
      · exact hS.2.2 q h
      · exact hL q h⟩ T' rfl X'
  exact ⟨t2, st t2 a1, b1⟩
/-- a callee's start, whoever calls -/
theorem w_pre {X : Wx} {h : AH} {s : State} {H : Heap} {as : List Value} (hKw : Kw X s) (hR : Rel X h H) (hbs : X.2.2.2 ≤ s.heap.size) (hsz : s.heap.size ≤ H.size) : PreS s H (va_Pc (as.map (cv X)) (fun U => Rel X h U.heap ∧ Kw X U ∧ X.2.2.2 ≤ U.heap.size)) (as.map (cv X)) :=
  ⟨fun a U g mk q => ⟨q.1, q.2.1, Kw.same (U := U) rfl q.2.2.1, q.2.2.2⟩, fun U hU hW => ⟨rfl, by rw [hU]; exact hR, hKw.warm hW, by rw [hU]; omega⟩⟩
theorem room_ok {d d' maxL : Nat} {R : Room} (hfr : d ≤ R.frames) (hlo : 64 * d ≤ R.locals) (hd' : d' + 1 ≤ d) (hm : maxL ≤ 45) (mc ms : Nat) : (rmD d' mc ms).frames + 1 ≤ R.frames ∧ 8 + (maxL + 11) + (rmD d' mc ms).locals ≤ R.locals := by
  refine ⟨by show d' + 1 ≤ _; omega, by show 8 + (maxL + 11) + 64 * d' ≤ _; omega⟩
theorem rev_cv (X : Wx) (as rest : List Value) (a : Nat) : (as.reverse ++ .ref a :: rest).map (cv X) = (as.map (cv X)).reverse ++ .ref (ad X a) :: rest.map (cv X) := by simp [List.map_append, List.map_reverse, cv]
theorem rev_cs (X : Wx) (as rest : List Value) : (as.reverse ++ rest).map (cv X) = (as.map (cv X)).reverse ++ rest.map (cv X) := by simp [List.map_append, List.map_reverse]
theorem push_cv (X : Wx) (o : Option Value) (rest : List Value) : (o.toList ++ rest).map (cv X) = (o.map (cv X)).toList ++ rest.map (cv X) := by cases o <;> rfl
theorem sw_cllV (ok : OKc Γ cc own d nm) {injs : σ → Option Value} {as : List Value} {a : Nat} {Pc : PM σ} {y : MethodName} {code : ByteArray} {maxL d' : Nat} {ret : Option FieldType} (hS : Sim d' y code maxL ret injs (.ref a :: as) Pc) (hdd : d' + 1 ≤ d) {idx n : Nat} {ci : Nat} (hL : LKv own idx y n ci) (hn : as.length = n) (hd : decode cc pc = .ok (.invokevirtual idx, 3)) {stk : List Value} (hst : stk = as.reverse ++ .ref a :: st) (hw : (st.map fun v => v.category).sum ≤ 8) (hp : pc + 3 = pc') {f : σ → PM τ} (kk : ∀ v : σ, SW Γ inj pc' l ((injs v).toList ++ st) (f v)) : SW Γ inj pc l stk (cllV ci a Pc f) := by
  obtain ⟨p, la, e, R, s, m, args, below, meth, c, X, c0, s0, Q, hF, rF⟩ := Γ
  have ok' := ok
  obtain ⟨hx, hb, hown, hts, hKw, hbs, hfr, hlo, hcl, hsl, hnm⟩ := ok'
  subst hp
  subst hst
  intro h x H locs ls cells slots h1 h2 h3 h4 h5 h6 h7 h8 h9 h10
  obtain ⟨v, hM1, hP, hm1, hm2, hF1⟩ : ∃ (v : σ) (hM1 : AH), Pc h = some (v, hM1) ∧ h.1 ≤ hM1.1 ∧ h.2.1 ≤ hM1.2.1 ∧ f v hM1 = some (x, hF) ∧ hM1.1 ≤ hF.1 ∧ hM1.2.1 ≤ hF.2.1 ∧ ∃ fs, celO h a = some (.inl (ci, fs)) := by
    unfold cllV at h1
    split at h1
    · rename_i cI fs hc
      split at h1
      · rename_i q
        subst q
        unfold cll0 at h1
        split at h1
        · rename_i v hM1 hP
          split at h1
          · rename_i q
            exact ⟨v, hM1, hP, by omega, by omega, h1, by omega, by omega, fs, hc⟩
          · cases h1
        · cases h1
      · cases h1
    · cases h1
  obtain ⟨hcode, hmx, hSim⟩ := hS
  have hMet := hSim la X h v hM1 hP hm1 hm2
  have hGood := tALL_good _ hcode
  obtain ⟨hF1, hf1, hf2, fs, hcel⟩ := hF1
  obtain ⟨j, rfl, hj, hcell⟩ := celO_some hcel
  obtain ⟨⟨l1, l2, l3, l4⟩, hlk, hin, hse, r, hr1, hr2⟩ := hL
  have he := wsO_at X h hj
  rw [hcell] at he
  have hrec := va_recv hKw.1 h3.2 hr1 he
  rw [hr2] at hrec
  have hpre := w_pre (as := .ref (j + 1) :: as) hKw h3 hbs h4.1
  have hpv : PreV s H y.cls (ad X (j + 1)) (va_Pc ((.ref (j + 1) :: as).map (cv X)) (fun U => Rel X h U.heap ∧ Kw X U ∧ X.2.2.2 ≤ U.heap.size)) (as.map (cv X)) := ⟨hpre.1, hrec, hpre.2⟩
  have hsum : (List.map (fun v => v.category) (st.map (cv X))).sum ≤ 8 := by rw [cv_sum]; exact hw
  have hlen : (as.map (cv X)).length = n := by rw [List.length_map]; exact hn
  have hend : ∀ (H1 : Heap) (locs1 : List Loc), Rel X hM1 H1 → va_S (fun q => X.2.2.2 ≤ q) s.heap H1 locs1 → W p la e R s m args below meth c H1 locs1 (cells + (hM1.1 - h.1)) (slots + (hM1.2.1 - h.2.1)) Q (F0 m (pc + 3) ls (((injs v).map (cv X)).toList ++ st.map (cv X))) := by
    intro H1 locs1 hR1 hS1
    rw [← push_cv]
    exact kk v hM1 x H1 locs1 ls _ _ hF1 h2 hR1 hS1 h5 h6 (by omega) (by omega) hf1 hf2
  rcases hlk with hlk | ⟨host, hlk⟩
  · exact w_call (va_runV ⟨hx, hb, rfl, hown, hts⟩ hMet ⟨callB_of n hts hGood rfl rfl rfl (hts _ l1) (hts _ hlk) ⟨l2, l3, l4⟩ (room_ok hfr hlo hdd hmx _ _), hts _ hin, hts _ hse⟩ hpv rfl hlen h6 (rev_cv X as st (j + 1)) (lv_room hsum) hd ⟨by show _ ≤ _; omega, by show _ ≤ _; omega⟩) h4 hend
  · exact w_call (va_runVN ⟨hx, hb, rfl, hown, hts⟩ hMet ⟨va_cnB n hts hGood rfl rfl rfl (hKw.2.1 _ hlk) (hts _ l1) ⟨l2, l3, l4⟩ (room_ok hfr hlo hdd hmx _ _), hts _ hin, hts _ hse⟩ hpv rfl hlen h6 (rev_cv X as st (j + 1)) (lv_room hsum) hd ⟨by show _ ≤ _; omega, by show _ ≤ _; omega⟩) h4 hend
theorem sw_cll0 (ok : OKc Γ cc own d nm) {injs : σ → Option Value} {as : List Value} {Pc : PM σ} {y : MethodName} {code : ByteArray} {maxL d' : Nat} {ret : Option FieldType} (hS : Sim d' y code maxL ret injs (as) Pc) (hdd : d' + 1 ≤ d) {idx n : Nat} (hL : LKs own idx y n) (hn : as.length = n) (hd : decode cc pc = .ok (.invokestatic idx, 3)) {stk : List Value} (hst : stk = as.reverse ++ st) (hw : (st.map fun v => v.category).sum ≤ 8) (hp : pc + 3 = pc') {f : σ → PM τ} (kk : ∀ v : σ, SW Γ inj pc' l ((injs v).toList ++ st) (f v)) : SW Γ inj pc l stk (cll0 Pc f) := by
  obtain ⟨p, la, e, R, s, m, args, below, meth, c, X, c0, s0, Q, hF, rF⟩ := Γ
  have ok' := ok
  obtain ⟨hx, hb, hown, hts, hKw, hbs, hfr, hlo, hcl, hsl, hnm⟩ := ok'
  subst hp
  subst hst
  intro h x H locs ls cells slots h1 h2 h3 h4 h5 h6 h7 h8 h9 h10
  obtain ⟨v, hM1, hP, hm1, hm2, hF1⟩ : ∃ (v : σ) (hM1 : AH), Pc h = some (v, hM1) ∧ h.1 ≤ hM1.1 ∧ h.2.1 ≤ hM1.2.1 ∧ f v hM1 = some (x, hF) ∧ hM1.1 ≤ hF.1 ∧ hM1.2.1 ≤ hF.2.1 := by
    unfold cll0 at h1
    split at h1
    · rename_i v hM1 hP
      split at h1
      · rename_i q
        exact ⟨v, hM1, hP, by omega, by omega, h1, by omega, by omega⟩
      · cases h1
    · cases h1
  obtain ⟨hcode, hmx, hSim⟩ := hS
  have hMet := hSim la X h v hM1 hP hm1 hm2
  have hGood := tALL_good _ hcode
  obtain ⟨hF1, hf1, hf2⟩ := hF1
  obtain ⟨⟨l1, l2, l3, l4⟩, hlk, hstt⟩ := hL
  have hpv := w_pre (as := as) hKw h3 hbs h4.1
  have hsum : (List.map (fun v => v.category) (st.map (cv X))).sum ≤ 8 := by rw [cv_sum]; exact hw
  have hlen : (as.map (cv X)).length = n := by rw [List.length_map]; exact hn
  have hend : ∀ (H1 : Heap) (locs1 : List Loc), Rel X hM1 H1 → va_S (fun q => X.2.2.2 ≤ q) s.heap H1 locs1 → W p la e R s m args below meth c H1 locs1 (cells + (hM1.1 - h.1)) (slots + (hM1.2.1 - h.2.1)) Q (F0 m (pc + 3) ls (((injs v).map (cv X)).toList ++ st.map (cv X))) := by
    intro H1 locs1 hR1 hS1
    rw [← push_cv]
    exact kk v hM1 x H1 locs1 ls _ _ hF1 h2 hR1 hS1 h5 h6 (by omega) (by omega) hf1 hf2
  rcases hlk with hlk | ⟨host, hlk⟩
  · exact w_call (va_runS ⟨hx, hb, rfl, hown, hts⟩ hMet ⟨callB_of n hts hGood rfl rfl rfl (hts _ l1) (hts _ hlk) ⟨l2, l3, l4⟩ (room_ok hfr hlo hdd hmx _ _), hts _ hstt⟩ hpv rfl hlen h6 (rev_cs X as st) (lv_room hsum) hd ⟨by show _ ≤ _; omega, by show _ ≤ _; omega⟩) h4 hend
  · exact w_call (va_runSN ⟨hx, hb, rfl, hown, hts⟩ hMet ⟨va_cnB n hts hGood rfl rfl rfl (hKw.2.1 _ hlk) (hts _ l1) ⟨l2, l3, l4⟩ (room_ok hfr hlo hdd hmx _ _), hts _ hstt, trivial⟩ hpv rfl hlen h6 (rev_cs X as st) (lv_room hsum) hd ⟨by show _ ≤ _; omega, by show _ ≤ _; omega⟩) h4 hend
theorem sw_cllA (ok : OKc Γ cc own d nm) {injs : σ → Option Value} {as : List Value} {a : Nat} {Pc : PM σ} {y : MethodName} {code : ByteArray} {maxL d' : Nat}  (hS : Sim d' y code maxL (.none) injs (.ref a :: as) Pc) (hdd : d' + 1 ≤ d) {idx n : Nat} (hL : LKi own idx y n) (hn : as.length = n) (hd : decode cc pc = .ok (.invokespecial idx, 3)) {stk : List Value} (hst : stk = as.reverse ++ .ref a :: st) (hw : (st.map fun v => v.category).sum ≤ 8) (hp : pc + 3 = pc') {f : σ → PM τ} (kk : ∀ v : σ, SW Γ inj pc' l ((injs v).toList ++ st) (f v)) : SW Γ inj pc l stk (cllA Pc f) := by
  obtain ⟨p, la, e, R, s, m, args, below, meth, c, X, c0, s0, Q, hF, rF⟩ := Γ
  have ok' := ok
  obtain ⟨hx, hb, hown, hts, hKw, hbs, hfr, hlo, hcl, hsl, hnm⟩ := ok'
  subst hp
  subst hst
  intro h x H locs ls cells slots h1 h2 h3 h4 h5 h6 h7 h8 h9 h10
  obtain ⟨v, hM1, hP, hm1, hm2, hF1⟩ : ∃ (v : σ) (hM1 : AH), Pc h = some (v, hM1) ∧ h.1 ≤ hM1.1 ∧ h.2.1 ≤ hM1.2.1 ∧ f v hM1 = some (x, hF) ∧ hM1.1 ≤ hF.1 ∧ hM1.2.1 ≤ hF.2.1 := by
    unfold cllA at h1
    split at h1
    · rename_i v hM1 hP
      split at h1
      · rename_i q
        obtain ⟨g1, g2, g3⟩ := grown_some h1
        exact ⟨v, hM1, hP, q.1, q.2, g1, g2, g3⟩
      · cases h1
    · cases h1
  obtain ⟨hcode, hmx, hSim⟩ := hS
  have hMet := hSim la X h v hM1 hP hm1 hm2
  have hGood := tALL_good _ hcode
  obtain ⟨hF1, hf1, hf2⟩ := hF1
  obtain ⟨⟨l1, l2, l3, l4⟩, hlk, hin, hyn⟩ := hL
  have hpv := w_pre (as := .ref a :: as) hKw h3 hbs h4.1
  have hsum : (List.map (fun v => v.category) (st.map (cv X))).sum ≤ 8 := by rw [cv_sum]; exact hw
  have hlen : (as.map (cv X)).length = n := by rw [List.length_map]; exact hn
  have hend : ∀ (H1 : Heap) (locs1 : List Loc), Rel X hM1 H1 → va_S (fun q => X.2.2.2 ≤ q) s.heap H1 locs1 → W p la e R s m args below meth c H1 locs1 (cells + (hM1.1 - h.1)) (slots + (hM1.2.1 - h.2.1)) Q (F0 m (pc + 3) ls (((injs v).map (cv X)).toList ++ st.map (cv X))) := by
    intro H1 locs1 hR1 hS1
    rw [← push_cv]
    exact kk v hM1 x H1 locs1 ls _ _ hF1 h2 hR1 hS1 h5 h6 (by omega) (by omega) hf1 hf2
  rcases hlk with hlk | ⟨host, hlk⟩
  · exact w_call (va_runI (b := ad X a) (As := as.map (cv X)) ⟨hx, hb, rfl, hown, hts⟩ hMet ⟨callB_of n hts hGood rfl rfl rfl (hts _ l1) (hts _ hlk) ⟨l2, l3, l4⟩ (room_ok hfr hlo hdd hmx _ _), hyn, hts _ hin⟩ hpv rfl hlen h6 (rev_cv X as st a) (lv_room hsum) hd ⟨by show _ ≤ _; omega, by show _ ≤ _; omega⟩) h4 hend
  · exact w_call (va_runIN (b := ad X a) (As := as.map (cv X)) ⟨hx, hb, rfl, hown, hts⟩ hMet ⟨va_cnB n hts hGood rfl rfl rfl (hKw.2.1 _ hlk) (hts _ l1) ⟨l2, l3, l4⟩ (room_ok hfr hlo hdd hmx _ _), hyn, hts _ hin⟩ hpv rfl hlen h6 (rev_cv X as st a) (lv_room hsum) hd ⟨by show _ ≤ _; omega, by show _ ≤ _; omega⟩) h4 hend
theorem sw_cllV_I (ok : OKc Γ cc own d nm) {as : List Value} {a : Nat} {Pc : PM Int32} {y : MethodName} {code : ByteArray} {maxL d' : Nat} {ret : Option FieldType} (hS : Sim d' y code maxL ret iI (.ref a :: as) Pc) (hdd : d' + 1 ≤ d) {idx n : Nat} {ci : Nat} (hL : LKv own idx y n ci) (hn : as.length = n) (hd : decode cc pc = .ok (.invokevirtual idx, 3)) {stk : List Value} (hst : stk = as.reverse ++ .ref a :: st) (hw : (st.map fun v => v.category).sum ≤ 8) (hp : pc + 3 = pc') {f : Int32 → PM τ} (kk : ∀ v : Int32, SW Γ inj pc' l (.int v :: st) (f v)) : SW Γ inj pc l stk (cllV ci a Pc f) := sw_cllV ok hS hdd hL hn hd hst hw hp kk
theorem sw_cllV_L (ok : OKc Γ cc own d nm) {as : List Value} {a : Nat} {Pc : PM Int64} {y : MethodName} {code : ByteArray} {maxL d' : Nat} {ret : Option FieldType} (hS : Sim d' y code maxL ret iL (.ref a :: as) Pc) (hdd : d' + 1 ≤ d) {idx n : Nat} {ci : Nat} (hL : LKv own idx y n ci) (hn : as.length = n) (hd : decode cc pc = .ok (.invokevirtual idx, 3)) {stk : List Value} (hst : stk = as.reverse ++ .ref a :: st) (hw : (st.map fun v => v.category).sum ≤ 8) (hp : pc + 3 = pc') {f : Int64 → PM τ} (kk : ∀ v : Int64, SW Γ inj pc' l (.long v :: st) (f v)) : SW Γ inj pc l stk (cllV ci a Pc f) := sw_cllV ok hS hdd hL hn hd hst hw hp kk
theorem sw_cllV_R (ok : OKc Γ cc own d nm) {as : List Value} {a : Nat} {Pc : PM Nat} {y : MethodName} {code : ByteArray} {maxL d' : Nat} {ret : Option FieldType} (hS : Sim d' y code maxL ret iR (.ref a :: as) Pc) (hdd : d' + 1 ≤ d) {idx n : Nat} {ci : Nat} (hL : LKv own idx y n ci) (hn : as.length = n) (hd : decode cc pc = .ok (.invokevirtual idx, 3)) {stk : List Value} (hst : stk = as.reverse ++ .ref a :: st) (hw : (st.map fun v => v.category).sum ≤ 8) (hp : pc + 3 = pc') {f : Nat → PM τ} (kk : ∀ v : Nat, SW Γ inj pc' l (.ref v :: st) (f v)) : SW Γ inj pc l stk (cllV ci a Pc f) := sw_cllV ok hS hdd hL hn hd hst hw hp kk
theorem sw_cllV_U (ok : OKc Γ cc own d nm) {as : List Value} {a : Nat} {Pc : PM Unit} {y : MethodName} {code : ByteArray} {maxL d' : Nat} {ret : Option FieldType} (hS : Sim d' y code maxL ret iU (.ref a :: as) Pc) (hdd : d' + 1 ≤ d) {idx n : Nat} {ci : Nat} (hL : LKv own idx y n ci) (hn : as.length = n) (hd : decode cc pc = .ok (.invokevirtual idx, 3)) {stk : List Value} (hst : stk = as.reverse ++ .ref a :: st) (hw : (st.map fun v => v.category).sum ≤ 8) (hp : pc + 3 = pc') {f : Unit → PM τ} (kk : ∀ v : Unit, SW Γ inj pc' l (st) (f v)) : SW Γ inj pc l stk (cllV ci a Pc f) := sw_cllV ok hS hdd hL hn hd hst hw hp kk
theorem sw_cll0_I (ok : OKc Γ cc own d nm) {as : List Value} {Pc : PM Int32} {y : MethodName} {code : ByteArray} {maxL d' : Nat} {ret : Option FieldType} (hS : Sim d' y code maxL ret iI (as) Pc) (hdd : d' + 1 ≤ d) {idx n : Nat} (hL : LKs own idx y n) (hn : as.length = n) (hd : decode cc pc = .ok (.invokestatic idx, 3)) {stk : List Value} (hst : stk = as.reverse ++ st) (hw : (st.map fun v => v.category).sum ≤ 8) (hp : pc + 3 = pc') {f : Int32 → PM τ} (kk : ∀ v : Int32, SW Γ inj pc' l (.int v :: st) (f v)) : SW Γ inj pc l stk (cll0 Pc f) := sw_cll0 ok hS hdd hL hn hd hst hw hp kk
theorem sw_cll0_L (ok : OKc Γ cc own d nm) {as : List Value} {Pc : PM Int64} {y : MethodName} {code : ByteArray} {maxL d' : Nat} {ret : Option FieldType} (hS : Sim d' y code maxL ret iL (as) Pc) (hdd : d' + 1 ≤ d) {idx n : Nat} (hL : LKs own idx y n) (hn : as.length = n) (hd : decode cc pc = .ok (.invokestatic idx, 3)) {stk : List Value} (hst : stk = as.reverse ++ st) (hw : (st.map fun v => v.category).sum ≤ 8) (hp : pc + 3 = pc') {f : Int64 → PM τ} (kk : ∀ v : Int64, SW Γ inj pc' l (.long v :: st) (f v)) : SW Γ inj pc l stk (cll0 Pc f) := sw_cll0 ok hS hdd hL hn hd hst hw hp kk
theorem sw_cll0_R (ok : OKc Γ cc own d nm) {as : List Value} {Pc : PM Nat} {y : MethodName} {code : ByteArray} {maxL d' : Nat} {ret : Option FieldType} (hS : Sim d' y code maxL ret iR (as) Pc) (hdd : d' + 1 ≤ d) {idx n : Nat} (hL : LKs own idx y n) (hn : as.length = n) (hd : decode cc pc = .ok (.invokestatic idx, 3)) {stk : List Value} (hst : stk = as.reverse ++ st) (hw : (st.map fun v => v.category).sum ≤ 8) (hp : pc + 3 = pc') {f : Nat → PM τ} (kk : ∀ v : Nat, SW Γ inj pc' l (.ref v :: st) (f v)) : SW Γ inj pc l stk (cll0 Pc f) := sw_cll0 ok hS hdd hL hn hd hst hw hp kk
theorem sw_cll0_U (ok : OKc Γ cc own d nm) {as : List Value} {Pc : PM Unit} {y : MethodName} {code : ByteArray} {maxL d' : Nat} {ret : Option FieldType} (hS : Sim d' y code maxL ret iU (as) Pc) (hdd : d' + 1 ≤ d) {idx n : Nat} (hL : LKs own idx y n) (hn : as.length = n) (hd : decode cc pc = .ok (.invokestatic idx, 3)) {stk : List Value} (hst : stk = as.reverse ++ st) (hw : (st.map fun v => v.category).sum ≤ 8) (hp : pc + 3 = pc') {f : Unit → PM τ} (kk : ∀ v : Unit, SW Γ inj pc' l (st) (f v)) : SW Γ inj pc l stk (cll0 Pc f) := sw_cll0 ok hS hdd hL hn hd hst hw hp kk
theorem sw_cllA_U (ok : OKc Γ cc own d nm) {as : List Value} {a : Nat} {Pc : PM Unit} {y : MethodName} {code : ByteArray} {maxL d' : Nat}  (hS : Sim d' y code maxL (.none) iU (.ref a :: as) Pc) (hdd : d' + 1 ≤ d) {idx n : Nat} (hL : LKi own idx y n) (hn : as.length = n) (hd : decode cc pc = .ok (.invokespecial idx, 3)) {stk : List Value} (hst : stk = as.reverse ++ .ref a :: st) (hw : (st.map fun v => v.category).sum ≤ 8) (hp : pc + 3 = pc') {f : Unit → PM τ} (kk : ∀ v : Unit, SW Γ inj pc' l (st) (f v)) : SW Γ inj pc l stk (cllA Pc f) := sw_cllA ok hS hdd hL hn hd hst hw hp kk
theorem sw_jn {k : σ} {f : σ → PM τ} (Q : σ → Prop) (hk : Q k) (kk : ∀ k, Q k → SW Γ inj pc l st (f k)) : SW Γ inj pc l st (jn k f) := kk k hk
end CALLS
