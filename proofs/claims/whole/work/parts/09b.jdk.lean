/-! The same for methods of the JDK that no native stands in for. -/
theorem Met.ofWF {l : Launch} {y : MethodName} {ws ws' : List Jvm.Cond} {rm : Room} {Pc : Array Value → State → Prop} {Qc : Array Value → State → Outcome → State → Prop} {mc ms : Nat} {free : Addr → Prop} {cc : ByteArray} {maxL : Nat} {ret : Option FieldType}
    (hy : plainFor y = true) (hw : ws = Jvm.Cond.code y cc maxL ret :: ws')
    (body : ∀ p e s m args below meth c s₁, BodyLoose p l y (headSpec ws rm) cc maxL ret e s m args below meth c s₁ → c.maxLocals = maxL → Pc args s →
      W p l e (headSpec ws rm).room s m args below meth c s.heap [] 0 0 (MQ below Qc args s mc ms free) (entryFrame m args maxL)) : Met l y ws rm Pc Qc mc ms free := by
  refine MetFree.of_bodySF (code := cc) (maxLocals := maxL) (ret := ret) hy ?_ ?_
  · intro args s m h hn
    obtain ⟨meth, c, h1, h2, h3, h4, h5, h6, -, -⟩ := Cond.code_spec hn (atoms_spec (ws := ws) h _ (by rw [hw]; exact List.mem_cons_self))
    exact ⟨meth, c, h1, h2, h3, h4, h5, h6⟩
  · intro p e s m args below meth c s₁ B hml hP _
    have hh0 : s₁.heap = s.heap := by rw [B.state]; rfl
    obtain ⟨t, a1, o, b1, b2, b3⟩ := body p e s m args below meth c s₁ B hml hP s₁ hh0 (Stand.of_body B)
    exact ⟨t, o, a1, b1, b2, ⟨b3.1, b3.2⟩⟩
set_option maxHeartbeats 4000000 in
theorem Sim.introF {d : Nat} {y : MethodName} {cc : ByteArray} {maxL : Nat} {ret : Option FieldType} {σ : Type} {inj : σ → Option Value} {as : List Value} {P : PM σ} (hc : Jvm.Cond.code y cc maxL ret ∈ tALL) (hm : maxL ≤ 45) (hpl : plainFor y = true) (hlen : (lg_sl as).length ≤ maxL)
    (body : ∀ Γ : Cx, OKc Γ cc y.cls d y.name → OKr Γ cc ret → SW Γ inj 0 (enL maxL as) [] P) : Sim d y cc maxL ret inj as P := by
  refine ⟨hc, hm, fun la X h x h' hP hle hle2 => ?_⟩
  refine Met.ofWF (cc := cc) (maxL := maxL) (ret := ret) hpl rfl ?_
  intro p e s m args below meth c s₁ B hml hv
  obtain ⟨rfl, hR, hK, hbs⟩ := hv
  have hts := atoms_spec (ws := Jvm.Cond.code y cc maxL ret :: tALL) B.pre
  have hown : s.vm.findClass y.cls = some m.cls := findClass_of_methodNamed B.named
  have hlocks := B.notSynchronized
  have hin : meth.name = y.name := (name_of_methodNamed B.named B.method).1
  have hr := B.returns
  have hx := B.exec
  have hb := B.bytes
  have hl := lv_entry (as.map (cv X)) (n := maxL) (by rw [lg_sl_cv]; exact hlen)
  rw [lg_entry_eq]
  generalize (lg_sl (as.map (cv X)) ++ List.replicate (maxL - (lg_sl (as.map (cv X))).length) Slot.unset).toArray = ls at hl ⊢
  refine body (p, la, e, rmD d (h'.1 - h.1) (h'.2.1 - h.2.1), s, m, (as.map (cv X)).toArray, below, meth, c, X, h.1, h.2.1, MQ below (fun _ st oc t => oc = .returned ((inj x).map (cv X)) ∧ Rel X h' t.heap ∧ va_F (fun q => X.2.2.2 ≤ q) st t) (as.map (cv X)).toArray s (h'.1 - h.1) (h'.2.1 - h.2.1) (fun q => X.2.2.2 ≤ q), h', inj x)
    ⟨hx, hb, hown, fun w hw => hts w (List.mem_cons_of_mem _ hw), hK, hbs, Nat.le_refl d, Nat.le_refl _, ?_, ?_, hin⟩ ?_ h x s.heap [] ls 0 0 hP rfl hR va_S.rf ⟨hl.1.trans (enL_len as maxL hlen).symm, hl.2.1, fun j v hj => ?_⟩ (hl.1.trans hml.symm) (Nat.zero_add _) (Nat.zero_add _) hle hle2
  · show h'.1 ≤ (h'.1 - h.1) + h.1
    omega
  · show h'.2.1 ≤ (h'.2.1 - h.2.1) + h.2.1
    omega
  · intro i v pc H locs ls cells slots hd ho hv hRel hS hcc hss
    have e1 : cells = h'.1 - h.1 := by omega
    have e2 : slots = h'.2.1 - h.2.1 := by omega
    subst e1
    subst e2
    unfold rOK at ho
    split at ho
    · rename_i z
      exact W.iret (v := z) hx hb hr (fun t ht _ => ⟨by rw [← hv]; rfl, by rw [ht]; exact hRel, hS.F ht⟩) hS.2.2 hd
    · rename_i z
      exact W.zret (v := z) hx hb hr (by show Value.int (z &&& 1) = _; rw [ho]) (fun t ht _ => ⟨by rw [← hv]; rfl, by rw [ht]; exact hRel, hS.F ht⟩) hS.2.2 hd
    · rename_i z
      exact W.lret (v := z) hx hb hr (fun t ht _ => ⟨by rw [← hv]; rfl, by rw [ht]; exact hRel, hS.F ht⟩) hS.2.2 hd
    · rename_i n z
      exact W.aret (v := .ref (ad X z)) hx hb hr (Or.inl ⟨_, rfl⟩) (Or.inr ⟨_, rfl⟩) (fun t ht _ => ⟨by rw [← hv]; rfl, by rw [ht]; exact hRel, hS.F ht⟩) hS.2.2 hd
    · exact W.vret hx hb hr (fun t ht _ => ⟨by rw [← hv]; rfl, by rw [ht]; exact hRel, hS.F ht⟩) hS.2.2 hd
    · exact ho.elim
  · have := hl.2.2 (0 + j, cv X v) (enL_get X as maxL 0 j v hj)
    simpa using this
