/-! Rules of the heap, of calls, of returns. -/
section HEAP
variable {Γ : Cx} {cc : ByteArray} {own : String} {d : Nat} {nm : String} {τ σ : Type} {inj : τ → Option Value} {P A B : PM τ} {pc pc' tgt : Nat} {l l' : List (Option Value)} {st : List Value}
theorem sw_getI (ok : OKc Γ cc own d nm) {idx ci k a : Nat} (hf : FG own idx ci k) (hd : decode cc pc = .ok (.getfield idx, 3)) (hp : pc + 3 = pc') {f : Int32 → PM τ} (kk : ∀ v : Int32, SW Γ inj pc' l (.int v :: st) (f v)) : SW Γ inj pc l (.ref a :: st) (getI ci k a f) := by
  obtain ⟨p, la, e, R, s, m, args, below, meth, c, X, c0, s0, Q, hF, rF⟩ := Γ
  obtain ⟨hx, hb, hown, hts, hKw, hbs, hfr, hlo, hcl, hsl, hnm⟩ := ok
  subst hp
  intro h x H locs ls cells slots h1 h2 h3 h4 h5 h6 h7 h8 h9 h10
  unfold getI at h1
  split at h1
  · rename_i v hv
    exact w_get hx hb hown hts hKw h3 hf hd hv (kk v h x H locs ls cells slots h1 h2 h3 h4 h5 h6 h7 h8 h9 h10)
  · cases h1
theorem sw_getL (ok : OKc Γ cc own d nm) {idx ci k a : Nat} (hf : FG own idx ci k) (hd : decode cc pc = .ok (.getfield idx, 3)) (hp : pc + 3 = pc') {f : Int64 → PM τ} (kk : ∀ v : Int64, SW Γ inj pc' l (.long v :: st) (f v)) : SW Γ inj pc l (.ref a :: st) (getL ci k a f) := by
  obtain ⟨p, la, e, R, s, m, args, below, meth, c, X, c0, s0, Q, hF, rF⟩ := Γ
  obtain ⟨hx, hb, hown, hts, hKw, hbs, hfr, hlo, hcl, hsl, hnm⟩ := ok
  subst hp
  intro h x H locs ls cells slots h1 h2 h3 h4 h5 h6 h7 h8 h9 h10
  unfold getL at h1
  split at h1
  · rename_i v hv
    exact w_get hx hb hown hts hKw h3 hf hd hv (kk v h x H locs ls cells slots h1 h2 h3 h4 h5 h6 h7 h8 h9 h10)
  · cases h1
theorem sw_getR (ok : OKc Γ cc own d nm) {idx ci k a : Nat} (hf : FG own idx ci k) (hd : decode cc pc = .ok (.getfield idx, 3)) (hp : pc + 3 = pc') {f : Nat → PM τ} (kk : ∀ v : Nat, SW Γ inj pc' l (.ref v :: st) (f v)) : SW Γ inj pc l (.ref a :: st) (getR ci k a f) := by
  obtain ⟨p, la, e, R, s, m, args, below, meth, c, X, c0, s0, Q, hF, rF⟩ := Γ
  obtain ⟨hx, hb, hown, hts, hKw, hbs, hfr, hlo, hcl, hsl, hnm⟩ := ok
  subst hp
  intro h x H locs ls cells slots h1 h2 h3 h4 h5 h6 h7 h8 h9 h10
  unfold getR at h1
  split at h1
  · rename_i v hv
    exact w_get hx hb hown hts hKw h3 hf hd hv (kk v h x H locs ls cells slots h1 h2 h3 h4 h5 h6 h7 h8 h9 h10)
  · cases h1
theorem sw_putV (ok : OKc Γ cc own d nm) {idx ci k a : Nat} {ty : FieldType} {fin : Bool} {v : Value} (hf : FR own idx ci k ty fin) (hd : decode cc pc = .ok (.putfield idx, 3)) (hfin : fin = true → nm = "<init>") (hn : ∀ X, narrow ty (cv X v) = cv X v) (hfit : ∀ X, fits ty (cv X v) = true) (hp : pc + 3 = pc') (kk : SW Γ inj pc' l st P) : SW Γ inj pc l (v :: .ref a :: st) (putV ci k a v P) := by
  obtain ⟨p, la, e, R, s, m, args, below, meth, c, X, c0, s0, Q, hF, rF⟩ := Γ
  obtain ⟨hx, hb, hown, hts, hKw, hbs, hfr, hlo, hcl, hsl, hnm⟩ := ok
  subst hp
  intro h x H locs ls cells slots h1 h2 h3 h4 h5 h6 h7 h8 h9 h10
  unfold putV at h1
  split at h1
  · rename_i c1 fs hc
    split at h1
    · rename_i q
      obtain ⟨q1, q2⟩ := q
      subst q1
      obtain ⟨j, rfl, hj, hc⟩ := celO_some hc
      exact w_put hx hb hown hts hKw h3 h4 hf hd (fun q => hnm.trans (hfin q)) hj hc q2 (hn X) (hfit X) (fun H1 locs1 hR hS => kk _ x H1 locs1 ls cells slots h1 h2 hR hS h5 h6 h7 h8 h9 h10)
    · cases h1
  · cases h1
theorem sw_setI (ok : OKc Γ cc own d nm) {idx ci k a : Nat} {fin : Bool} {v : Int32} (hf : FR own idx ci k .int fin) (hd : decode cc pc = .ok (.putfield idx, 3)) (hfin : fin = true → nm = "<init>") (hp : pc + 3 = pc') (kk : SW Γ inj pc' l st P) : SW Γ inj pc l (.int v :: .ref a :: st) (setI ci k a v P) := sw_putV ok hf hd hfin (fun _ => rfl) (fun _ => rfl) hp kk
theorem sw_setL (ok : OKc Γ cc own d nm) {idx ci k a : Nat} {fin : Bool} {v : Int64} (hf : FR own idx ci k .long fin) (hd : decode cc pc = .ok (.putfield idx, 3)) (hfin : fin = true → nm = "<init>") (hp : pc + 3 = pc') (kk : SW Γ inj pc' l st P) : SW Γ inj pc l (.long v :: .ref a :: st) (setL ci k a v P) := sw_putV ok hf hd hfin (fun _ => rfl) (fun _ => rfl) hp kk
theorem sw_setR (ok : OKc Γ cc own d nm) {idx ci k a v : Nat} {fin : Bool} {ty : FieldType} (hf : FR own idx ci k ty fin) (hty : ∀ z, narrow ty (.ref z) = .ref z ∧ fits ty (.ref z) = true) (hd : decode cc pc = .ok (.putfield idx, 3)) (hfin : fin = true → nm = "<init>") (hp : pc + 3 = pc') (kk : SW Γ inj pc' l st P) : SW Γ inj pc l (.ref v :: .ref a :: st) (setR ci k a v P) := sw_putV ok hf hd hfin (fun _ => (hty _).1) (fun _ => (hty _).2) hp kk
theorem fits01 {v : Int32} (h : v = 0 ∨ v = 1) : fits .boolean (.int v) = true := by rcases h with rfl | rfl <;> decide
theorem sw_setZ (ok : OKc Γ cc own d nm) {idx ci k a : Nat} {fin : Bool} {v : Int32} (hf : FR own idx ci k .boolean fin) (hd : decode cc pc = .ok (.putfield idx, 3)) (hfin : fin = true → nm = "<init>") (hp : pc + 3 = pc') (kk : SW Γ inj pc' l st P) : SW Γ inj pc l (.int v :: .ref a :: st) (setZ ci k a v P) := by
  by_cases hz : v = 0 ∨ v = 1
  · have e : setZ ci k a v P = putV ci k a (.int v) P := by funext h; simp [setZ, hz]
    rw [e]
    exact sw_putV ok hf hd hfin (fun _ => by show Value.int (v &&& 1) = _; rw [cv_narrow hz]; rfl) (fun _ => fits01 hz) hp kk
  · exact sw_none (fun h => by simp [setZ, hz])
theorem sw_ald (ok : OKc Γ cc own d nm) {a : Nat} {i : Int32} (hd : decode cc pc = .ok (.iaload, 1)) (hp : pc + 1 = pc') {f : Int32 → PM τ} (kk : ∀ v : Int32, SW Γ inj pc' l (.int v :: st) (f v)) : SW Γ inj pc l (.int i :: .ref a :: st) (ald a i f) := by
  obtain ⟨p, la, e, R, s, m, args, below, meth, c, X, c0, s0, Q, hF, rF⟩ := Γ
  obtain ⟨hx, hb, hown, hts, hKw, hbs, hfr, hlo, hcl, hsl, hnm⟩ := ok
  subst hp
  intro h x H locs ls cells slots h1 h2 h3 h4 h5 h6 h7 h8 h9 h10
  unfold ald at h1
  split at h1
  · rename_i n g hc
    obtain ⟨j, rfl, hj, hc⟩ := celO_some hc
    split at h1
    · rename_i q
      have he := wsO_at X h hj
      rw [hc] at he
      exact va_iald hx hb hKw.1 h3.2 j 0 he rfl (inr_vp q) hd (kk _ h x H locs ls cells slots h1 h2 h3 h4 h5 h6 h7 h8 h9 h10)
    · cases h1
  · cases h1
theorem sw_ast (ok : OKc Γ cc own d nm) {a : Nat} {i v : Int32} (hd : decode cc pc = .ok (.iastore, 1)) (hp : pc + 1 = pc') (kk : SW Γ inj pc' l st P) : SW Γ inj pc l (.int v :: .int i :: .ref a :: st) (ast a i v P) := by
  obtain ⟨p, la, e, R, s, m, args, below, meth, c, X, c0, s0, Q, hF, rF⟩ := Γ
  obtain ⟨hx, hb, hown, hts, hKw, hbs, hfr, hlo, hcl, hsl, hnm⟩ := ok
  subst hp
  intro h x H locs ls cells slots h1 h2 h3 h4 h5 h6 h7 h8 h9 h10
  unfold ast at h1
  split at h1
  · rename_i n g hc
    obtain ⟨j, rfl, hj, hc⟩ := celO_some hc
    split at h1
    · rename_i q
      have he := wsO_at X h hj
      rw [hc] at he
      refine W.iast hx hb (h3.2 j _ he) ((hKw.1.2 0 _ rfl).1 n (fun j => .int (g j))) (fun q => by cases q) (by show ¬ (i < 0 ∨ (arrV _ _ _).slots.size ≤ _); rw [arrV_size]; exact inr_vp q) rfl rfl hd fun H1 e1 z oq => ?_
      refine kk _ x H1 _ ls cells slots h1 h2 (rel_set h3 hj z (h3.2.set (wsO_D X h) he ?_ oq)) (h4.put z oq (by show X.2.2.2 ≤ _; omega)) h5 h6 h7 h8 h9 h10
      show H1[_]? = some (vp_cell _ _)
      rw [e1]
      rw [vp_cell_i, vp_cell_i, arrV_store]
      congr 2
      funext q
      by_cases hq : q = i.toNatClampNeg
      · subst hq
        simp [updV, upd]
      · simp [updV, upd, hq]
    · cases h1
  · cases h1
theorem sw_aldR (ok : OKc Γ cc own d nm) {a : Nat} {i : Int32} (hd : decode cc pc = .ok (.aaload, 1)) (hp : pc + 1 = pc') {f : Nat → PM τ} (kk : ∀ v : Nat, SW Γ inj pc' l (.ref v :: st) (f v)) : SW Γ inj pc l (.int i :: .ref a :: st) (aldR a i f) := by
  obtain ⟨p, la, e, R, s, m, args, below, meth, c, X, c0, s0, Q, hF, rF⟩ := Γ
  obtain ⟨hx, hb, hown, hts, hKw, hbs, hfr, hlo, hcl, hsl, hnm⟩ := ok
  subst hp
  intro h x H locs ls cells slots h1 h2 h3 h4 h5 h6 h7 h8 h9 h10
  unfold aldR at h1
  split at h1
  · rename_i t n g hc
    obtain ⟨j, rfl, hj, hc⟩ := celO_some hc
    split at h1
    · rename_i q
      split at h1
      · rename_i r hr
        have he := wsO_at X h hj
        rw [hc] at he
        have := va_aldq (rest := st.map (cv X)) (ls := ls) (p := p) (l := la) (e := e) (R := R) (m := m) (args := args) (below := below) (meth := meth) (locs := locs) (cells := cells) (slots := slots) (Q := Q) hx hb hKw.1 h3.2 j (t + 1) he (tyL_t X q.1) (inr_vp q.2) hd
        rw [hr] at this
        exact this (kk _ h x H locs ls cells slots h1 h2 h3 h4 h5 h6 h7 h8 h9 h10)
      · cases h1
    · cases h1
  · cases h1
theorem tgc_cl (t : Nat) : ∃ (T : u_T) (N : Nat), vwCl[tgc t]? = some (tgn t, T, N) := by
  unfold tgc tgn
  split
  · exact ⟨_, _, rfl⟩
  · exact ⟨_, _, rfl⟩
  · exact ⟨_, _, rfl⟩
theorem sw_astR (ok : OKc Γ cc own d nm) {a r : Nat} {i : Int32} (hd : decode cc pc = .ok (.aastore, 1)) (hp : pc + 1 = pc') (kk : SW Γ inj pc' l st P) : SW Γ inj pc l (.ref r :: .int i :: .ref a :: st) (astR a i r P) := by
  obtain ⟨p, la, e, R, s, m, args, below, meth, c, X, c0, s0, Q, hF, rF⟩ := Γ
  obtain ⟨hx, hb, hown, hts, hKw, hbs, hfr, hlo, hcl, hsl, hnm⟩ := ok
  subst hp
  intro h x H locs ls cells slots h1 h2 h3 h4 h5 h6 h7 h8 h9 h10
  unfold astR at h1
  split at h1
  · rename_i t n g c1 fs hc hr
    obtain ⟨j, rfl, hj, hc⟩ := celO_some hc
    obtain ⟨jr, rfl, hjr, hr⟩ := celO_some hr
    split at h1
    · rename_i q
      obtain ⟨q1, q2, q3⟩ := q
      subst q2
      have he := wsO_at X h hj
      rw [hc] at he
      have hv := wsO_at X h hjr
      rw [hr] at hv
      obtain ⟨T, N, hcl2⟩ := tgc_cl t
      have hlt : i.toNatClampNeg < n := Nat.not_le.mp fun q => inr_vp q3 (Or.inr q)
      have h00 : ¬ i < 0 := fun q => inr_vp q3 (Or.inl q)
      obtain ⟨r', hr', cellV, g1, g2, g3, -⟩ := h3.2 jr _ hv
      have hcls := (hKw.1.1 (tgc t) _ hcl2).2
      obtain ⟨kA, comp, k1, k2, k3, -⟩ := (hKw.1.2 (t + 1) _ (tyL_t X q1)).2
      have hcomp : comp = X.1.1 (tgc t) := Option.some.inj (k3.symm.trans hcls.1)
      subst hcomp
      obtain ⟨kC, hkC, -⟩ := hcls.2
      refine W.aast hx hb (h3.2 j _ he) (fun q h => by cases h) (fun h => by cases h) k1 k2 rfl hkC ⟨h00, by show _ < (arrV _ _ _).slots.size; rw [arrV_size]; exact hlt⟩ g1 (fun q h => by rw [g3] at h; cases h) (by rw [g2]; exact hkC) (by rw [g2]; exact va_assign hcls) rfl rfl hd fun H1 e1 z oq => ?_
      refine kk _ x H1 _ ls cells slots h1 h2 (rel_set h3 hj z (h3.2.set (wsO_D X h) he ?_ oq)) (h4.put z oq (by show X.2.2.2 ≤ _; omega)) h5 h6 h7 h8 h9 h10
      show H1[_]? = some (vp_cell _ _)
      rw [e1]
      rw [vp_cell_q, vp_cell_q, arrV_store]
      congr 2
      funext q
      by_cases hq : q = i.toNatClampNeg
      · subst hq
        simp [updV, va_rf, ad]
      · simp [updV, hq]
    · cases h1
  · cases h1
theorem sw_alen (ok : OKc Γ cc own d nm) {a : Nat} (hd : decode cc pc = .ok (.arraylength, 1)) (hp : pc + 1 = pc') {f : Int32 → PM τ} (kk : ∀ v : Int32, SW Γ inj pc' l (.int v :: st) (f v)) : SW Γ inj pc l (.ref a :: st) (alen a f) := by
  obtain ⟨p, la, e, R, s, m, args, below, meth, c, X, c0, s0, Q, hF, rF⟩ := Γ
  obtain ⟨hx, hb, hown, hts, hKw, hbs, hfr, hlo, hcl, hsl, hnm⟩ := ok
  subst hp
  intro h x H locs ls cells slots h1 h2 h3 h4 h5 h6 h7 h8 h9 h10
  unfold alen at h1
  split at h1
  · rename_i n g hc
    obtain ⟨j, rfl, hj, hc⟩ := celO_some hc
    have he := wsO_at X h hj
    rw [hc] at he
    exact va_alen hx hb hKw.1 h3.2 j 0 he rfl rfl hd (kk _ h x H locs ls cells slots h1 h2 h3 h4 h5 h6 h7 h8 h9 h10)
  · rename_i t n g hc
    obtain ⟨j, rfl, hj, hc⟩ := celO_some hc
    split at h1
    · rename_i q
      have he := wsO_at X h hj
      rw [hc] at he
      exact va_alen hx hb hKw.1 h3.2 j (t + 1) he (tyL_t X q) rfl hd (kk _ h x H locs ls cells slots h1 h2 h3 h4 h5 h6 h7 h8 h9 h10)
    · cases h1
  · cases h1
theorem sw_ret (ok : OKc Γ cc own d nm) {ret : Option FieldType} (okr : OKr Γ cc ret) {i : Instr} {v : τ} (hd : decode cc pc = .ok (i, 1)) (ho : rOK ret i (inj v)) (hst : st = (inj v).toList) : SW Γ inj pc l st (pureM v) := by
  obtain ⟨p, la, e, R, s, m, args, below, meth, c, X, c0, s0, Q, hF, rF⟩ := Γ
  subst hst
  intro h x H locs ls cells slots h1 h2 h3 h4 h5 h6 h7 h8 h9 h10
  have e1 : v = x ∧ h = hF := by
    unfold pureM at h1
    cases h1
    exact ⟨rfl, rfl⟩
  obtain ⟨rfl, rfl⟩ := e1
  have key := okr i (inj v) pc H locs ls cells slots hd ho h2 h3 h4 h7 h8
  have e2 : (inj v).toList.map (cv X) = ((inj v).map (cv X)).toList := by cases inj v <;> rfl
  rw [e2]
  exact key
theorem sw_retZ (ok : OKc Γ cc own d nm) (okr : OKr Γ cc (some .boolean)) {v : Int32} (hd : decode cc pc = .ok (.ireturn, 1)) : SW Γ iI pc l [.int v] (retZ v) := by
  by_cases hz : v = 0 ∨ v = 1
  · have e : retZ v = pureM v := by funext h; simp [retZ, pureM, hz]
    rw [e]
    exact sw_ret ok okr hd (cv_narrow hz) rfl
  · exact sw_none (fun h => by simp [retZ, hz])
theorem sw_obj (ok : OKc Γ cc own d nm) {idx a : Nat} (hw1 : Jvm.Cond.methodLink own idx Lib.objectInit ∈ tALL) (hw2 : Jvm.Cond.instanceMethod Lib.objectInit ∈ tALL) (hw3 : Jvm.Cond.code Lib.objectInit ⟨#[0xb1]⟩ 1 none ∈ tALL) (h0 : 1 ≤ d) (hd : decode cc pc = .ok (.invokespecial idx, 3)) (hp : pc + 3 = pc') (hst : (st.map fun v => v.category).sum ≤ 8) (kk : SW Γ inj pc' l st P) : SW Γ inj pc l (.ref a :: st) P := by
  obtain ⟨p, la, e, R, s, m, args, below, meth, c, X, c0, s0, Q, hF, rF⟩ := Γ
  obtain ⟨hx, hb, hown, hts, hKw, hbs, hfr, hlo, hcl, hsl, hnm⟩ := ok
  subst hp
  intro h x H locs ls cells slots h1 h2 h3 h4 h5 h6 h7 h8 h9 h10
  refine W.objInit hx hb hown (hts _ hw1) (hts _ hw2) (hts _ hw3) rfl h6 rfl hd (by omega) ?_ (kk h x H locs ls cells slots h1 h2 h3 h4 h5 h6 h7 h8 h9 h10)
  rw [cv_sum]
  show 2 * 0 + _ + 12 ≤ _
  omega
theorem sw_divI (ok : OKc Γ cc own d nm) {z y : Int32} (hd : decode cc pc = .ok (.idiv, 1)) (hp : pc + 1 = pc') {f : Int32 → PM τ} (kk : ∀ v : Int32, SW Γ inj pc' l (.int v :: st) (f v)) : SW Γ inj pc l (.int y :: .int z :: st) (divI z y f) := by
  obtain ⟨p, la, e, R, s, m, args, below, meth, c, X, c0, s0, Q, hF, rF⟩ := Γ
  obtain ⟨hx, hb, hown, hts, hKw, hbs, hfr, hlo, hcl, hsl, hnm⟩ := ok
  subst hp
  intro h x H locs ls cells slots h1 h2 h3 h4 h5 h6 h7 h8 h9 h10
  unfold divI at h1
  split at h1
  · cases h1
  · rename_i q
    exact lv_idiv hx hb hd q (kk _ h x H locs ls cells slots h1 h2 h3 h4 h5 h6 h7 h8 h9 h10)
theorem sw_remI (ok : OKc Γ cc own d nm) {z y : Int32} (hd : decode cc pc = .ok (.irem, 1)) (hp : pc + 1 = pc') {f : Int32 → PM τ} (kk : ∀ v : Int32, SW Γ inj pc' l (.int v :: st) (f v)) : SW Γ inj pc l (.int y :: .int z :: st) (remI z y f) := by
  obtain ⟨p, la, e, R, s, m, args, below, meth, c, X, c0, s0, Q, hF, rF⟩ := Γ
  obtain ⟨hx, hb, hown, hts, hKw, hbs, hfr, hlo, hcl, hsl, hnm⟩ := ok
  subst hp
  intro h x H locs ls cells slots h1 h2 h3 h4 h5 h6 h7 h8 h9 h10
  unfold remI at h1
  split at h1
  · cases h1
  · rename_i q
    refine lv_irem hx hb hd q ?_
    rw [irem_eq_mod]
    exact kk _ h x H locs ls cells slots h1 h2 h3 h4 h5 h6 h7 h8 h9 h10
theorem lrem_eq (x y : Int64) : x - (x / y) * y = x % y := by
  apply Int64.toInt_inj.mp
  have h1 := Int64.le_toInt (x % y)
  have h2 := Int64.toInt_lt (x % y)
  rw [Int64.toInt_sub, Int64.toInt_mul, Int64.toInt_div, Int.bmod_mul_bmod, Int.sub_bmod_bmod, Int.mul_comm (x.toInt.tdiv y.toInt), ← Int.tmod_def, ← Int64.toInt_mod]
  exact Int.bmod_eq_of_le_mul_two (by omega) (by omega)
theorem sw_divL (ok : OKc Γ cc own d nm) {z y : Int64} (hd : decode cc pc = .ok (.ldiv, 1)) (hp : pc + 1 = pc') {f : Int64 → PM τ} (kk : ∀ v : Int64, SW Γ inj pc' l (.long v :: st) (f v)) : SW Γ inj pc l (.long y :: .long z :: st) (divL z y f) := by
  obtain ⟨p, la, e, R, s, m, args, below, meth, c, X, c0, s0, Q, hF, rF⟩ := Γ
  obtain ⟨hx, hb, hown, hts, hKw, hbs, hfr, hlo, hcl, hsl, hnm⟩ := ok
  subst hp
  intro h x H locs ls cells slots h1 h2 h3 h4 h5 h6 h7 h8 h9 h10
  unfold divL at h1
  split at h1
  · cases h1
  · rename_i q
    exact lv_ldiv hx hb hd q (kk _ h x H locs ls cells slots h1 h2 h3 h4 h5 h6 h7 h8 h9 h10)
theorem sw_remL (ok : OKc Γ cc own d nm) {z y : Int64} (hd : decode cc pc = .ok (.lrem, 1)) (hp : pc + 1 = pc') {f : Int64 → PM τ} (kk : ∀ v : Int64, SW Γ inj pc' l (.long v :: st) (f v)) : SW Γ inj pc l (.long y :: .long z :: st) (remL z y f) := by
  obtain ⟨p, la, e, R, s, m, args, below, meth, c, X, c0, s0, Q, hF, rF⟩ := Γ
  obtain ⟨hx, hb, hown, hts, hKw, hbs, hfr, hlo, hcl, hsl, hnm⟩ := ok
  subst hp
  intro h x H locs ls cells slots h1 h2 h3 h4 h5 h6 h7 h8 h9 h10
  unfold remL at h1
  split at h1
  · cases h1
  · rename_i q
    refine lv_lrem hx hb hd q ?_
    rw [lrem_eq]
    exact kk _ h x H locs ls cells slots h1 h2 h3 h4 h5 h6 h7 h8 h9 h10
/-- a switch over a table: each way by its place -/
def swAll (Γ : Cx) (inj : τ → Option Value) (pc : Nat) (l : List (Option Value)) (st : List Value) (os : List Int) (As : List (PM τ)) : Prop := match os, As with
  | [], [] => True
  | o :: os, A :: As => (∃ tgt : Nat, (pc : Int) + o = (tgt : Int) ∧ SW Γ inj tgt l st A) ∧ swAll Γ inj pc l st os As
  | _, _ => False
theorem swAll_len {os : List Int} {As : List (PM τ)} (h : swAll Γ inj pc l st os As) : os.length = As.length := by
  induction os generalizing As with
  | nil => cases As with
    | nil => rfl
    | cons => exact h.elim
  | cons o os ih => cases As with
    | nil => exact h.elim
    | cons A As => simp [ih h.2]
theorem swAll_get {os : List Int} {As : List (PM τ)} (h : swAll Γ inj pc l st os As) {k : Nat} {A : PM τ} (hA : As[k]? = some A) : ∃ (o : Int) (tgt : Nat), os[k]? = some o ∧ (pc : Int) + o = (tgt : Int) ∧ SW Γ inj tgt l st A := by
  induction os generalizing As k with
  | nil => cases As with
    | nil => simp at hA
    | cons => exact h.elim
  | cons o os ih => cases As with
    | nil => exact h.elim
    | cons A0 As => cases k with
      | zero =>
        simp at hA
        subst hA
        obtain ⟨tgt, h1, h2⟩ := h.1
        exact ⟨o, tgt, rfl, h1, h2⟩
      | succ k =>
        simp only [List.getElem?_cons_succ] at hA ⊢
        exact ih h.2 hA
theorem sw_tsw (ok : OKc Γ cc own d nm) {z : Int32} {dflt lo hi : Int} {offs : Array Int} {len : Nat} {As : List (PM τ)} (hd : decode cc pc = .ok (.tableswitch dflt lo hi offs, len)) (ht : (pc : Int) + dflt = (tgt : Int)) (hh : hi + 1 = lo + As.length) (kk : swAll Γ inj pc l st offs.toList As) (kd : SW Γ inj tgt l st B) : SW Γ inj pc l (.int z :: st) (swT z lo As B) := by
  obtain ⟨p, la, e, R, s, m, args, below, meth, c, X, c0, s0, Q, hF, rF⟩ := Γ
  obtain ⟨hx, hb, hown, hts, hKw, hbs, hfr, hlo, hcl, hsl, hnm⟩ := ok
  intro h x H locs ls cells slots h1 h2 h3 h4 h5 h6 h7 h8 h9 h10
  unfold swT at h1
  by_cases c1 : z.toInt < lo
  · rw [if_pos c1] at h1
    exact lv_tableOut hx hb hd (Or.inl c1) ht (kd h x H locs ls cells slots h1 h2 h3 h4 h5 h6 h7 h8 h9 h10)
  · rw [if_neg c1] at h1
    by_cases c2 : hi < z.toInt
    · have hn : As[(z.toInt - lo).toNat]? = .none := List.getElem?_eq_none (by omega)
      rw [hn] at h1
      exact lv_tableOut hx hb hd (Or.inr c2) ht (kd h x H locs ls cells slots h1 h2 h3 h4 h5 h6 h7 h8 h9 h10)
    · have hl : (z.toInt - lo).toNat < As.length := by omega
      have hA : As[(z.toInt - lo).toNat]? = some As[(z.toInt - lo).toNat] := List.getElem?_eq_getElem hl
      rw [hA] at h1
      obtain ⟨o, tg, q1, q2, q3⟩ := swAll_get kk hA
      exact lv_tableIn hx hb hd c1 c2 (by rw [← Array.getElem?_toList]; exact q1) q2 (q3 h x H locs ls cells slots h1 h2 h3 h4 h5 h6 h7 h8 h9 h10)
def swEach (Γ : Cx) (inj : τ → Option Value) (pc : Nat) (l : List (Option Value)) (st : List Value) (os : List (Int × Int)) (As : List (Int × PM τ)) : Prop := match os, As with
  | [], [] => True
  | o :: os, A :: As => (o.1 = A.1 ∧ ∃ tgt : Nat, (pc : Int) + o.2 = (tgt : Int) ∧ SW Γ inj tgt l st A.2) ∧ swEach Γ inj pc l st os As
  | _, _ => False
theorem sw_lsw (ok : OKc Γ cc own d nm) {z : Int32} {dflt : Int} {ps : Array (Int × Int)} {len : Nat} {As : List (Int × PM τ)} (hd : decode cc pc = .ok (.lookupswitch dflt ps, len)) (ht : (pc : Int) + dflt = (tgt : Int)) (hs : (ps.toList.zip (ps.toList.drop 1)).all (fun (a, next) => a.1 < next.1) = true) (kk : swEach Γ inj pc l st ps.toList As) (kd : SW Γ inj tgt l st B) : SW Γ inj pc l (.int z :: st) (swL z As B) := by
  have key : ∀ (os : List (Int × Int)) (As : List (Int × PM τ)), swEach Γ inj pc l st os As → ∃ tg : Nat, (pc : Int) + Op.lookupswitch.offset os dflt z.toInt = (tg : Int) ∧ SW Γ inj tg l st (swL z As B) := by
    intro os
    induction os with
    | nil => intro As h
             cases As with
             | nil => exact ⟨tgt, ht, kd⟩
             | cons => exact h.elim
    | cons o os ih =>
      intro As h
      cases As with
      | nil => exact h.elim
      | cons A As =>
        obtain ⟨⟨h1, tg, h2, h3⟩, h4⟩ := h
        obtain ⟨a, o⟩ := o
        obtain ⟨a', A⟩ := A
        have h1 : a = a' := h1
        subst h1
        by_cases e : a = z.toInt
        · refine ⟨tg, ?_, ?_⟩
          · rw [Op.lookupswitch.offset_cons, if_pos e]; exact h2
          · have e2 : swL z ((a, A) :: As) B = A := by funext h; simp [swL, e]
            rw [e2]; exact h3
        · obtain ⟨tg2, g1, g2⟩ := ih As h4
          refine ⟨tg2, ?_, ?_⟩
          · rw [Op.lookupswitch.offset_cons, if_neg e]; exact g1
          · have e2 : swL z ((a, A) :: As) B = swL z As B := by funext h; simp [swL, e]
            rw [e2]; exact g2
  obtain ⟨tg, g1, g2⟩ := key _ _ kk
  obtain ⟨p, la, e, R, s, m, args, below, meth, c, X, c0, s0, Q, hF, rF⟩ := Γ
  obtain ⟨hx, hb, hown, hts, hKw, hbs, hfr, hlo, hcl, hsl, hnm⟩ := ok
  intro h x H locs ls cells slots h1 h2 h3 h4 h5 h6 h7 h8 h9 h10
  exact lv_lookup hx hb hd hs rfl g1 (g2 h x H locs ls cells slots h1 h2 h3 h4 h5 h6 h7 h8 h9 h10)
end HEAP
