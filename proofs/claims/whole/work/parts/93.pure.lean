/-! The whole, of programs. -/
theorem h1_some : ∃ r, P_X7_init 1 hA1 = some r ∧ r.2 = hA2 := by
  have h := ev1
  unfold hA2
  cases e : P_X7_init 1 hA1 with
  | none => rw [e] at h; cases h
  | some r => exact ⟨r, rfl, rfl⟩
theorem h2_some : ∃ r, P_X8_init 74 hA3 = some r ∧ r.2 = hA4 := by
  have h := ev2
  unfold hA4
  cases e : P_X8_init 74 hA3 with
  | none => rw [e] at h; cases h
  | some r => exact ⟨r, rfl, rfl⟩
theorem rin_0 : RIn hA0 := fun a t n f e => by cases e
theorem rin_1 : RIn hA1 := rin_up rin_0 1 13 1 (fun t n f z => by cases z)
theorem rin_2 : RIn hA2 := by
  obtain ⟨⟨u, r⟩, h1, h2⟩ := h1_some
  rw [← h2]
  exact kp_X7 1 hA1 u r rin_1 h1
theorem rin_3 : RIn hA3 := rin_up rin_2 74 (hA2.2.1 + 37) 74 (fun t n f z => by cases z)
theorem rin_4 : RIn hA4 := by
  obtain ⟨⟨u, r⟩, h1, h2⟩ := h2_some
  rw [← h2]
  exact kp_X8 74 hA3 u r rin_3 h1
def prI (c : ACell) (k : Nat) : Int32 := match c with
  | .inl (_, fs) => (match fs[k]? with
    | some (.int v) => v
    | _ => 0)
  | _ => 0
def prL (c : ACell) (k : Nat) : Int64 := match c with
  | .inl (_, fs) => (match fs[k]? with
    | some (.long v) => v
    | _ => 0)
  | _ => 0
def prG (c : ACell) : Nat → Int32 := match c with
  | .inr (.inl (_, g)) => g
  | _ => fun _ => 0
def DF (h : AH) : DT := (fun a k => prI (h.2.2 a) k, fun a => prG (h.2.2 a), fun a k => prL (h.2.2 a) k)
def DZ : DT := DF hA4
def BZ : BT := (hA4.2.1, hA4.2.2)
def shf : List Value → List (Nat × Nat) → Bool
  | [], [] => true
  | .int v :: r, (t, b) :: s => (decide (t = 0) || (decide (3 ≤ t) && decide (v = Int32.ofNat b))) && shf r s
  | .long _ :: r, (t, _) :: s => decide (t = 1) && shf r s
  | .ref a :: r, (t, b) :: s => (decide (t = 2) && decide (a = b)) && shf r s
  | _, _ => false
def shc (c : ACell) (s : ASp) : Bool := match c, s with
  | .inl (ci, fs), .inl (ci', ss) => decide (ci = ci') && shf fs ss
  | .inr (.inl (n, _)), .inr (.inl n') => decide (n = n')
  | .inr (.inr (t, n, f)), .inr (.inr (t', n', b, z)) => (decide (t = t') && decide (n = n')) && (List.range n').all (fun k => decide (f k = some (b + z * k)))
  | _, _ => false
theorem ev4 : (List.range 94).all (fun a => shc (hA4.2.2 (a + 1)) (sh (a + 1))) = true := by decide +kernel
theorem shf_mk (D : DT) (a : Nat) : ∀ (fs : List Value) (ss : List (Nat × Nat)) (k : Nat), shf fs ss = true → (∀ j v, fs[j]? = some (.int v) → fI D a (k + j) = v) → (∀ j v, fs[j]? = some (.long v) → fL D a (k + j) = v) → fs = mkf D a k ss := by
  intro fs
  induction fs with
  | nil =>
    intro ss k h _ _
    cases ss with
    | nil => rfl
    | cons s ss => cases h
  | cons x fs ih =>
    intro ss k h hI hL
    have rest : ∀ ss', shf fs ss' = true → fs = mkf D a (k + 1) ss' := fun ss' h' => ih ss' (k + 1) h' (fun j v e => by
      have := hI (j + 1) v (by rw [List.getElem?_cons_succ]; exact e)
      rw [show k + 1 + j = k + (j + 1) by omega]
      exact this) (fun j v e => by
      have := hL (j + 1) v (by rw [List.getElem?_cons_succ]; exact e)
      rw [show k + 1 + j = k + (j + 1) by omega]
      exact this)
    cases ss with
    | nil => cases x <;> cases h
    | cons s ss =>
      obtain ⟨t, b⟩ := s
      cases x with
      | int v =>
        simp only [shf, Bool.and_eq_true, Bool.or_eq_true, decide_eq_true_eq] at h
        obtain ⟨h1, h2⟩ := h
        have hv : fI D a k = v := hI 0 v rfl
        rw [rest ss h2]
        rcases h1 with rfl | ⟨h1, h3⟩
        · show _ = Value.int (fI D a k) :: mkf D a (k + 1) ss
          rw [hv, ← rest ss h2]
        · obtain ⟨t', rfl⟩ : ∃ t', t = t' + 3 := ⟨t - 3, by omega⟩
          show _ = Value.int (Int32.ofNat b) :: mkf D a (k + 1) ss
          rw [← h3, ← rest ss h2]
      | long v =>
        simp only [shf, Bool.and_eq_true, decide_eq_true_eq] at h
        obtain ⟨rfl, h2⟩ := h
        have hv : fL D a k = v := hL 0 v rfl
        show _ = Value.long (fL D a k) :: mkf D a (k + 1) ss
        rw [hv, ← rest ss h2]
      | ref c =>
        simp only [shf, Bool.and_eq_true, decide_eq_true_eq] at h
        obtain ⟨⟨rfl, rfl⟩, h2⟩ := h
        show _ = Value.ref c :: mkf D a (k + 1) ss
        rw [← rest ss h2]
      | _ => cases h
theorem cell_of (h : AH) (hR : RIn h) (D : DT) (hD : D = DF h) (hc : (List.range 94).all (fun a => shc (h.2.2 (a + 1)) (sh (a + 1))) = true) : ∀ a, 1 ≤ a → a ≤ 94 → h.2.2 a = mkc D a (sh a) := by
    intro a h1 h2
    have h' := List.all_eq_true.mp hc (a - 1) (List.mem_range.mpr (by omega))
    rw [show a - 1 + 1 = a by omega] at h'
    have hR := hR a
    subst hD
    clear hc
    have eI : ∀ k, fI (DF h) a k = prI (h.2.2 a) k := fun k => rfl
    have eL : ∀ k, fL (DF h) a k = prL (h.2.2 a) k := fun k => rfl
    have eG : fG (DF h) a = prG (h.2.2 a) := rfl
    generalize h.2.2 a = c at hR h' eI eL eG ⊢
    generalize sh a = s at h' ⊢
    cases c with
    | inl p =>
      obtain ⟨ci, fs⟩ := p
      cases s with
      | inl q =>
        obtain ⟨ci', ss⟩ := q
        simp only [shc, Bool.and_eq_true, decide_eq_true_eq] at h'
        obtain ⟨rfl, h3⟩ := h'
        show Sum.inl (ci, fs) = Sum.inl (ci, mkf (DF h) a 0 ss)
        rw [← shf_mk (DF h) a fs ss 0 h3 (fun j v e => by
          rw [Nat.zero_add, eI]
          unfold prI
          dsimp only
          rw [e]) (fun j v e => by
          rw [Nat.zero_add, eL]
          unfold prL
          dsimp only
          rw [e])]
      | inr q => cases h'
    | inr p =>
      cases s with
      | inl q => cases p <;> cases h'
      | inr q =>
        cases p with
        | inl x =>
          obtain ⟨n, g⟩ := x
          cases q with
          | inl n' =>
            simp only [shc, decide_eq_true_eq] at h'
            subst h'
            show Sum.inr (Sum.inl (n, g)) = Sum.inr (Sum.inl (n, fG (DF h) a))
            rw [eG]
            rfl
          | inr y => cases h'
        | inr x =>
          obtain ⟨t, n, f⟩ := x
          cases q with
          | inl n' => cases h'
          | inr y =>
            obtain ⟨t', n', b, z⟩ := y
            simp only [shc, Bool.and_eq_true, decide_eq_true_eq] at h'
            obtain ⟨⟨rfl, rfl⟩, h3⟩ := h'
            have hf : f = fun k => if k < n then some (b + z * k) else none := by
              funext k
              by_cases hk : k < n
              · rw [if_pos hk]
                have := List.all_eq_true.mp h3 k (List.mem_range.mpr hk)
                exact of_decide_eq_true this
              · rw [if_neg hk]
                exact hR t n f rfl k (by omega)
            show Sum.inr (Sum.inr (t, n, f)) = Sum.inr (Sum.inr (t, n, fun k => if k < n then some (b + z * k) else none))
            rw [← hf]
theorem hp_of (h : AH) (hs : h.1 = 94) (hR : RIn h) (hc : (List.range 94).all (fun a => shc (h.2.2 (a + 1)) (sh (a + 1))) = true) : h = hp (h.2.1, h.2.2) (DF h) := by
  have cell := cell_of h hR (DF h) rfl hc
  refine Prod.ext hs (Prod.ext rfl ?_)
  funext a
  show h.2.2 a = if 1 ≤ a ∧ a ≤ 94 then mkc (DF h) a (sh a) else h.2.2 a
  by_cases g : 1 ≤ a ∧ a ≤ 94
  · rw [if_pos g]; exact cell a g.1 g.2
  · rw [if_neg g]
theorem hA4_hp : hA4 = hp BZ DZ := hp_of hA4 ev3.2.2.1 rin_4 ev4
theorem inv_of (D : DT) (h5 : ((List.range 6).all (fun r => decide (fI D (39 + 2 * r) 3 = 0) && decide (fG D 76 r = -1)) && (List.range 4).all (fun r => decide (fI D (51 + 2 * r) 3 = 0) && decide (fG D 78 r = -1)) && (decide (fI D 1 9 = fI D 74 12) && (List.range 6).all (fun f => decide (fG D 38 f = fG D 85 f))) && (decide (fI D 1 10 = fI D 74 14) && (decide (fL D 1 11 = fL D 74 15) && decide (fL D 1 12 = fL D 74 16)))) = true) (h6 : (decide (fI D 5 4 = 0) && (decide (fI D 74 10 = 0) && (decide (fI D 5 5 = 0) && (decide (fI D 5 6 = 0) && (decide (fI D 17 2 = 0) && (decide (fI D 17 3 = 0) && ((List.range 6).all (fun k => decide (fG D 18 k = 0)) && (decide (fI D 16 3 = 0) && (decide (fI D 16 4 = 0) && (decide (fI D 16 5 = 0) && (decide (fI D 16 2 = 0) && ((List.range 11).all (fun k => decide (fG D 79 k = 0)) && (decide (fI D 74 11 = 0) && (List.range 3).all (fun k => decide (fI D (59 + 5 * k) 6 = 0) && decide (fG D 80 k = -1))))))))))))))) = true) : Inv D := by
  simp only [Bool.and_eq_true, decide_eq_true_eq, List.all_eq_true, List.mem_range] at h5 h6
  obtain ⟨⟨⟨r1, r2⟩, r3, r4⟩, r5, r6, r7⟩ := h5
  obtain ⟨a1, a2, a3, a4, a5, a6, a7, a8, a9, a10, a11, a12, a13, a14⟩ := h6
  refine ⟨fun r hr => Or.inl (r1 r hr), fun t ht => Or.inl (r2 t ht), ⟨r3, fun f f1 f5 => r4 f (by omega)⟩, ⟨r5, r6, r7⟩, 0, (fG D 6, fG D 7, fG D 8, fG D 9), 0, 0, [], ?_⟩
  refine ⟨⟨Or.inl rfl, by omega, ⟨a1, fun k hk => ⟨rfl, rfl, rfl, rfl⟩⟩, ⟨a2, fun k hk => by omega⟩, fun k hk => by omega, a3, a4, ⟨0, by omega, rfl⟩, ⟨0, by omega, rfl⟩⟩, ⟨by simp, fun e he => (by cases he), 0, by omega, rfl, by simp⟩, ⟨⟨⟨a5, a6, fun k hk => a7 k hk, fun k hk => by omega⟩, a8, a9, a10⟩, a11, fun k hk => absurd hk (by simp)⟩, ⟨⟨⟨a12 0 (by omega), a12 2 (by omega), fun k hk => a12 (0 + 5 + k) (by omega)⟩, a12 1 (by omega), a12 3 (by omega), a12 4 (by omega)⟩, fun k hk => absurd hk (by simp)⟩, a13, fun k hk => Or.inl (a14 k hk)⟩
theorem ev5 : ((List.range 6).all (fun r => decide (fI DZ (39 + 2 * r) 3 = 0) && decide (fG DZ 76 r = -1)) && (List.range 4).all (fun r => decide (fI DZ (51 + 2 * r) 3 = 0) && decide (fG DZ 78 r = -1)) && (decide (fI DZ 1 9 = fI DZ 74 12) && (List.range 6).all (fun f => decide (fG DZ 38 f = fG DZ 85 f))) && (decide (fI DZ 1 10 = fI DZ 74 14) && (decide (fL DZ 1 11 = fL DZ 74 15) && decide (fL DZ 1 12 = fL DZ 74 16)))) = true := by decide +kernel
theorem ev6 : (decide (fI DZ 5 4 = 0) && (decide (fI DZ 74 10 = 0) && (decide (fI DZ 5 5 = 0) && (decide (fI DZ 5 6 = 0) && (decide (fI DZ 17 2 = 0) && (decide (fI DZ 17 3 = 0) && ((List.range 6).all (fun k => decide (fG DZ 18 k = 0)) && (decide (fI DZ 16 3 = 0) && (decide (fI DZ 16 4 = 0) && (decide (fI DZ 16 5 = 0) && (decide (fI DZ 16 2 = 0) && ((List.range 11).all (fun k => decide (fG DZ 79 k = 0)) && (decide (fI DZ 74 11 = 0) && (List.range 3).all (fun k => decide (fI DZ (59 + 5 * k) 6 = 0) && decide (fG DZ 80 k = -1))))))))))))))) = true := by decide +kernel
theorem inv_Z : Inv DZ := inv_of DZ ev5 ev6
theorem newcll {τ : Type} (h h1 h2 hF : AH) (o ci n : Nat) (fs : List Value) (p : Nat → PM Unit) (f : Nat → PM τ) (v : τ) (ho : h.1 + 1 = o) (hh : h1 = (o, h.2.1 + n, upA h.2.2 o (.inl (ci, fs)))) (hc : p o h1 = some ((), h2)) (l1 : h1.1 ≤ h2.1) (l2 : h1.2.1 ≤ h2.2.1) (hf : f o h2 = some (v, hF)) (l3 : h2.1 ≤ hF.1) (l4 : h2.2.1 ≤ hF.2.1) : newO ci n fs (fun o => cllA (p o) fun _ => f o) h = some (v, hF) := by
  subst ho
  have e1 : h1.1 = h.1 + 1 := by rw [hh]
  have e2 : h1.2.1 = h.2.1 + n := by rw [hh]
  unfold newO
  rw [← hh]
  unfold cllA
  dsimp only
  rw [hc]
  dsimp only
  rw [if_pos ⟨l1, l2⟩, hf]
  unfold grown
  dsimp only
  rw [if_pos ⟨l3, l4⟩]
  dsimp only
  rw [if_pos ⟨by omega, by omega⟩]
theorem law_of (L : Nat) (xs : Nat → Int32) (g0 g1 g2 g3 g4 hF : AH) (h1 : P_X7_init 1 g1 = some ((), g2)) (h2 : P_X8_init 74 g3 = some ((), g4)) (z0 : g0 = (0, 0, fun _ => .inl (0, []))) (z1 : g1 = (1, 13, upA g0.2.2 1 (.inl (7, [.null, .null, .null, .null, .null, .null, .null, .null, .null, .int 0, .int 0, .long 0, .long 0])))) (z3 : g3 = (74, g2.2.1 + 37, upA g2.2.2 74 (.inl (8, [.null, .null, .null, .null, .null, .null, .null, .null, .null, .null, .int 0, .int 0, .int 0, .null, .int 0, .long 0, .long 0, .null, .int 0, .int 0, .int 0, .int 0, .int 0, .int 0, .null, .null, .null, .null, .null, .int 0, .int 0, .int 0, .int 0, .int 0, .null, .null, .null])))) (e : g2.1 = 73 ∧ 13 ≤ g2.2.1 ∧ g4.1 = 94 ∧ g2.2.1 + 37 ≤ g4.2.1 ∧ g4.2.1 ≤ 7302250) (hL : P_L_law_18 L xs 1 74 4000 0 g4 = some (1, hF)) (l1 : hF.1 = 94) (l2 : hF.2.1 = g4.2.1) : P_L_law L xs (0, 0, fun _ => .inl (0, [])) = some (1, hF) := by
  obtain ⟨e1, e2, e3, e4, e5⟩ := e
  unfold P_L_law
  have a1 : g1.1 = 1 := by rw [z1]
  have a2 : g1.2.1 = 13 := by rw [z1]
  have a3 : g3.1 = 74 := by rw [z3]
  have a4 : g3.2.1 = g2.2.1 + 37 := by rw [z3]
  rw [← z0]
  refine newcll g0 g1 g2 hF 1 7 13 _ P_X7_init (fun o1 => newO 8 37 _ fun o2 => cllA (P_X8_init o2) fun _ => P_L_law_18 L xs o1 o2 4000 0) 1 (by rw [z0]) (by rw [z1, z0]) h1 (by omega) (by omega) ?_ (by omega) (by omega)
  exact newcll g2 g3 g4 hF 74 8 37 _ P_X8_init (fun o2 => P_L_law_18 L xs 1 o2 4000 0) 1 (by omega) z3 h2 (by omega) (by omega) hL (by omega) (by omega)
theorem law_fin (L : Nat) (xs : Nat → Int32) (hL : L ≤ 384) (g0 g1 g2 g3 g4 : AH) (h1 : P_X7_init 1 g1 = some ((), g2)) (h2 : P_X8_init 74 g3 = some ((), g4)) (z0 : g0 = (0, 0, fun _ => .inl (0, []))) (z1 : g1 = (1, 13, upA g0.2.2 1 (.inl (7, [.null, .null, .null, .null, .null, .null, .null, .null, .null, .int 0, .int 0, .long 0, .long 0])))) (z3 : g3 = (74, g2.2.1 + 37, upA g2.2.2 74 (.inl (8, [.null, .null, .null, .null, .null, .null, .null, .null, .null, .null, .int 0, .int 0, .int 0, .null, .int 0, .long 0, .long 0, .null, .int 0, .int 0, .int 0, .int 0, .int 0, .int 0, .null, .null, .null, .null, .null, .int 0, .int 0, .int 0, .int 0, .int 0, .null, .null, .null])))) (e : g2.1 = 73 ∧ 13 ≤ g2.2.1 ∧ g4.1 = 94 ∧ g2.2.1 + 37 ≤ g4.2.1 ∧ g4.2.1 ≤ 7302250) (B : BT) (Z : DT) (hB : B.1 = g4.2.1) (hz : g4 = hp B Z) (hi : Inv Z) : ∃ hF : AH, P_L_law L xs (0, 0, fun _ => .inl (0, [])) = some (1, hF) ∧ hF.1 ≤ 600000 ∧ hF.2.1 ≤ 7302250 := by
  have hD := law_loop (B := B) (L := L) (xs := xs) hL 4000 0 Z (by omega) (by omega) hi
  rw [nI_0, ← hz] at hD
  obtain ⟨D, hD⟩ := hD
  have f1 : (hp B D).1 = 94 := rfl
  have f2 : (hp B D).2.1 = g4.2.1 := hB
  have e5 := e.2.2.2.2
  refine ⟨hp B D, law_of L xs g0 g1 g2 g3 g4 (hp B D) h1 h2 z0 z1 z3 e hD f1 f2, ?_, ?_⟩
  · rw [f1]; omega
  · rw [f2]; exact e5
theorem c1_ends : P_X7_init 1 hA1 = some ((), hA2) := by
  obtain ⟨⟨u, r⟩, h1, h2⟩ := h1_some
  rw [h1, ← h2]
theorem c2_ends : P_X8_init 74 hA3 = some ((), hA4) := by
  obtain ⟨⟨u, r⟩, h1, h2⟩ := h2_some
  rw [h1, ← h2]
theorem z0_eq : hA0 = (0, 0, fun _ => .inl (0, [])) := by unfold hA0; exact Eq.refl _
theorem z1_eq : hA1 = (1, 13, upA hA0.2.2 1 (.inl (7, [.null, .null, .null, .null, .null, .null, .null, .null, .null, .int 0, .int 0, .long 0, .long 0]))) := by unfold hA1; exact Eq.refl _
theorem z3_eq : hA3 = (74, hA2.2.1 + 37, upA hA2.2.2 74 (.inl (8, [.null, .null, .null, .null, .null, .null, .null, .null, .null, .null, .int 0, .int 0, .int 0, .null, .int 0, .long 0, .long 0, .null, .int 0, .int 0, .int 0, .int 0, .int 0, .int 0, .null, .null, .null, .null, .null, .int 0, .int 0, .int 0, .int 0, .int 0, .null, .null, .null]))) := by unfold hA3; exact Eq.refl _
theorem bz_g (h : AH) (B : BT) (e : B = (h.2.1, h.2.2)) : B.1 = h.2.1 := by rw [e]
theorem bz_0 : BZ = (hA4.2.1, hA4.2.2) := by unfold BZ; exact Eq.refl _
theorem bz_1 : BZ.1 = hA4.2.1 := bz_g hA4 BZ bz_0
theorem law_pure (L : Nat) (xs : Nat → Int32) (hL : L ≤ 384) : ∃ hF : AH, P_L_law L xs (0, 0, fun _ => .inl (0, [])) = some (1, hF) ∧ hF.1 ≤ 600000 ∧ hF.2.1 ≤ 7302250 := law_fin L xs hL hA0 hA1 hA2 hA3 hA4 c1_ends c2_ends z0_eq z1_eq z3_eq ev3 BZ DZ bz_1 hA4_hp inv_Z
