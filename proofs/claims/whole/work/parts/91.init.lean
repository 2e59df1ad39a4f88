/-! The state behind the constructors. -/
section INITK
variable {τ σ : Type}
def RIn (h : AH) : Prop := ∀ a t n f, h.2.2 a = .inr (.inr (t, n, f)) → ∀ k, n ≤ k → f k = none
def Kp (P : PM τ) : Prop := ∀ h v h', RIn h → P h = some (v, h') → RIn h'
theorem rin_up {h : AH} (hR : RIn h) (x z a : Nat) {c : ACell} (hc : ∀ t n f, c = .inr (.inr (t, n, f)) → ∀ k, n ≤ k → f k = none) : RIn (x, z, upA h.2.2 a c) := by
  intro b t n f e
  have e' : (if b = a then c else h.2.2 b) = .inr (.inr (t, n, f)) := e
  by_cases hb : b = a
  · rw [if_pos hb] at e'
    exact hc t n f e'
  · rw [if_neg hb] at e'
    exact hR b t n f e'
theorem grown_s {h1 : AH} {r : Option (τ × AH)} {v : τ} {h' : AH} (e : grown h1 r = some (v, h')) : r = some (v, h') := by
  unfold grown at e
  cases r with
  | none => cases e
  | some p =>
    obtain ⟨x, g⟩ := p
    dsimp only at e
    split at e
    · exact e
    · cases e
theorem celO_s {h : AH} {a : Nat} {c : ACell} (e : celO h a = some c) : h.2.2 a = c := by
  unfold celO at e
  split at e
  · cases e; rfl
  · cases e
theorem kp_pure (v : τ) : Kp (pureM v) := fun h w h' hR e => by
  cases e
  exact hR
theorem kp_fail : Kp (failM : PM τ) := fun h w h' hR e => by cases e
theorem kp_newO {ci n : Nat} {fs : List Value} {f : Nat → PM τ} (hf : ∀ o, Kp (f o)) : Kp (newO ci n fs f) := fun h v h' hR e =>
  hf _ _ v h' (rin_up hR _ _ _ (fun t n f z => by cases z)) (grown_s e)
theorem kp_newA {i : Int32} {f : Nat → PM τ} (hf : ∀ o, Kp (f o)) : Kp (newA i f) := fun h v h' hR e => by
  unfold newA at e
  split at e
  · exact hf _ _ v h' (rin_up hR _ _ _ (fun t n f z => by cases z)) (grown_s e)
  · cases e
theorem kp_newR {t : Nat} {i : Int32} {f : Nat → PM τ} (hf : ∀ o, Kp (f o)) : Kp (newR t i f) := fun h v h' hR e => by
  unfold newR at e
  split at e
  · exact hf _ _ v h' (rin_up hR _ _ _ (fun t n f z => by cases z; exact fun _ _ => rfl)) (grown_s e)
  · cases e
theorem kp_putV {ci k a : Nat} {w : Value} {f : PM τ} (hf : Kp f) : Kp (putV ci k a w f) := fun h v h' hR e => by
  unfold putV at e
  split at e
  · split at e
    · exact hf _ v h' (rin_up hR _ _ _ (fun t n f z => by cases z)) e
    · cases e
  · cases e
theorem kp_setZ {ci k a : Nat} {w : Int32} {f : PM τ} (hf : Kp f) : Kp (setZ ci k a w f) := fun h v h' hR e => by
  unfold setZ at e
  split at e
  · exact kp_putV hf h v h' hR e
  · cases e
theorem kp_ast {a : Nat} {i w : Int32} {f : PM τ} (hf : Kp f) : Kp (ast a i w f) := fun h v h' hR e => by
  unfold ast at e
  split at e
  · split at e
    · exact hf _ v h' (rin_up hR _ _ _ (fun t n f z => by cases z)) e
    · cases e
  · cases e
theorem kp_astR {a r : Nat} {i : Int32} {f : PM τ} (hf : Kp f) : Kp (astR a i r f) := fun h v h' hR e => by
  unfold astR at e
  split at e
  · rename_i t n g c fs e1 e2
    split at e
    · rename_i hc
      refine hf _ v h' (rin_up hR _ _ _ (fun t' n' f' z => ?_)) e
      cases z
      intro k hk
      have h1 : i.toNatClampNeg < n := by
        have : i.toNatClampNeg = i.toInt.toNat := rfl
        omega
      dsimp only
      rw [if_neg (by omega)]
      exact hR a t n g (celO_s e1) k hk
    · cases e
  · cases e
theorem kp_getR {ci k a : Nat} {f : Nat → PM τ} (hf : ∀ v, Kp (f v)) : Kp (getR ci k a f) := fun h v h' hR e => by
  unfold getR at e
  split at e
  · exact hf _ h v h' hR e
  · cases e
theorem kp_cllA {p : PM σ} {f : σ → PM τ} (hp : Kp p) (hf : ∀ v, Kp (f v)) : Kp (cllA p f) := fun h v h' hR e => by
  unfold cllA at e
  split at e
  · rename_i w h1 e1
    split at e
    · exact hf w h1 v h' (hp h w h1 hR e1) (grown_s e)
    · cases e
  · cases e
theorem kp_cll0 {p : PM σ} {f : σ → PM τ} (hp : Kp p) (hf : ∀ v, Kp (f v)) : Kp (cll0 p f) := fun h v h' hR e => by
  unfold cll0 at e
  split at e
  · rename_i w h1 e1
    split at e
    · exact hf w h1 v h' (hp h w h1 hR e1) e
    · cases e
  · cases e
theorem kp_ifB {b : Bool} {A E : PM τ} (hA : Kp A) (hE : Kp E) : Kp (ifB b A E) := fun h v h' hR e => by
  cases b with
  | true => exact hA h v h' hR e
  | false => exact hE h v h' hR e
theorem kp_jn {k : σ} {f : σ → PM τ} (h : Kp (f k)) : Kp (jn k f) := h
end INITK
theorem kp_X0 (a : Nat) : Kp (P_X0_init a) := by
  unfold P_X0_init
  repeat' (first | exact kp_pure _ | exact kp_fail | assumption | exact ih _ | (apply kp_jn; dsimp only) | (apply kp_newO; intro _) | (apply kp_newA; intro _) | (apply kp_newR; intro _) | apply kp_setZ | apply kp_astR | apply kp_ast | (apply kp_getR; intro _) | (apply kp_cllA; rotate_left; intro _; rotate_left) | (apply kp_cll0; rotate_left; intro _; rotate_left) | apply kp_ifB | apply kp_putV)
theorem kp_X1 (a : Nat) : Kp (P_X1_init a) := by
  unfold P_X1_init
  repeat' (first | exact kp_pure _ | exact kp_fail | assumption | exact ih _ | (apply kp_jn; dsimp only) | (apply kp_newO; intro _) | (apply kp_newA; intro _) | (apply kp_newR; intro _) | apply kp_setZ | apply kp_astR | apply kp_ast | (apply kp_getR; intro _) | (apply kp_cllA; rotate_left; intro _; rotate_left) | (apply kp_cll0; rotate_left; intro _; rotate_left) | apply kp_ifB | apply kp_putV)
theorem kp_X2 (a : Nat) : Kp (P_X2_init a) := by
  unfold P_X2_init
  repeat' (first | exact kp_pure _ | exact kp_fail | assumption | exact ih _ | (apply kp_jn; dsimp only) | (apply kp_newO; intro _) | (apply kp_newA; intro _) | (apply kp_newR; intro _) | apply kp_setZ | apply kp_astR | apply kp_ast | (apply kp_getR; intro _) | (apply kp_cllA; rotate_left; intro _; rotate_left) | (apply kp_cll0; rotate_left; intro _; rotate_left) | apply kp_ifB | apply kp_putV)
theorem kp_X3 (a : Nat) : Kp (P_X3_init a) := by
  unfold P_X3_init
  repeat' (first | exact kp_pure _ | exact kp_fail | assumption | exact ih _ | exact kp_X1 _ | apply kp_X1 | (apply kp_jn; dsimp only) | (apply kp_newO; intro _) | (apply kp_newA; intro _) | (apply kp_newR; intro _) | apply kp_setZ | apply kp_astR | apply kp_ast | (apply kp_getR; intro _) | (apply kp_cllA; rotate_left; intro _; rotate_left) | (apply kp_cll0; rotate_left; intro _; rotate_left) | apply kp_ifB | apply kp_putV)
theorem kp_X4 (a : Nat) : Kp (P_X4_init a) := by
  unfold P_X4_init
  repeat' (first | exact kp_pure _ | exact kp_fail | assumption | exact ih _ | exact kp_X0 _ | apply kp_X0 | (apply kp_jn; dsimp only) | (apply kp_newO; intro _) | (apply kp_newA; intro _) | (apply kp_newR; intro _) | apply kp_setZ | apply kp_astR | apply kp_ast | (apply kp_getR; intro _) | (apply kp_cllA; rotate_left; intro _; rotate_left) | (apply kp_cll0; rotate_left; intro _; rotate_left) | apply kp_ifB | apply kp_putV)
theorem kp_X5 (a : Nat) (x y : Int32) : Kp (P_X5_init a x y) := by
  unfold P_X5_init
  rw [j_max]
  repeat' (first | exact kp_pure _ | exact kp_fail | assumption | exact ih _ | (apply kp_jn; dsimp only) | (apply kp_newO; intro _) | (apply kp_newA; intro _) | (apply kp_newR; intro _) | apply kp_setZ | apply kp_astR | apply kp_ast | (apply kp_getR; intro _) | (apply kp_cllA; rotate_left; intro _; rotate_left) | (apply kp_cll0; rotate_left; intro _; rotate_left) | apply kp_ifB | apply kp_putV)
theorem kp_X6l (a : Nat) : ∀ (n : Nat) (q : Int32), Kp (P_X6_init_76 a n q) := by
  intro n
  induction n with
  | zero => intro q; exact kp_fail
  | succ n ih =>
    intro q
    unfold P_X6_init_76
    repeat' (first | exact kp_pure _ | exact kp_fail | assumption | exact ih _ | exact kp_X1 _ | apply kp_X1 | (apply kp_jn; dsimp only) | (apply kp_newO; intro _) | (apply kp_newA; intro _) | (apply kp_newR; intro _) | apply kp_setZ | apply kp_astR | apply kp_ast | (apply kp_getR; intro _) | (apply kp_cllA; rotate_left; intro _; rotate_left) | (apply kp_cll0; rotate_left; intro _; rotate_left) | apply kp_ifB | apply kp_putV)
theorem kp_X6 (a : Nat) : Kp (P_X6_init a) := by
  unfold P_X6_init
  repeat' (first | exact kp_pure _ | exact kp_fail | assumption | exact ih _ | exact kp_X6l _ | apply kp_X6l | (apply kp_jn; dsimp only) | (apply kp_newO; intro _) | (apply kp_newA; intro _) | (apply kp_newR; intro _) | apply kp_setZ | apply kp_astR | apply kp_ast | (apply kp_getR; intro _) | (apply kp_cllA; rotate_left; intro _; rotate_left) | (apply kp_cll0; rotate_left; intro _; rotate_left) | apply kp_ifB | apply kp_putV)
theorem kp_X7a (a : Nat) : ∀ (n : Nat) (q : Int32), Kp (P_X7_init_174 a n q) := by
  intro n
  induction n with
  | zero => intro q; exact kp_fail
  | succ n ih =>
    intro q
    unfold P_X7_init_174
    repeat' (first | exact kp_pure _ | exact kp_fail | assumption | exact ih _ | exact kp_X3 _ | apply kp_X3 | (apply kp_jn; dsimp only) | (apply kp_newO; intro _) | (apply kp_newA; intro _) | (apply kp_newR; intro _) | apply kp_setZ | apply kp_astR | apply kp_ast | (apply kp_getR; intro _) | (apply kp_cllA; rotate_left; intro _; rotate_left) | (apply kp_cll0; rotate_left; intro _; rotate_left) | apply kp_ifB | apply kp_putV)
theorem kp_X7b (k : PM Unit) (hk : Kp k) (a : Nat) : ∀ (n : Nat) (q : Int32), Kp (P_X7_init_144 k a n q) := by
  intro n
  induction n with
  | zero => intro q; exact kp_fail
  | succ n ih =>
    intro q
    unfold P_X7_init_144
    repeat' (first | exact kp_pure _ | exact kp_fail | assumption | exact ih _ | exact kp_X5 _ | apply kp_X5 | (apply kp_jn; dsimp only) | (apply kp_newO; intro _) | (apply kp_newA; intro _) | (apply kp_newR; intro _) | apply kp_setZ | apply kp_astR | apply kp_ast | (apply kp_getR; intro _) | (apply kp_cllA; rotate_left; intro _; rotate_left) | (apply kp_cll0; rotate_left; intro _; rotate_left) | apply kp_ifB | apply kp_putV)
theorem kp_X7c (k : PM Unit) (hk : Kp k) (a : Nat) : ∀ (n : Nat) (q : Int32), Kp (P_X7_init_114 k a n q) := by
  intro n
  induction n with
  | zero => intro q; exact kp_fail
  | succ n ih =>
    intro q
    unfold P_X7_init_114
    repeat' (first | exact kp_pure _ | exact kp_fail | assumption | exact ih _ | exact kp_X5 _ | apply kp_X5 | (apply kp_jn; dsimp only) | (apply kp_newO; intro _) | (apply kp_newA; intro _) | (apply kp_newR; intro _) | apply kp_setZ | apply kp_astR | apply kp_ast | (apply kp_getR; intro _) | (apply kp_cllA; rotate_left; intro _; rotate_left) | (apply kp_cll0; rotate_left; intro _; rotate_left) | apply kp_ifB | apply kp_putV)
theorem kp_X7 (a : Nat) : Kp (P_X7_init a) := by
  unfold P_X7_init
  repeat' (first | exact kp_pure _ | exact kp_fail | assumption | exact ih _ | exact kp_X0 _ | exact kp_X2 _ | exact kp_X3 _ | exact kp_X4 _ | exact kp_X6 _ | exact kp_X7a _ | exact kp_X7b _ | exact kp_X7c _ | apply kp_X0 | apply kp_X2 | apply kp_X3 | apply kp_X4 | apply kp_X6 | apply kp_X7a | apply kp_X7b | apply kp_X7c | (apply kp_jn; dsimp only) | (apply kp_newO; intro _) | (apply kp_newA; intro _) | (apply kp_newR; intro _) | apply kp_setZ | apply kp_astR | apply kp_ast | (apply kp_getR; intro _) | (apply kp_cllA; rotate_left; intro _; rotate_left) | (apply kp_cll0; rotate_left; intro _; rotate_left) | apply kp_ifB | apply kp_putV)
theorem kp_X8a (a : Nat) : ∀ (n : Nat) (q : Int32), Kp (P_X8_init_214 a n q) := by
  intro n
  induction n with
  | zero => intro q; exact kp_fail
  | succ n ih =>
    intro q
    unfold P_X8_init_214
    repeat' (first | exact kp_pure _ | exact kp_fail | assumption | exact ih _ | (apply kp_jn; dsimp only) | (apply kp_newO; intro _) | (apply kp_newA; intro _) | (apply kp_newR; intro _) | apply kp_setZ | apply kp_astR | apply kp_ast | (apply kp_getR; intro _) | (apply kp_cllA; rotate_left; intro _; rotate_left) | (apply kp_cll0; rotate_left; intro _; rotate_left) | apply kp_ifB | apply kp_putV)
theorem kp_X8b (k : PM Unit) (hk : Kp k) (a : Nat) : ∀ (n : Nat) (q : Int32), Kp (P_X8_init_194 k a n q) := by
  intro n
  induction n with
  | zero => intro q; exact kp_fail
  | succ n ih =>
    intro q
    unfold P_X8_init_194
    repeat' (first | exact kp_pure _ | exact kp_fail | assumption | exact ih _ | (apply kp_jn; dsimp only) | (apply kp_newO; intro _) | (apply kp_newA; intro _) | (apply kp_newR; intro _) | apply kp_setZ | apply kp_astR | apply kp_ast | (apply kp_getR; intro _) | (apply kp_cllA; rotate_left; intro _; rotate_left) | (apply kp_cll0; rotate_left; intro _; rotate_left) | apply kp_ifB | apply kp_putV)
theorem kp_X8c (k : PM Unit) (hk : Kp k) (a : Nat) : ∀ (n : Nat) (q : Int32), Kp (P_X8_init_173 k a n q) := by
  intro n
  induction n with
  | zero => intro q; exact kp_fail
  | succ n ih =>
    intro q
    unfold P_X8_init_173
    repeat' (first | exact kp_pure _ | exact kp_fail | assumption | exact ih _ | (apply kp_jn; dsimp only) | (apply kp_newO; intro _) | (apply kp_newA; intro _) | (apply kp_newR; intro _) | apply kp_setZ | apply kp_astR | apply kp_ast | (apply kp_getR; intro _) | (apply kp_cllA; rotate_left; intro _; rotate_left) | (apply kp_cll0; rotate_left; intro _; rotate_left) | apply kp_ifB | apply kp_putV)
theorem kp_X8 (a : Nat) : Kp (P_X8_init a) := by
  unfold P_X8_init
  repeat' (first | exact kp_pure _ | exact kp_fail | assumption | exact ih _ | exact kp_X8a _ | exact kp_X8b _ | exact kp_X8c _ | apply kp_X8a | apply kp_X8b | apply kp_X8c | (apply kp_jn; dsimp only) | (apply kp_newO; intro _) | (apply kp_newA; intro _) | (apply kp_newR; intro _) | apply kp_setZ | apply kp_astR | apply kp_ast | (apply kp_getR; intro _) | (apply kp_cllA; rotate_left; intro _; rotate_left) | (apply kp_cll0; rotate_left; intro _; rotate_left) | apply kp_ifB | apply kp_putV)
