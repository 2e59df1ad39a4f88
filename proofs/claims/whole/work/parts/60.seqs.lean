/-! Rows of watches in their order. -/
section SEQS
def rj (i m : Nat) : Nat → List Nat
  | 0 => []
  | t + 1 => (10 * i + (m - (t + 1))) :: rj i m t
def ri (m : Nat) : Nat → List Nat
  | 0 => []
  | t + 1 => rj (m - (t + 1)) m t ++ ri m t
/-- all pairs, in their order -/
def prs (m : Nat) : List Nat := ri m m
theorem prs_ok {m : Nat} (hm : m ≤ 6) : (∀ c ∈ prs m, c / 10 < c % 10 ∧ c % 10 < m ∧ c < 60) ∧ (prs m).length ≤ 15 ∧ (2 ≤ m → 1 ≤ (prs m).length) := by
  rcases (show m = 0 ∨ m = 1 ∨ m = 2 ∨ m = 3 ∨ m = 4 ∨ m = 5 ∨ m = 6 by omega) with rfl | rfl | rfl | rfl | rfl | rfl | rfl <;> decide
def lst {α : Type} (h : Nat → α) : Nat → List α
  | 0 => []
  | k + 1 => lst h k ++ [h k]
theorem lst_add {α : Type} (h : Nat → α) (a : Nat) : ∀ b, lst h (a + b) = lst h a ++ lst (fun k => h (a + k)) b := by
  intro b
  induction b with
  | zero => exact (List.append_nil _).symm
  | succ b ih =>
    show lst h (a + b) ++ [h (a + b)] = lst h a ++ (lst (fun k => h (a + k)) b ++ [h (a + b)])
    rw [ih, List.append_assoc]
theorem lst_len {α : Type} (h : Nat → α) : ∀ n, (lst h n).length = n := by
  intro n
  induction n with
  | zero => rfl
  | succ n ih =>
    show (lst h n ++ [h n]).length = n + 1
    rw [List.length_append, ih]
    rfl
theorem lst_eq {α : Type} {h h' : Nat → α} : ∀ n, (∀ k, k < n → h k = h' k) → lst h n = lst h' n := by
  intro n
  induction n with
  | zero => intro _; rfl
  | succ n ih =>
    intro z
    show lst h n ++ [h n] = lst h' n ++ [h' n]
    rw [ih (fun k hk => z k (by omega)), z n (by omega)]
theorem lst_map {α β : Type} (h : Nat → α) (f : α → β) : ∀ n, (lst h n).map f = lst (fun k => f (h k)) n := by
  intro n
  induction n with
  | zero => rfl
  | succ n ih =>
    show (lst h n ++ [h n]).map f = lst (fun k => f (h k)) n ++ [f (h n)]
    rw [List.map_append, ih]
    rfl
theorem lst_of : ∀ l : List Nat, lst (fun k => l.getD k 0) l.length = l := by
  intro l
  induction l with
  | nil => rfl
  | cons c l ih =>
    show lst (fun k => (c :: l).getD k 0) (l.length + 1) = c :: l
    rw [Nat.add_comm, lst_add]
    show [c] ++ lst (fun k => (c :: l).getD (1 + k) 0) l.length = c :: l
    rw [lst_eq (h' := fun k => l.getD k 0) l.length (fun k _ => by rw [Nat.add_comm]; rfl), ih]
    rfl
/-- one more in front; one more behind -/
def ext (ls : List (List Nat)) : List Nat → List (List Nat)
  | [] => []
  | c :: ps => ls.map (fun l => c :: l) ++ ext ls ps
def seqs (ps : List Nat) : Nat → List (List Nat)
  | 0 => [[]]
  | r + 1 => ext (seqs ps r) ps
def extL (ps : List Nat) : List (List Nat) → List (List Nat)
  | [] => []
  | l :: ls => ps.map (fun c => l ++ [c]) ++ extL ps ls
theorem extL_app (ps : List Nat) : ∀ a b, extL ps (a ++ b) = extL ps a ++ extL ps b := by
  intro a
  induction a with
  | nil => intro b; rfl
  | cons l a ih =>
    intro b
    show ps.map (fun c => l ++ [c]) ++ extL ps (a ++ b) = (ps.map (fun c => l ++ [c]) ++ extL ps a) ++ extL ps b
    rw [ih, List.append_assoc]
theorem extL_map (ps : List Nat) (c : Nat) : ∀ ls, (extL ps ls).map (fun l => c :: l) = extL ps (ls.map (fun l => c :: l)) := by
  intro ls
  induction ls with
  | nil => rfl
  | cons l ls ih =>
    show (ps.map (fun c => l ++ [c]) ++ extL ps ls).map (fun l => c :: l) = ps.map (fun c' => (c :: l) ++ [c']) ++ extL ps (ls.map (fun l => c :: l))
    rw [List.map_append, ih, List.map_map]
    rfl
theorem ext_extL (ps ls' : List Nat) (ls : List (List Nat)) : ext (extL ps ls) ls' = extL ps (ext ls ls') := by
  induction ls' with
  | nil => rfl
  | cons c qs ih =>
    show (extL ps ls).map (fun l => c :: l) ++ ext (extL ps ls) qs = extL ps (ls.map (fun l => c :: l) ++ ext ls qs)
    rw [extL_app, extL_map, ih]
theorem ext_nil : ∀ ps : List Nat, ext [[]] ps = extL ps [[]] := by
  intro ps
  show ext [[]] ps = ps.map (fun c => [] ++ [c]) ++ []
  induction ps with
  | nil => rfl
  | cons c ps ih =>
    show [[c]] ++ ext [[]] ps = [c] :: (ps.map (fun c => [] ++ [c]) ++ [])
    rw [ih]
    rfl
theorem seqs_L (ps : List Nat) : ∀ n, seqs ps (n + 1) = extL ps (seqs ps n) := by
  intro n
  induction n with
  | zero => exact ext_nil ps
  | succ n ih =>
    show ext (seqs ps (n + 1)) ps = extL ps (ext (seqs ps n) ps)
    rw [ih, ext_extL]
/-- the row of a code -/
def dg (pn : Nat → Nat) (M : Nat) : Nat → Nat → List Nat
  | 0, _ => []
  | n + 1, code => dg pn M n (code / M) ++ [pn (code % M)]
theorem dg_len (pn : Nat → Nat) (M : Nat) : ∀ n code, (dg pn M n code).length = n := by
  intro n
  induction n with
  | zero => intro code; rfl
  | succ n ih =>
    intro code
    show (dg pn M n (code / M) ++ [pn (code % M)]).length = n + 1
    rw [List.length_append, ih]
    rfl
theorem extL_lst (pn : Nat → Nat) {M : Nat} (hM : 0 < M) (h : Nat → List Nat) : ∀ A, extL (lst pn M) (lst h A) = lst (fun k => h (k / M) ++ [pn (k % M)]) (A * M) := by
  intro A
  induction A with
  | zero => rw [Nat.zero_mul]; rfl
  | succ A ih =>
    show extL (lst pn M) (lst h A ++ [h A]) = _
    rw [extL_app, ih, Nat.succ_mul, lst_add]
    congr 1
    show (lst pn M).map (fun c => h A ++ [c]) ++ [] = _
    rw [List.append_nil, lst_map]
    apply lst_eq
    intro k hk
    rw [Nat.add_comm (A * M) k, Nat.add_mul_div_right _ _ hM, Nat.div_eq_of_lt hk, Nat.add_mul_mod_self_right, Nat.mod_eq_of_lt hk, Nat.zero_add]
theorem seqs_dg (ps : List Nat) (h0 : 0 < ps.length) : ∀ n, seqs ps n = lst (dg (fun k => ps.getD k 0) ps.length n) (ps.length ^ n) := by
  intro n
  induction n with
  | zero => rfl
  | succ n ih =>
    have e := extL_lst (fun k => ps.getD k 0) h0 (dg (fun k => ps.getD k 0) ps.length n) (ps.length ^ n)
    rw [lst_of] at e
    rw [seqs_L, ih, e, Nat.pow_succ]
    rfl
/-- by elements -/
def dvn (M : Nat) (c : Nat) : Nat → Nat
  | 0 => c
  | k + 1 => dvn M c k / M
theorem dg_get (pn : Nat → Nat) (M c : Nat) {n k : Nat} (hn : n ≤ 3) (hk : k < n) : (dg pn M n c).getD k 0 = pn (dvn M c (n - 1 - k) % M) := by
  rcases (show (n = 1 ∧ k = 0) ∨ (n = 2 ∧ k = 0) ∨ (n = 2 ∧ k = 1) ∨ (n = 3 ∧ k = 0) ∨ (n = 3 ∧ k = 1) ∨ (n = 3 ∧ k = 2) by omega) with ⟨rfl, rfl⟩ | ⟨rfl, rfl⟩ | ⟨rfl, rfl⟩ | ⟨rfl, rfl⟩ | ⟨rfl, rfl⟩ | ⟨rfl, rfl⟩ <;> rfl
theorem foldl_ext {σ : Type} (f : σ → List Nat → σ) (ls : List (List Nat)) (c : Nat) (ps : List Nat) (st : σ) : (ext ls (c :: ps)).foldl f st = (ext ls ps).foldl f (ls.foldl (fun st l => f st (c :: l)) st) := by
  show (ls.map (fun l => c :: l) ++ ext ls ps).foldl f st = _
  rw [List.foldl_append, List.foldl_map]
theorem foldl_ext_app {σ : Type} (f : σ → List Nat → σ) (ls : List (List Nat)) : ∀ (ps qs : List Nat) (st : σ), (ext ls (ps ++ qs)).foldl f st = (ext ls qs).foldl f ((ext ls ps).foldl f st) := by
  intro ps
  induction ps with
  | nil => intro qs st; rfl
  | cons c ps ih =>
    intro qs st
    rw [List.cons_append, foldl_ext, foldl_ext, ih]
theorem foldl_same {σ : Type} {f g : σ → List Nat → σ} : ∀ (ls : List (List Nat)) (st : σ), (∀ st l, l ∈ ls → f st l = g st l) → ls.foldl f st = ls.foldl g st := by
  intro ls
  induction ls with
  | nil => intro st _; rfl
  | cons a ls ih =>
    intro st h
    show ls.foldl f (f st a) = ls.foldl g (g st a)
    rw [h st a List.mem_cons_self, ih _ (fun st l hl => h st l (List.mem_cons_of_mem _ hl))]
theorem foldl_id {σ : Type} {f : σ → List Nat → σ} : ∀ (ls : List (List Nat)) (st : σ), (∀ st l, l ∈ ls → f st l = st) → ls.foldl f st = st := by
  intro ls
  induction ls with
  | nil => intro st _; rfl
  | cons a ls ih =>
    intro st h
    show ls.foldl f (f st a) = st
    rw [h st a List.mem_cons_self, ih _ (fun st l hl => h st l (List.mem_cons_of_mem _ hl))]
theorem foldl_lst {σ : Type} (f : σ → List Nat → σ) (h : Nat → List Nat) (st : σ) (k : Nat) : (lst h (k + 1)).foldl f st = f ((lst h k).foldl f st) (h k) := by
  show (lst h k ++ [h k]).foldl f st = _
  rw [List.foldl_append]
  rfl
/-- the state behind a row of watches -/
def rnL (q : QT) (H : HT) (l : List Nat) : HT := l.foldl (fun H c => wat q H (c / 10) (c % 10)) H
theorem rnL_app (q : QT) (H : HT) (a b : List Nat) : rnL q H (a ++ b) = rnL q (rnL q H a) b := List.foldl_append ..
theorem rnL_W {a m : Nat} {q : QT} {H : HT} (hv : QV m q) (hm6 : m ≤ 6) (hH : HW a m H) : ∀ l : List Nat, (∀ c ∈ l, c ∈ prs m) → HW (a + l.length) m (rnL q H l) := by
  intro l
  induction l generalizing a H with
  | nil => intro _; exact hH
  | cons c l ih =>
    intro h
    have hc := (prs_ok hm6).1 c (h c List.mem_cons_self)
    have := ih (wat_W hv hH (show c / 10 < m by omega) hc.2.1) (fun d hd => h d (List.mem_cons_of_mem _ hd))
    rw [List.length_cons, show a + (l.length + 1) = a + 1 + l.length by omega]
    exact this
theorem rnW_L (q : QT) (H : HT) (l : List Nat) (hl : l.length ≤ 3) (hb : ∀ c ∈ l, c < 60) : rnW q H (fun k => nI (l.getD k 0)) l.length = rnL q H l := by
  have s : ∀ (H : HT) (c : Nat), c < 60 → wat q H ((nI c).toNatClampNeg / 10) ((nI c).toNatClampNeg % 10) = wat q H (c / 10) (c % 10) := fun H c hc => by rw [nI_clamp (by omega)]
  match l, hl, hb with
  | [], _, _ => rfl
  | [a], _, hb => exact s H a (hb a (by simp))
  | [a, b], _, hb =>
    show wat q (wat q H ((nI a).toNatClampNeg / 10) ((nI a).toNatClampNeg % 10)) ((nI b).toNatClampNeg / 10) ((nI b).toNatClampNeg % 10) = _
    rw [s _ a (hb a (by simp)), s _ b (hb b (by simp))]
    rfl
  | [a, b, c], _, hb =>
    show wat q (wat q (wat q H ((nI a).toNatClampNeg / 10) ((nI a).toNatClampNeg % 10)) ((nI b).toNatClampNeg / 10) ((nI b).toNatClampNeg % 10)) ((nI c).toNatClampNeg / 10) ((nI c).toNatClampNeg % 10) = _
    rw [s _ a (hb a (by simp)), s _ b (hb b (by simp)), s _ c (hb c (by simp))]
    rfl
  | _ :: _ :: _ :: _ :: _, h, _ => simp at h
theorem mem_ext {ls : List (List Nat)} : ∀ {ps : List Nat} {l : List Nat}, l ∈ ext ls ps → ∃ c l', c ∈ ps ∧ l' ∈ ls ∧ l = c :: l' := by
  intro ps
  induction ps with
  | nil => intro l h; cases h
  | cons c ps ih =>
    intro l h
    rcases List.mem_append.mp h with h | h
    · obtain ⟨l', h1, h2⟩ := List.mem_map.mp h
      exact ⟨c, l', List.mem_cons_self, h1, h2.symm⟩
    · obtain ⟨c', l', h1, h2, h3⟩ := ih h
      exact ⟨c', l', List.mem_cons_of_mem _ h1, h2, h3⟩
theorem seqs_mem {ps : List Nat} : ∀ {n : Nat} {l : List Nat}, l ∈ seqs ps n → l.length = n ∧ ∀ c ∈ l, c ∈ ps := by
  intro n
  induction n with
  | zero =>
    intro l h
    rw [show seqs ps 0 = [[]] from rfl, List.mem_singleton] at h
    subst h
    exact ⟨rfl, fun c hc => by cases hc⟩
  | succ n ih =>
    intro l h
    obtain ⟨c, l', h1, h2, rfl⟩ := mem_ext h
    obtain ⟨h3, h4⟩ := ih h2
    refine ⟨by rw [List.length_cons, h3], fun d hd => ?_⟩
    rcases List.mem_cons.mp hd with rfl | hd
    · exact h1
    · exact h4 d hd
theorem mem_lst {α : Type} (h : Nat → α) : ∀ {n k : Nat}, k < n → h k ∈ lst h n := by
  intro n
  induction n with
  | zero => intro k hk; omega
  | succ n ih =>
    intro k hk
    show h k ∈ lst h n ++ [h n]
    by_cases e : k = n
    · subst e; exact List.mem_append.mpr (Or.inr (List.mem_singleton.mpr rfl))
    · exact List.mem_append.mpr (Or.inl (ih (by omega)))
end SEQS
