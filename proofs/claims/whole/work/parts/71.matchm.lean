/-! All in pairs: rows and codes. -/
section MATCHM
variable {B : BT}
def lwF (m : Nat) : Nat → Nat → Nat → Nat → (Nat → Int32) → List Nat → Option (Nat × (Nat → Int32) × List Nat)
  | 0, _, left, _, w, ps => some (left, w, ps)
  | t + 1, i, left, al, w, ps =>
    if w i = -2 then
      (if left % (m + 1) = 0 then (if al = 0 then none else lwF m t (i + 1) (left / (m + 1)) (al - 1) (upd w i (-9)) ps)
      else (if i < left % (m + 1) - 1 ∧ w (left % (m + 1) - 1) = -2 then lwF m t (i + 1) (left / (m + 1)) al (upd (upd w i (nI (left % (m + 1) - 1))) (left % (m + 1) - 1) (nI i)) (ps ++ [10 * i + (left % (m + 1) - 1)]) else none))
    else lwF m t (i + 1) left al w ps
def wyF (m c : Nat) : Option (Nat × (Nat → Int32) × List Nat) := lwF m m 0 c (m % 2) (fun _ => -2) []
def psN (p : Nat → Int32) : Nat → List Nat
  | 0 => []
  | k + 1 => psN p k ++ (if nI k < p k then [10 * k + (p k).toNatClampNeg] else [])
/-- all ways, in rising order -/
def TB (m : Nat) : List (List Int32) := match m with
  | 2 => [[1, 0]]
  | 3 => [[(-9), 2, 1], [1, 0, (-9)], [2, (-9), 0]]
  | 4 => [[1, 0, 3, 2], [2, 3, 0, 1], [3, 2, 1, 0]]
  | 5 => [[(-9), 2, 1, 4, 3], [(-9), 3, 4, 1, 2], [(-9), 4, 3, 2, 1], [1, 0, (-9), 4, 3], [1, 0, 3, 2, (-9)], [1, 0, 4, (-9), 2], [2, (-9), 0, 4, 3], [2, 3, 0, 1, (-9)], [2, 4, 0, (-9), 1], [3, (-9), 4, 0, 2], [3, 2, 1, 0, (-9)], [3, 4, (-9), 0, 1], [4, (-9), 3, 2, 0], [4, 2, 1, (-9), 0], [4, 3, (-9), 1, 0]]
  | 6 => [[1, 0, 3, 2, 5, 4], [1, 0, 4, 5, 2, 3], [1, 0, 5, 4, 3, 2], [2, 3, 0, 1, 5, 4], [2, 4, 0, 5, 1, 3], [2, 5, 0, 4, 3, 1], [3, 2, 1, 0, 5, 4], [3, 4, 5, 0, 1, 2], [3, 5, 4, 0, 2, 1], [4, 2, 1, 5, 0, 3], [4, 3, 5, 1, 0, 2], [4, 5, 3, 2, 0, 1], [5, 2, 1, 4, 3, 0], [5, 3, 4, 1, 2, 0], [5, 4, 3, 2, 1, 0]]
  | _ => []
def NC (m : Nat) : Nat := (m + 1) ^ ((m + 1) / 2)
def chB (m c : Nat) : Bool := match wyF m c with
  | some (0, w, ps) => (TB m).any (fun l => decide (lst w m = l)) && decide (ps = psN w m)
  | _ => true
def chC (m : Nat) (l : List Int32) (c : Nat) : Bool := match wyF m c with
  | some (0, w, _) => decide (lst w m = l)
  | _ => false
def ahL : List Int32 → List Int32 → Bool
  | a :: l, b :: l' => if a = b then ahL l l' else decide (a < b)
  | _, _ => false
def tb_A (m : Nat) : Bool := decide ((mtF m 10 0 (decide (m % 2 = 1)) (fun _ => -1)).map (fun p => lst p m) = TB m)
def tb_B (m : Nat) : Bool := (List.range (NC m)).all (chB m)
def tb_C (m : Nat) : Bool := (TB m).all (fun l => (List.range (NC m)).any (chC m l))
def tb_D (m : Nat) : Bool := (List.range (TB m).length).all (fun a => (List.range (TB m).length).all (fun b => decide (ahL ((TB m).getD a []) ((TB m).getD b []) = decide (a < b))))
def tb_E (m : Nat) : Bool := (TB m).all (fun l => decide (l.length = m) && l.all (fun x => decide (x = -9) || (List.range m).any (fun j => decide (x = nI j))))
theorem tb_2 : (tb_A 2 && tb_B 2 && tb_C 2 && tb_D 2 && tb_E 2) = true := by decide +kernel
theorem tb_3 : (tb_A 3 && tb_B 3 && tb_C 3 && tb_D 3 && tb_E 3) = true := by decide +kernel
theorem tb_4 : (tb_A 4 && tb_B 4 && tb_C 4 && tb_D 4 && tb_E 4) = true := by decide +kernel
theorem tb_5 : (tb_A 5 && tb_B 5 && tb_C 5 && tb_D 5 && tb_E 5) = true := by decide +kernel
theorem tb_6 : (tb_A 6 && tb_B 6 && tb_C 6 && tb_D 6 && tb_E 6) = true := by decide +kernel
theorem tb_all {m : Nat} (h2 : 2 ≤ m) (h6 : m ≤ 6) : (tb_A m && tb_B m && tb_C m && tb_D m && tb_E m) = true := by
  rcases (show m = 2 ∨ m = 3 ∨ m = 4 ∨ m = 5 ∨ m = 6 by omega) with rfl | rfl | rfl | rfl | rfl
  · exact tb_2
  · exact tb_3
  · exact tb_4
  · exact tb_5
  · exact tb_6
theorem tbA {m : Nat} (h2 : 2 ≤ m) (h6 : m ≤ 6) : (mtF m 10 0 (decide (m % 2 = 1)) (fun _ => -1)).map (fun p => lst p m) = TB m := by
  have h := tb_all h2 h6
  simp only [Bool.and_eq_true] at h
  exact of_decide_eq_true h.1.1.1.1
theorem tbB {m : Nat} (h2 : 2 ≤ m) (h6 : m ≤ 6) {c : Nat} (hc : c < NC m) {w : Nat → Int32} {ps : List Nat} (hw : wyF m c = some (0, w, ps)) : lst w m ∈ TB m ∧ ps = psN w m := by
  have h := tb_all h2 h6
  simp only [Bool.and_eq_true] at h
  have hb := List.all_eq_true.mp h.1.1.1.2 c (List.mem_range.mpr hc)
  unfold chB at hb
  rw [hw] at hb
  simp only [Bool.and_eq_true] at hb
  obtain ⟨l, h3, h4⟩ := List.any_eq_true.mp hb.1
  rw [of_decide_eq_true h4]
  exact ⟨h3, of_decide_eq_true hb.2⟩
theorem tbC {m : Nat} (h2 : 2 ≤ m) (h6 : m ≤ 6) {l : List Int32} (hl : l ∈ TB m) : ∃ c, c < NC m ∧ ∃ w ps, wyF m c = some (0, w, ps) ∧ lst w m = l := by
  have h := tb_all h2 h6
  simp only [Bool.and_eq_true] at h
  obtain ⟨c, h3, h4⟩ := List.any_eq_true.mp (List.all_eq_true.mp h.1.1.2 l hl)
  unfold chC at h4
  refine ⟨c, List.mem_range.mp h3, ?_⟩
  cases e : wyF m c with
  | none => rw [e] at h4; cases h4
  | some v =>
    obtain ⟨a, w, ps⟩ := v
    rw [e] at h4
    cases a with
    | zero => exact ⟨w, ps, rfl, of_decide_eq_true h4⟩
    | succ a => cases h4
theorem tbD {m : Nat} (h2 : 2 ≤ m) (h6 : m ≤ 6) {a b : Nat} (ha : a < (TB m).length) (hb : b < (TB m).length) : ahL ((TB m).getD a []) ((TB m).getD b []) = decide (a < b) := by
  have h := tb_all h2 h6
  simp only [Bool.and_eq_true] at h
  exact of_decide_eq_true (List.all_eq_true.mp (List.all_eq_true.mp h.1.2 a (List.mem_range.mpr ha)) b (List.mem_range.mpr hb))
theorem tbE {m : Nat} (h2 : 2 ≤ m) (h6 : m ≤ 6) {l : List Int32} (hl : l ∈ TB m) : l.length = m ∧ ∀ x ∈ l, x = -9 ∨ ∃ j, j < m ∧ x = nI j := by
  have h := tb_all h2 h6
  simp only [Bool.and_eq_true] at h
  have he := List.all_eq_true.mp h.2 l hl
  simp only [Bool.and_eq_true] at he
  refine ⟨of_decide_eq_true he.1, fun x hx => ?_⟩
  have h3 := List.all_eq_true.mp he.2 x hx
  rcases Bool.or_eq_true _ _ |>.mp h3 with h4 | h4
  · exact Or.inl (of_decide_eq_true h4)
  · obtain ⟨j, h5, h6⟩ := List.any_eq_true.mp h4
    exact Or.inr ⟨j, List.mem_range.mp h5, of_decide_eq_true h6⟩
theorem ahL_rf : ∀ l, ahL l l = false := by
  intro l
  induction l with
  | nil => rfl
  | cons a l ih =>
    show (if a = a then ahL l l else _) = false
    rw [if_pos rfl, ih]
theorem tb_inj {m : Nat} (h2 : 2 ≤ m) (h6 : m ≤ 6) {a b : Nat} (ha : a < (TB m).length) (hb : b < (TB m).length) (e : (TB m).getD a [] = (TB m).getD b []) : a = b := by
  have h3 := tbD h2 h6 ha hb
  have h4 := tbD h2 h6 hb ha
  rw [e, ahL_rf] at h3
  rw [e, ahL_rf] at h4
  have h5 : ¬ a < b := of_decide_eq_false h3.symm
  have h6 : ¬ b < a := of_decide_eq_false h4.symm
  omega
theorem lst_get {α : Type} (h : Nat → α) (d : α) : ∀ (n k : Nat), k < n → (lst h n).getD k d = h k := by
  intro n
  induction n with
  | zero => intro k hk; omega
  | succ n ih =>
    intro k hk
    show ((lst h n ++ [h n])[k]?).getD d = h k
    by_cases e : k < n
    · rw [List.getElem?_append_left (by rw [lst_len]; exact e)]
      exact ih k e
    · rw [List.getElem?_append_right (by rw [lst_len]; omega), lst_len, show k - n = 0 by omega, show k = n by omega]
      rfl
theorem getD_mem {α : Type} (d : α) : ∀ (l : List α) (k : Nat), k < l.length → l.getD k d ∈ l := by
  intro l
  induction l with
  | nil => intro k hk; exact absurd hk (by simp)
  | cons a l ih =>
    intro k hk
    cases k with
    | zero => exact List.mem_cons_self
    | succ k => exact List.mem_cons_of_mem _ (ih k (by rw [List.length_cons] at hk; omega))
theorem mem_getD {α : Type} (d : α) : ∀ (l : List α) (x : α), x ∈ l → ∃ k, k < l.length ∧ l.getD k d = x := by
  intro l
  induction l with
  | nil => intro x hx; cases hx
  | cons a l ih =>
    intro x hx
    rcases List.mem_cons.mp hx with rfl | hx
    · exact ⟨0, by simp, rfl⟩
    · obtain ⟨k, h1, h2⟩ := ih x hx
      exact ⟨k + 1, by rw [List.length_cons]; omega, h2⟩
/-- the row of a way; what it tells -/
def pl (m a : Nat) : Nat → Int32 := fun k => ((TB m).getD a []).getD k 0
def fT (q : QT) (H : HT) (m a : Nat) : Int32 := sumP q H (pl m a) m
theorem sumP_eq {q : QT} {H : HT} {p p' : Nat → Int32} : ∀ n, (∀ k, k < n → p k = p' k) → sumP q H p n = sumP q H p' n := by
  intro n
  induction n with
  | zero => intro _; rfl
  | succ n ih =>
    intro h
    show (if nI n < p n then sumP q H p n + tk q H n (p n).toNatClampNeg else sumP q H p n) = (if nI n < p' n then sumP q H p' n + tk q H n (p' n).toNatClampNeg else sumP q H p' n)
    rw [ih (fun k hk => h k (by omega)), h n (by omega)]
theorem sumP_b {m : Nat} {q : QT} {H : HT} {p : Nat → Int32} (hm6 : m ≤ 6) (hq : QV m q) (hV : ∀ k, ∃ u, u ≤ 30 ∧ H.2.2 k = nI u) (hvp : ∀ k, k < m → p k = -9 ∨ ∃ j, j < m ∧ p k = nI j) : ∀ n, n ≤ m → 0 ≤ (sumP q H p n).toInt ∧ (sumP q H p n).toInt ≤ 24 * n := by
  intro n
  induction n with
  | zero => intro _; exact ⟨show 0 ≤ (0 : Int32).toInt by decide, show (0 : Int32).toInt ≤ 24 * ((0 : Nat) : Int) by decide⟩
  | succ n ih =>
    intro h
    obtain ⟨i1, i2⟩ := ih (by omega)
    show 0 ≤ (if nI n < p n then sumP q H p n + tk q H n (p n).toNatClampNeg else sumP q H p n).toInt ∧ (if nI n < p n then sumP q H p n + tk q H n (p n).toNatClampNeg else sumP q H p n).toInt ≤ 24 * ((n + 1 : Nat) : Int)
    split
    · rename_i hlt
      rcases hvp n (by omega) with e | ⟨j, hj, e⟩
      · rw [e, lt_i, nI_toInt (by omega)] at hlt
        have e1 : ((-9 : Int32)).toInt = -9 := rfl
        omega
      · rw [e, nI_clamp (by omega)]
        have hb := tk_b (H := H) hq hV (show n < m by omega) hj
        rw [add_s (by omega)]
        omega
    · omega
theorem fT_b {m a : Nat} {q : QT} {H : HT} (h2 : 2 ≤ m) (h6 : m ≤ 6) (hq : QV m q) (hV : ∀ k, ∃ u, u ≤ 30 ∧ H.2.2 k = nI u) (ha : a < (TB m).length) : 0 ≤ (fT q H m a).toInt := by
  refine (sumP_b h6 hq hV (fun k hk => ?_) m (Nat.le_refl _)).1
  obtain ⟨h3, h4⟩ := tbE h2 h6 (getD_mem [] (TB m) a ha)
  exact h4 _ (getD_mem 0 _ k (by rw [h3]; exact hk))
def psS (q : QT) (H : HT) (ps : List Nat) : Int32 := ps.foldl (fun s c => s + tk q H (c / 10) (c % 10)) 0
theorem psS_N {m : Nat} {q : QT} {H : HT} {p : Nat → Int32} (hm6 : m ≤ 6) (hvp : ∀ k, k < m → p k = -9 ∨ ∃ j, j < m ∧ p k = nI j) : ∀ n, n ≤ m → psS q H (psN p n) = sumP q H p n := by
  intro n
  induction n with
  | zero => intro _; rfl
  | succ n ih =>
    intro h
    have i1 := ih (by omega)
    show psS q H (psN p n ++ (if nI n < p n then [10 * n + (p n).toNatClampNeg] else [])) = (if nI n < p n then sumP q H p n + tk q H n (p n).toNatClampNeg else sumP q H p n)
    by_cases hlt : nI n < p n
    · rw [if_pos hlt, if_pos hlt]
      unfold psS at i1 ⊢
      rw [List.foldl_append, i1]
      rcases hvp n (by omega) with e | ⟨j, hj, e⟩
      · exfalso
        rw [e, lt_i, nI_toInt (by omega)] at hlt
        have e1 : ((-9 : Int32)).toInt = -9 := rfl
        omega
      · rw [e, nI_clamp (by omega)]
        show sumP q H p n + tk q H ((10 * n + j) / 10) ((10 * n + j) % 10) = _
        rw [show (10 * n + j) / 10 = n by omega, show (10 * n + j) % 10 = j by omega]
    · rw [if_neg hlt, if_neg hlt, List.append_nil, i1]
/-- the best of them -/
def Opt (f : Nat → Int32) (n b : Nat) : Prop := b < n ∧ ∀ a, a < n → (f a).toInt < (f b).toInt ∨ (f a = f b ∧ b ≤ a)
theorem Opt.uni {f : Nat → Int32} {n b b' : Nat} (h : Opt f n b) (h' : Opt f n b') : b = b' := by
  rcases h.2 b' h'.1 with h1 | ⟨h1, h2⟩
  · rcases h'.2 b h.1 with h3 | ⟨h3, h4⟩
    · omega
    · rw [h3] at h1; omega
  · rcases h'.2 b h.1 with h3 | ⟨h3, h4⟩
    · rw [h1] at h3; omega
    · omega
end MATCHM
