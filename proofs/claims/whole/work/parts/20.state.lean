/-! THE STATE behind the constructors: cells 1 .. 73 are the class's, 74 .. 94 the reference's; what is in them is D: ints of fields, int arrays, longs of fields. -/
abbrev ASp : Type := (Nat × List (Nat × Nat)) ⊕ (Nat ⊕ (Nat × Nat × Nat × Nat))
def shL : List ASp := [
  .inl (7, [(2, 2), (2, 3), (2, 4), (2, 5), (2, 10), (2, 16), (2, 21), (2, 35), (2, 38), (0, 0), (0, 0), (1, 0), (1, 0)]),
  .inr (.inr (0, 6, 39, 2)),
  .inr (.inr (0, 4, 51, 2)),
  .inr (.inr (1, 3, 59, 5)),
  .inl (0, [(2, 6), (2, 7), (2, 8), (2, 9), (0, 0), (0, 0), (0, 0)]),
  .inr (.inl 6),
  .inr (.inl 6),
  .inr (.inl 6),
  .inr (.inl 6),
  .inl (4, [(2, 11), (0, 0)]),
  .inl (0, [(2, 12), (2, 13), (2, 14), (2, 15), (0, 0), (0, 0), (0, 0)]),
  .inr (.inl 6),
  .inr (.inl 6),
  .inr (.inl 6),
  .inr (.inl 6),
  .inl (3, [(2, 17), (2, 20), (0, 0), (0, 0), (0, 0), (0, 0), (0, 0)]),
  .inl (1, [(2, 18), (2, 19), (0, 0), (0, 0)]),
  .inr (.inl 6),
  .inr (.inl 6),
  .inr (.inl 40),
  .inl (6, [(2, 22), (2, 23), (2, 24), (2, 25), (0, 0), (0, 0), (0, 0), (0, 0), (0, 0), (0, 0), (0, 0), (0, 0)]),
  .inr (.inr (2, 3, 26, 3)),
  .inr (.inl 3),
  .inr (.inl 3),
  .inr (.inl 3),
  .inl (1, [(2, 27), (2, 28), (0, 0), (0, 0)]),
  .inr (.inl 6),
  .inr (.inl 6),
  .inl (1, [(2, 30), (2, 31), (0, 0), (0, 0)]),
  .inr (.inl 6),
  .inr (.inl 6),
  .inl (1, [(2, 33), (2, 34), (0, 0), (0, 0)]),
  .inr (.inl 6),
  .inr (.inl 6),
  .inl (2, [(2, 36), (2, 37), (0, 0)]),
  .inr (.inl 6),
  .inr (.inl 6),
  .inr (.inl 6),
  .inl (5, [(2, 40), (3, 0), (0, 0), (0, 0)]),
  .inr (.inl 40),
  .inl (5, [(2, 42), (3, 0), (0, 0), (0, 0)]),
  .inr (.inl 40),
  .inl (5, [(2, 44), (3, 0), (0, 0), (0, 0)]),
  .inr (.inl 40),
  .inl (5, [(2, 46), (3, 0), (0, 0), (0, 0)]),
  .inr (.inl 40),
  .inl (5, [(2, 48), (3, 0), (0, 0), (0, 0)]),
  .inr (.inl 40),
  .inl (5, [(2, 50), (3, 0), (0, 0), (0, 0)]),
  .inr (.inl 40),
  .inl (5, [(2, 52), (3, 32), (0, 0), (0, 0)]),
  .inr (.inl 60),
  .inl (5, [(2, 54), (3, 32), (0, 0), (0, 0)]),
  .inr (.inl 60),
  .inl (5, [(2, 56), (3, 32), (0, 0), (0, 0)]),
  .inr (.inl 60),
  .inl (5, [(2, 58), (3, 32), (0, 0), (0, 0)]),
  .inr (.inl 60),
  .inl (3, [(2, 60), (2, 63), (0, 0), (0, 0), (0, 0), (0, 0), (0, 0)]),
  .inl (1, [(2, 61), (2, 62), (0, 0), (0, 0)]),
  .inr (.inl 6),
  .inr (.inl 6),
  .inr (.inl 40),
  .inl (3, [(2, 65), (2, 68), (0, 0), (0, 0), (0, 0), (0, 0), (0, 0)]),
  .inl (1, [(2, 66), (2, 67), (0, 0), (0, 0)]),
  .inr (.inl 6),
  .inr (.inl 6),
  .inr (.inl 40),
  .inl (3, [(2, 70), (2, 73), (0, 0), (0, 0), (0, 0), (0, 0), (0, 0)]),
  .inl (1, [(2, 71), (2, 72), (0, 0), (0, 0)]),
  .inr (.inl 6),
  .inr (.inl 6),
  .inr (.inl 40),
  .inl (8, [(2, 75), (2, 76), (2, 77), (2, 78), (2, 79), (2, 80), (2, 81), (2, 82), (2, 83), (2, 84), (0, 0), (0, 0), (0, 0), (2, 85), (0, 0), (1, 0), (1, 0), (2, 86), (0, 0), (0, 0), (0, 0), (0, 0), (0, 0), (0, 0), (2, 87), (2, 88), (2, 89), (2, 90), (2, 91), (0, 0), (0, 0), (0, 0), (0, 0), (0, 0), (2, 92), (2, 93), (2, 94)]),
  .inr (.inl 240),
  .inr (.inl 6),
  .inr (.inl 240),
  .inr (.inl 4),
  .inr (.inl 1848),
  .inr (.inl 3),
  .inr (.inl 6),
  .inr (.inl 6),
  .inr (.inl 6),
  .inr (.inl 6),
  .inr (.inl 6),
  .inr (.inl 40),
  .inr (.inl 6),
  .inr (.inl 6),
  .inr (.inl 6),
  .inr (.inl 6),
  .inr (.inl 15),
  .inr (.inl 6),
  .inr (.inl 6),
  .inr (.inl 3375)]
def sh (a : Nat) : ASp := shL.getD (a - 1) (.inl (0, []))
abbrev DT : Type := (Nat → Nat → Int32) × (Nat → Nat → Int32) × (Nat → Nat → Int64)
def fI (D : DT) (a k : Nat) : Int32 := D.1 a k
def fG (D : DT) (a : Nat) : Nat → Int32 := D.2.1 a
def fL (D : DT) (a k : Nat) : Int64 := D.2.2 a k
def uI (D : DT) (a k : Nat) (v : Int32) : DT := (fun a' k' => if a' = a ∧ k' = k then v else D.1 a' k', D.2.1, D.2.2)
def uG (D : DT) (a : Nat) (g : Nat → Int32) : DT := (D.1, fun a' => if a' = a then g else D.2.1 a', D.2.2)
def uL (D : DT) (a k : Nat) (v : Int64) : DT := (D.1, D.2.1, fun a' k' => if a' = a ∧ k' = k then v else D.2.2 a' k')
theorem fI_uI (D : DT) (a k a' k' : Nat) (v : Int32) : fI (uI D a k v) a' k' = if a' = a ∧ k' = k then v else fI D a' k' := rfl
theorem fI_uG (D : DT) (a a' k' : Nat) (g : Nat → Int32) : fI (uG D a g) a' k' = fI D a' k' := rfl
theorem fI_uL (D : DT) (a k a' k' : Nat) (v : Int64) : fI (uL D a k v) a' k' = fI D a' k' := rfl
theorem fG_uI (D : DT) (a k a' : Nat) (v : Int32) : fG (uI D a k v) a' = fG D a' := rfl
theorem fG_uG (D : DT) (a a' : Nat) (g : Nat → Int32) : fG (uG D a g) a' = if a' = a then g else fG D a' := rfl
theorem fG_uL (D : DT) (a k a' : Nat) (v : Int64) : fG (uL D a k v) a' = fG D a' := rfl
theorem fL_uI (D : DT) (a k a' k' : Nat) (v : Int32) : fL (uI D a k v) a' k' = fL D a' k' := rfl
theorem fL_uG (D : DT) (a a' k' : Nat) (g : Nat → Int32) : fL (uG D a g) a' k' = fL D a' k' := rfl
theorem fL_uL (D : DT) (a k a' k' : Nat) (v : Int64) : fL (uL D a k v) a' k' = if a' = a ∧ k' = k then v else fL D a' k' := rfl
def mkf (D : DT) (a : Nat) : Nat → List (Nat × Nat) → List Value
  | _, [] => []
  | k, (0, _) :: r => .int (fI D a k) :: mkf D a (k + 1) r
  | k, (1, _) :: r => .long (fL D a k) :: mkf D a (k + 1) r
  | k, (2, v) :: r => .ref v :: mkf D a (k + 1) r
  | k, (_, v) :: r => .int (Int32.ofNat v) :: mkf D a (k + 1) r
def mkc (D : DT) (a : Nat) (s : ASp) : ACell := match s with
  | .inl (ci, fs) => .inl (ci, mkf D a 0 fs)
  | .inr (.inl n) => .inr (.inl (n, fG D a))
  | .inr (.inr (t, n, b, z)) => .inr (.inr (t, n, fun k => if k < n then some (b + z * k) else none))
/-- what no call changes: how many slots, the cells outside -/
abbrev BT : Type := Nat × (Nat → ACell)
def hp (B : BT) (D : DT) : AH := (94, B.1, fun a => if 1 ≤ a ∧ a ≤ 94 then mkc D a (sh a) else B.2 a)
section HP
variable {B : BT}
theorem hp_1 (D : DT) : (hp B D).1 = 94 := rfl
theorem hp_2 (D : DT) : (hp B D).2.1 = B.1 := rfl
theorem celO_hp (D : DT) (a : Nat) : celO (hp B D) a = if 1 ≤ a ∧ a ≤ 94 then some (mkc D a (sh a)) else none := by
  unfold celO
  by_cases h : 1 ≤ a ∧ a ≤ 94
  · rw [if_pos h, if_pos (show 1 ≤ a ∧ a ≤ (hp B D).1 from h)]
    show some (if 1 ≤ a ∧ a ≤ 94 then _ else _) = _
    rw [if_pos h]
  · rw [if_neg h, if_neg (show ¬ (1 ≤ a ∧ a ≤ (hp B D).1) from h)]
theorem hp_up (D D' : DT) (a : Nat) (c : ACell) (ha : 1 ≤ a ∧ a ≤ 94) (h1 : c = mkc D' a (sh a)) (h2 : ∀ b, b ≠ a → mkc D' b (sh b) = mkc D b (sh b)) : ((hp B D).1, (hp B D).2.1, upA (hp B D).2.2 a c) = hp B D' := by
  show (94, B.1, _) = (94, B.1, _)
  congr 2
  funext b
  unfold upA
  by_cases e : b = a
  · subst e
    rw [if_pos rfl, h1]
    show _ = if 1 ≤ b ∧ b ≤ 94 then _ else _
    rw [if_pos ha]
  · rw [if_neg e]
    show (if 1 ≤ b ∧ b ≤ 94 then _ else _) = if 1 ≤ b ∧ b ≤ 94 then _ else _
    rw [h2 b e]
end HP
theorem mkf_get (D : DT) (a : Nat) : ∀ (fs : List (Nat × Nat)) (k0 k : Nat), (mkf D a k0 fs)[k]? = (fs[k]?).map fun q => match q.1, q.2 with
    | 0, _ => .int (fI D a (k0 + k))
    | 1, _ => .long (fL D a (k0 + k))
    | 2, v => .ref v
    | _, v => .int (Int32.ofNat v) := by
  intro fs
  induction fs with
  | nil => intro k0 k; simp [mkf]
  | cons q fs ih =>
    intro k0 k
    obtain ⟨t, v⟩ := q
    cases k with
    | zero => match t with
      | 0 => simp [mkf]
      | 1 => simp [mkf]
      | 2 => simp [mkf]
      | t + 3 => simp [mkf]
    | succ k =>
      have e : k0 + (k + 1) = k0 + 1 + k := by omega
      match t with
      | 0 => simp [mkf, ih, e]
      | 1 => simp [mkf, ih, e]
      | 2 => simp [mkf, ih, e]
      | t + 3 => simp [mkf, ih, e]
theorem mkf_len (D : DT) (a : Nat) : ∀ (fs : List (Nat × Nat)) (k0 : Nat), (mkf D a k0 fs).length = fs.length := by
  intro fs
  induction fs with
  | nil => intro k0; simp [mkf]
  | cons q fs ih =>
    intro k0
    obtain ⟨t, v⟩ := q
    match t with
    | 0 => simp [mkf, ih]
    | 1 => simp [mkf, ih]
    | 2 => simp [mkf, ih]
    | t + 3 => simp [mkf, ih]
theorem mkf_set (D : DT) (a k : Nat) (fs : List (Nat × Nat)) (u : Nat) (v : Int32) (h : fs[k]? = some (0, u)) : (mkf D a 0 fs).set k (.int v) = mkf (uI D a k v) a 0 fs := by
  apply List.ext_getElem?
  intro j
  by_cases e : j = k
  · subst e
    have hl : j < (mkf D a 0 fs).length := by rw [mkf_len]; exact (List.getElem?_eq_some_iff.mp h).1
    rw [List.getElem?_set_self hl, mkf_get, h]
    simp [fI_uI]
  · rw [List.getElem?_set_ne (Ne.symm e), mkf_get, mkf_get]
    simp only [Nat.zero_add, fI_uI, fL_uI, e, and_false, if_false]
theorem mkf_setL (D : DT) (a k : Nat) (fs : List (Nat × Nat)) (u : Nat) (v : Int64) (h : fs[k]? = some (1, u)) : (mkf D a 0 fs).set k (.long v) = mkf (uL D a k v) a 0 fs := by
  apply List.ext_getElem?
  intro j
  by_cases e : j = k
  · subst e
    have hl : j < (mkf D a 0 fs).length := by rw [mkf_len]; exact (List.getElem?_eq_some_iff.mp h).1
    rw [List.getElem?_set_self hl, mkf_get, h]
    simp [fL_uL]
  · rw [List.getElem?_set_ne (Ne.symm e), mkf_get, mkf_get]
    simp only [Nat.zero_add, fI_uL, fL_uL, e, and_false, if_false]
theorem mkf_ne (D D' : DT) (a : Nat) (h1 : ∀ k, fI D' a k = fI D a k) (h2 : ∀ k, fL D' a k = fL D a k) (fs : List (Nat × Nat)) (k0 : Nat) : mkf D' a k0 fs = mkf D a k0 fs := by
  apply List.ext_getElem?
  intro j
  rw [mkf_get, mkf_get]
  simp only [h1, h2]
theorem mkc_ne (D D' : DT) (a : Nat) (s : ASp) (h1 : ∀ k, fI D' a k = fI D a k) (h2 : ∀ k, fL D' a k = fL D a k) (h3 : fG D' a = fG D a) : mkc D' a s = mkc D a s := by
  match s with
  | .inl (ci, fs) => simp only [mkc, mkf_ne D D' a h1 h2]
  | .inr (.inl n) => simp only [mkc, h3]
  | .inr (.inr (t, n, b, z)) => rfl
/-! what a cell is for: booleans and numbers that a program decides -/
def kI (ci k a : Nat) : Bool := decide (1 ≤ a ∧ a ≤ 94) && match sh a with
  | .inl (c, fs) => decide (c = ci) && match fs[k]? with
    | some (0, _) => true
    | _ => false
  | _ => false
def kL (ci k a : Nat) : Bool := decide (1 ≤ a ∧ a ≤ 94) && match sh a with
  | .inl (c, fs) => decide (c = ci) && match fs[k]? with
    | some (1, _) => true
    | _ => false
  | _ => false
def kR (ci k a : Nat) : Option Nat := if 1 ≤ a ∧ a ≤ 94 then (match sh a with
  | .inl (c, fs) => if c = ci then (match fs[k]? with
    | some (2, v) => some v
    | _ => none) else none
  | _ => none) else none
def kK (ci k a : Nat) : Option Nat := if 1 ≤ a ∧ a ≤ 94 then (match sh a with
  | .inl (c, fs) => if c = ci then (match fs[k]? with
    | some (3, v) => some v
    | _ => none) else none
  | _ => none) else none
def kA (a : Nat) : Option Nat := if 1 ≤ a ∧ a ≤ 94 then (match sh a with
  | .inr (.inl n) => some n
  | _ => none) else none
def kQ (a : Nat) : Option (Nat × Nat × Nat × Nat) := if 1 ≤ a ∧ a ≤ 94 then (match sh a with
  | .inr (.inr q) => some q
  | _ => none) else none
def kC (a : Nat) : Option Nat := if 1 ≤ a ∧ a ≤ 94 then (match sh a with
  | .inl (c, _) => some c
  | _ => none) else none
section WORDS
variable {τ σ : Type} {B : BT}
theorem pureM_hp (v : τ) (h : AH) : pureM v h = some (v, h) := rfl
theorem ifB_hp (c : Prop) (i : Decidable c) (A A2 : PM τ) (h : AH) : ifB (@decide c i) A A2 h = if c then A h else A2 h := by
  unfold ifB
  by_cases hc : c <;> simp [hc]
theorem jn_hp (k : σ) (f : σ → PM τ) (h : AH) : jn k f h = f k h := rfl
theorem retZ_0 (h : AH) : retZ 0 h = some (0, h) := rfl
theorem retZ_1 (h : AH) : retZ 1 h = some (1, h) := rfl
theorem sp_i {a ci k : Nat} (h : kI ci k a = true) : (1 ≤ a ∧ a ≤ 94) ∧ ∃ fs u, sh a = .inl (ci, fs) ∧ fs[k]? = some (0, u) := by
  unfold kI at h
  simp only [Bool.and_eq_true, decide_eq_true_eq] at h
  obtain ⟨h1, h2⟩ := h
  refine ⟨h1, ?_⟩
  split at h2
  · rename_i c fs hs
    simp only [Bool.and_eq_true, decide_eq_true_eq] at h2
    obtain ⟨rfl, h2⟩ := h2
    split at h2
    · rename_i u hu
      exact ⟨fs, u, hs, hu⟩
    · cases h2
  · cases h2
theorem sp_l {a ci k : Nat} (h : kL ci k a = true) : (1 ≤ a ∧ a ≤ 94) ∧ ∃ fs u, sh a = .inl (ci, fs) ∧ fs[k]? = some (1, u) := by
  unfold kL at h
  simp only [Bool.and_eq_true, decide_eq_true_eq] at h
  obtain ⟨h1, h2⟩ := h
  refine ⟨h1, ?_⟩
  split at h2
  · rename_i c fs hs
    simp only [Bool.and_eq_true, decide_eq_true_eq] at h2
    obtain ⟨rfl, h2⟩ := h2
    split at h2
    · rename_i u hu
      exact ⟨fs, u, hs, hu⟩
    · cases h2
  · cases h2
theorem sp_r {a ci k v : Nat} (h : kR ci k a = some v) : (1 ≤ a ∧ a ≤ 94) ∧ ∃ fs, sh a = .inl (ci, fs) ∧ fs[k]? = some (2, v) := by
  unfold kR at h
  split at h
  · rename_i h1
    refine ⟨h1, ?_⟩
    split at h
    · rename_i c fs hs
      split at h
      · rename_i e
        subst e
        split at h
        · rename_i u hu
          cases h
          exact ⟨fs, hs, hu⟩
        · cases h
      · cases h
    · cases h
  · cases h
theorem sp_k {a ci k v : Nat} (h : kK ci k a = some v) : (1 ≤ a ∧ a ≤ 94) ∧ ∃ fs, sh a = .inl (ci, fs) ∧ fs[k]? = some (3, v) := by
  unfold kK at h
  split at h
  · rename_i h1
    refine ⟨h1, ?_⟩
    split at h
    · rename_i c fs hs
      split at h
      · rename_i e
        subst e
        split at h
        · rename_i u hu
          cases h
          exact ⟨fs, hs, hu⟩
        · cases h
      · cases h
    · cases h
  · cases h
theorem sp_a {a n : Nat} (h : kA a = some n) : (1 ≤ a ∧ a ≤ 94) ∧ sh a = .inr (.inl n) := by
  unfold kA at h
  split at h
  · rename_i h1
    refine ⟨h1, ?_⟩
    split at h
    · rename_i m hs
      cases h
      exact hs
    · cases h
  · cases h
theorem sp_q {a : Nat} {q : Nat × Nat × Nat × Nat} (h : kQ a = some q) : (1 ≤ a ∧ a ≤ 94) ∧ sh a = .inr (.inr q) := by
  unfold kQ at h
  split at h
  · rename_i h1
    refine ⟨h1, ?_⟩
    split at h
    · rename_i m hs
      cases h
      exact hs
    · cases h
  · cases h
theorem sp_c {a c : Nat} (h : kC a = some c) : (1 ≤ a ∧ a ≤ 94) ∧ ∃ fs, sh a = .inl (c, fs) := by
  unfold kC at h
  split at h
  · rename_i h1
    refine ⟨h1, ?_⟩
    split at h
    · rename_i c' fs hs
      cases h
      exact ⟨fs, hs⟩
    · cases h
  · cases h
theorem fld_hp {D : DT} {ci k a : Nat} {fs : List (Nat × Nat)} (h1 : 1 ≤ a ∧ a ≤ 94) (hs : sh a = .inl (ci, fs)) : fld ci k (hp B D) a = (mkf D a 0 fs)[k]? := by
  unfold fld
  rw [celO_hp, if_pos h1, hs]
  simp [mkc]
theorem getI_hp (D : DT) (ci k a : Nat) (f : Int32 → PM τ) (h : kI ci k a = true) : getI ci k a f (hp B D) = f (fI D a k) (hp B D) := by
  obtain ⟨h1, fs, u, hs, hu⟩ := sp_i h
  unfold getI
  rw [fld_hp h1 hs, mkf_get, hu]
  simp
theorem getK_hp (D : DT) (ci k a v : Nat) (f : Int32 → PM τ) (h : kK ci k a = some v) : getI ci k a f (hp B D) = f (Int32.ofNat v) (hp B D) := by
  obtain ⟨h1, fs, hs, hu⟩ := sp_k h
  unfold getI
  rw [fld_hp h1 hs, mkf_get, hu]
  simp
theorem getL_hp (D : DT) (ci k a : Nat) (f : Int64 → PM τ) (h : kL ci k a = true) : getL ci k a f (hp B D) = f (fL D a k) (hp B D) := by
  obtain ⟨h1, fs, u, hs, hu⟩ := sp_l h
  unfold getL
  rw [fld_hp h1 hs, mkf_get, hu]
  simp
theorem getR_hp (D : DT) (ci k a v : Nat) (f : Nat → PM τ) (h : kR ci k a = some v) : getR ci k a f (hp B D) = f v (hp B D) := by
  obtain ⟨h1, fs, hs, hu⟩ := sp_r h
  unfold getR
  rw [fld_hp h1 hs, mkf_get, hu]
  simp
theorem setI_hp (D : DT) (ci k a : Nat) (v : Int32) (f : PM τ) (h : kI ci k a = true) : setI ci k a v f (hp B D) = f (hp B (uI D a k v)) := by
  obtain ⟨h1, fs, u, hs, hu⟩ := sp_i h
  unfold setI putV
  rw [celO_hp, if_pos h1, hs]
  simp only [mkc, mkf_len, (List.getElem?_eq_some_iff.mp hu).1, and_self, if_true]
  rw [mkf_set D a k fs u v hu, hp_up D (uI D a k v) a _ h1 (by rw [hs]; rfl) (fun b hb => mkc_ne _ _ _ _ (fun k' => by simp [fI_uI, hb]) (fun _ => rfl) rfl)]
theorem setZ_hp (D : DT) (ci k a : Nat) (v : Int32) (f : PM τ) (h : kI ci k a = true) (hv : v = 0 ∨ v = 1) : setZ ci k a v f (hp B D) = f (hp B (uI D a k v)) := by
  unfold setZ
  rw [if_pos hv]
  exact setI_hp D ci k a v f h
theorem setL_hp (D : DT) (ci k a : Nat) (v : Int64) (f : PM τ) (h : kL ci k a = true) : setL ci k a v f (hp B D) = f (hp B (uL D a k v)) := by
  obtain ⟨h1, fs, u, hs, hu⟩ := sp_l h
  unfold setL putV
  rw [celO_hp, if_pos h1, hs]
  simp only [mkc, mkf_len, (List.getElem?_eq_some_iff.mp hu).1, and_self, if_true]
  rw [mkf_setL D a k fs u v hu, hp_up D (uL D a k v) a _ h1 (by rw [hs]; rfl) (fun b hb => mkc_ne _ _ _ _ (fun _ => rfl) (fun k' => by simp [fL_uL, hb]) rfl)]
theorem ald_hp (D : DT) (a n : Nat) (i : Int32) (f : Int32 → PM τ) (h : kA a = some n) (hi : 0 ≤ i.toInt ∧ i.toInt < n) : ald a i f (hp B D) = f (fG D a i.toNatClampNeg) (hp B D) := by
  obtain ⟨h1, hs⟩ := sp_a h
  unfold ald
  rw [celO_hp, if_pos h1, hs]
  simp [mkc, hi]
theorem ast_hp (D : DT) (a n : Nat) (i v : Int32) (f : PM τ) (h : kA a = some n) (hi : 0 ≤ i.toInt ∧ i.toInt < n) : ast a i v f (hp B D) = f (hp B (uG D a (upd (fG D a) i.toNatClampNeg v))) := by
  obtain ⟨h1, hs⟩ := sp_a h
  unfold ast
  rw [celO_hp, if_pos h1, hs]
  simp only [mkc, hi, and_self, if_true]
  rw [hp_up D (uG D a (upd (fG D a) i.toNatClampNeg v)) a _ h1 (by rw [hs]; simp [mkc, fG_uG]) (fun b hb => mkc_ne _ _ _ _ (fun _ => rfl) (fun _ => rfl) (by simp [fG_uG, hb]))]
theorem alen_hp (D : DT) (a n : Nat) (f : Int32 → PM τ) (h : kA a = some n) : alen a f (hp B D) = f (Int32.ofNat n) (hp B D) := by
  obtain ⟨h1, hs⟩ := sp_a h
  unfold alen
  rw [celO_hp, if_pos h1, hs]
  simp [mkc]
theorem alenR_hp (D : DT) (a t n b z : Nat) (f : Int32 → PM τ) (h : kQ a = some (t, n, b, z)) (ht : t < 3) : alen a f (hp B D) = f (Int32.ofNat n) (hp B D) := by
  obtain ⟨h1, hs⟩ := sp_q h
  unfold alen
  rw [celO_hp, if_pos h1, hs]
  simp [mkc, ht]
theorem aldR_hp (D : DT) (a t n b z : Nat) (i : Int32) (f : Nat → PM τ) (h : kQ a = some (t, n, b, z)) (ht : t < 3) (hi : 0 ≤ i.toInt ∧ i.toInt < n) : aldR a i f (hp B D) = f (b + z * i.toNatClampNeg) (hp B D) := by
  obtain ⟨h1, hs⟩ := sp_q h
  have hl : i.toNatClampNeg < n := by
    have : i.toNatClampNeg = i.toInt.toNat := rfl
    omega
  unfold aldR
  rw [celO_hp, if_pos h1, hs]
  simp [mkc, ht, hi, hl]
theorem cpyA_hp (D : DT) (a b n0 n1 : Nat) (sp dp n : Int32) (f : PM τ) (ha : kA a = some n0) (hb : kA b = some n1) (h : ¬ sp < 0 ∧ ¬ dp < 0 ∧ ¬ n < 0 ∧ sp.toNatClampNeg + n.toNatClampNeg ≤ n0 ∧ dp.toNatClampNeg + n.toNatClampNeg ≤ n1) : cpyA a sp b dp n f (hp B D) = f (hp B (uG D b (va_cpy (fG D a) (fG D b) sp.toNatClampNeg dp.toNatClampNeg n.toNatClampNeg))) := by
  obtain ⟨h1, hs⟩ := sp_a ha
  obtain ⟨g1, gs⟩ := sp_a hb
  unfold cpyA
  rw [celO_hp, celO_hp, if_pos h1, if_pos g1, hs, gs]
  simp only [mkc]
  rw [if_pos h]
  rw [hp_up D (uG D b (va_cpy (fG D a) (fG D b) sp.toNatClampNeg dp.toNatClampNeg n.toNatClampNeg)) b _ g1 (by rw [gs]; simp [mkc, fG_uG]) (fun c hc => mkc_ne _ _ _ _ (fun _ => rfl) (fun _ => rfl) (by simp [fG_uG, hc]))]
theorem cll0_hp {D D' : DT} {p : PM σ} {v : σ} (f : σ → PM τ) (h : p (hp B D) = some (v, hp B D')) : cll0 p f (hp B D) = f v (hp B D') := by
  unfold cll0
  rw [h]
  simp [hp_1, hp_2]
theorem cllV_hp {D D' : DT} {p : PM σ} {v : σ} {ci a : Nat} (f : σ → PM τ) (hc : kC a = some ci) (h : p (hp B D) = some (v, hp B D')) : cllV ci a p f (hp B D) = f v (hp B D') := by
  obtain ⟨h1, fs, hs⟩ := sp_c hc
  unfold cllV
  rw [celO_hp, if_pos h1, hs]
  simp only [mkc, if_true]
  exact cll0_hp f h
theorem cll0_pure (v : σ) (f : σ → PM τ) : cll0 (pureM v) f = f v := by
  funext h
  simp [cll0, pureM]
theorem divI_hp (x y : Int32) (f : Int32 → PM τ) (hy : ¬ y = 0) : divI x y f = f (x / y) := by
  funext h
  simp [divI, hy]
theorem remI_hp (x y : Int32) (f : Int32 → PM τ) (hy : ¬ y = 0) : remI x y f = f (x % y) := by
  funext h
  simp [remI, hy]
theorem divL_hp (x y : Int64) (f : Int64 → PM τ) (hy : ¬ y = 0) : divL x y f = f (x / y) := by
  funext h
  simp [divL, hy]
theorem remL_hp (x y : Int64) (f : Int64 → PM τ) (hy : ¬ y = 0) : remL x y f = f (x % y) := by
  funext h
  simp [remL, hy]
end WORDS
theorem kC_1 : kC 1 = some 7 := rfl
theorem kR_1_0 : kR 7 0 1 = some 2 := rfl
theorem kR_1_1 : kR 7 1 1 = some 3 := rfl
theorem kR_1_2 : kR 7 2 1 = some 4 := rfl
theorem kR_1_3 : kR 7 3 1 = some 5 := rfl
theorem kR_1_4 : kR 7 4 1 = some 10 := rfl
theorem kR_1_5 : kR 7 5 1 = some 16 := rfl
theorem kR_1_6 : kR 7 6 1 = some 21 := rfl
theorem kR_1_7 : kR 7 7 1 = some 35 := rfl
theorem kR_1_8 : kR 7 8 1 = some 38 := rfl
theorem kI_1_9 : kI 7 9 1 = true := rfl
theorem kI_1_10 : kI 7 10 1 = true := rfl
theorem kL_1_11 : kL 7 11 1 = true := rfl
theorem kL_1_12 : kL 7 12 1 = true := rfl
theorem kQ_2 : kQ 2 = some (0, 6, 39, 2) := rfl
theorem kQ_3 : kQ 3 = some (0, 4, 51, 2) := rfl
theorem kQ_4 : kQ 4 = some (1, 3, 59, 5) := rfl
theorem kC_5 : kC 5 = some 0 := rfl
theorem kR_5_0 : kR 0 0 5 = some 6 := rfl
theorem kR_5_1 : kR 0 1 5 = some 7 := rfl
theorem kR_5_2 : kR 0 2 5 = some 8 := rfl
theorem kR_5_3 : kR 0 3 5 = some 9 := rfl
theorem kI_5_4 : kI 0 4 5 = true := rfl
theorem kI_5_5 : kI 0 5 5 = true := rfl
theorem kI_5_6 : kI 0 6 5 = true := rfl
theorem kA_6 : kA 6 = some 6 := rfl
theorem kA_7 : kA 7 = some 6 := rfl
theorem kA_8 : kA 8 = some 6 := rfl
theorem kA_9 : kA 9 = some 6 := rfl
theorem kC_10 : kC 10 = some 4 := rfl
theorem kR_10_0 : kR 4 0 10 = some 11 := rfl
theorem kI_10_1 : kI 4 1 10 = true := rfl
theorem kC_11 : kC 11 = some 0 := rfl
theorem kR_11_0 : kR 0 0 11 = some 12 := rfl
theorem kR_11_1 : kR 0 1 11 = some 13 := rfl
theorem kR_11_2 : kR 0 2 11 = some 14 := rfl
theorem kR_11_3 : kR 0 3 11 = some 15 := rfl
theorem kI_11_4 : kI 0 4 11 = true := rfl
theorem kI_11_5 : kI 0 5 11 = true := rfl
theorem kI_11_6 : kI 0 6 11 = true := rfl
theorem kA_12 : kA 12 = some 6 := rfl
theorem kA_13 : kA 13 = some 6 := rfl
theorem kA_14 : kA 14 = some 6 := rfl
theorem kA_15 : kA 15 = some 6 := rfl
theorem kC_16 : kC 16 = some 3 := rfl
theorem kR_16_0 : kR 3 0 16 = some 17 := rfl
theorem kR_16_1 : kR 3 1 16 = some 20 := rfl
theorem kI_16_2 : kI 3 2 16 = true := rfl
theorem kI_16_3 : kI 3 3 16 = true := rfl
theorem kI_16_4 : kI 3 4 16 = true := rfl
theorem kI_16_5 : kI 3 5 16 = true := rfl
theorem kI_16_6 : kI 3 6 16 = true := rfl
theorem kC_17 : kC 17 = some 1 := rfl
theorem kR_17_0 : kR 1 0 17 = some 18 := rfl
theorem kR_17_1 : kR 1 1 17 = some 19 := rfl
theorem kI_17_2 : kI 1 2 17 = true := rfl
theorem kI_17_3 : kI 1 3 17 = true := rfl
theorem kA_18 : kA 18 = some 6 := rfl
theorem kA_19 : kA 19 = some 6 := rfl
theorem kA_20 : kA 20 = some 40 := rfl
theorem kC_21 : kC 21 = some 6 := rfl
theorem kR_21_0 : kR 6 0 21 = some 22 := rfl
theorem kR_21_1 : kR 6 1 21 = some 23 := rfl
theorem kR_21_2 : kR 6 2 21 = some 24 := rfl
theorem kR_21_3 : kR 6 3 21 = some 25 := rfl
theorem kI_21_4 : kI 6 4 21 = true := rfl
theorem kI_21_5 : kI 6 5 21 = true := rfl
theorem kI_21_6 : kI 6 6 21 = true := rfl
theorem kI_21_7 : kI 6 7 21 = true := rfl
theorem kI_21_8 : kI 6 8 21 = true := rfl
theorem kI_21_9 : kI 6 9 21 = true := rfl
theorem kI_21_10 : kI 6 10 21 = true := rfl
theorem kI_21_11 : kI 6 11 21 = true := rfl
theorem kQ_22 : kQ 22 = some (2, 3, 26, 3) := rfl
theorem kA_23 : kA 23 = some 3 := rfl
theorem kA_24 : kA 24 = some 3 := rfl
theorem kA_25 : kA 25 = some 3 := rfl
theorem kC_26 : kC 26 = some 1 := rfl
theorem kR_26_0 : kR 1 0 26 = some 27 := rfl
theorem kR_26_1 : kR 1 1 26 = some 28 := rfl
theorem kI_26_2 : kI 1 2 26 = true := rfl
theorem kI_26_3 : kI 1 3 26 = true := rfl
theorem kA_27 : kA 27 = some 6 := rfl
theorem kA_28 : kA 28 = some 6 := rfl
theorem kC_29 : kC 29 = some 1 := rfl
theorem kR_29_0 : kR 1 0 29 = some 30 := rfl
theorem kR_29_1 : kR 1 1 29 = some 31 := rfl
theorem kI_29_2 : kI 1 2 29 = true := rfl
theorem kI_29_3 : kI 1 3 29 = true := rfl
theorem kA_30 : kA 30 = some 6 := rfl
theorem kA_31 : kA 31 = some 6 := rfl
theorem kC_32 : kC 32 = some 1 := rfl
theorem kR_32_0 : kR 1 0 32 = some 33 := rfl
theorem kR_32_1 : kR 1 1 32 = some 34 := rfl
theorem kI_32_2 : kI 1 2 32 = true := rfl
theorem kI_32_3 : kI 1 3 32 = true := rfl
theorem kA_33 : kA 33 = some 6 := rfl
theorem kA_34 : kA 34 = some 6 := rfl
theorem kC_35 : kC 35 = some 2 := rfl
theorem kR_35_0 : kR 2 0 35 = some 36 := rfl
theorem kR_35_1 : kR 2 1 35 = some 37 := rfl
theorem kI_35_2 : kI 2 2 35 = true := rfl
theorem kA_36 : kA 36 = some 6 := rfl
theorem kA_37 : kA 37 = some 6 := rfl
theorem kA_38 : kA 38 = some 6 := rfl
theorem kC_39 : kC 39 = some 5 := rfl
theorem kR_39_0 : kR 5 0 39 = some 40 := rfl
theorem kK_39_1 : kK 5 1 39 = some 0 := rfl
theorem kI_39_2 : kI 5 2 39 = true := rfl
theorem kI_39_3 : kI 5 3 39 = true := rfl
theorem kA_40 : kA 40 = some 40 := rfl
theorem kC_41 : kC 41 = some 5 := rfl
theorem kR_41_0 : kR 5 0 41 = some 42 := rfl
theorem kK_41_1 : kK 5 1 41 = some 0 := rfl
theorem kI_41_2 : kI 5 2 41 = true := rfl
theorem kI_41_3 : kI 5 3 41 = true := rfl
theorem kA_42 : kA 42 = some 40 := rfl
theorem kC_43 : kC 43 = some 5 := rfl
theorem kR_43_0 : kR 5 0 43 = some 44 := rfl
theorem kK_43_1 : kK 5 1 43 = some 0 := rfl
theorem kI_43_2 : kI 5 2 43 = true := rfl
theorem kI_43_3 : kI 5 3 43 = true := rfl
theorem kA_44 : kA 44 = some 40 := rfl
theorem kC_45 : kC 45 = some 5 := rfl
theorem kR_45_0 : kR 5 0 45 = some 46 := rfl
theorem kK_45_1 : kK 5 1 45 = some 0 := rfl
theorem kI_45_2 : kI 5 2 45 = true := rfl
theorem kI_45_3 : kI 5 3 45 = true := rfl
theorem kA_46 : kA 46 = some 40 := rfl
theorem kC_47 : kC 47 = some 5 := rfl
theorem kR_47_0 : kR 5 0 47 = some 48 := rfl
theorem kK_47_1 : kK 5 1 47 = some 0 := rfl
theorem kI_47_2 : kI 5 2 47 = true := rfl
theorem kI_47_3 : kI 5 3 47 = true := rfl
theorem kA_48 : kA 48 = some 40 := rfl
theorem kC_49 : kC 49 = some 5 := rfl
theorem kR_49_0 : kR 5 0 49 = some 50 := rfl
theorem kK_49_1 : kK 5 1 49 = some 0 := rfl
theorem kI_49_2 : kI 5 2 49 = true := rfl
theorem kI_49_3 : kI 5 3 49 = true := rfl
theorem kA_50 : kA 50 = some 40 := rfl
theorem kC_51 : kC 51 = some 5 := rfl
theorem kR_51_0 : kR 5 0 51 = some 52 := rfl
theorem kK_51_1 : kK 5 1 51 = some 32 := rfl
theorem kI_51_2 : kI 5 2 51 = true := rfl
theorem kI_51_3 : kI 5 3 51 = true := rfl
theorem kA_52 : kA 52 = some 60 := rfl
theorem kC_53 : kC 53 = some 5 := rfl
theorem kR_53_0 : kR 5 0 53 = some 54 := rfl
theorem kK_53_1 : kK 5 1 53 = some 32 := rfl
theorem kI_53_2 : kI 5 2 53 = true := rfl
theorem kI_53_3 : kI 5 3 53 = true := rfl
theorem kA_54 : kA 54 = some 60 := rfl
theorem kC_55 : kC 55 = some 5 := rfl
theorem kR_55_0 : kR 5 0 55 = some 56 := rfl
theorem kK_55_1 : kK 5 1 55 = some 32 := rfl
theorem kI_55_2 : kI 5 2 55 = true := rfl
theorem kI_55_3 : kI 5 3 55 = true := rfl
theorem kA_56 : kA 56 = some 60 := rfl
theorem kC_57 : kC 57 = some 5 := rfl
theorem kR_57_0 : kR 5 0 57 = some 58 := rfl
theorem kK_57_1 : kK 5 1 57 = some 32 := rfl
theorem kI_57_2 : kI 5 2 57 = true := rfl
theorem kI_57_3 : kI 5 3 57 = true := rfl
theorem kA_58 : kA 58 = some 60 := rfl
theorem kC_59 : kC 59 = some 3 := rfl
theorem kR_59_0 : kR 3 0 59 = some 60 := rfl
theorem kR_59_1 : kR 3 1 59 = some 63 := rfl
theorem kI_59_2 : kI 3 2 59 = true := rfl
theorem kI_59_3 : kI 3 3 59 = true := rfl
theorem kI_59_4 : kI 3 4 59 = true := rfl
theorem kI_59_5 : kI 3 5 59 = true := rfl
theorem kI_59_6 : kI 3 6 59 = true := rfl
theorem kC_60 : kC 60 = some 1 := rfl
theorem kR_60_0 : kR 1 0 60 = some 61 := rfl
theorem kR_60_1 : kR 1 1 60 = some 62 := rfl
theorem kI_60_2 : kI 1 2 60 = true := rfl
theorem kI_60_3 : kI 1 3 60 = true := rfl
theorem kA_61 : kA 61 = some 6 := rfl
theorem kA_62 : kA 62 = some 6 := rfl
theorem kA_63 : kA 63 = some 40 := rfl
theorem kC_64 : kC 64 = some 3 := rfl
theorem kR_64_0 : kR 3 0 64 = some 65 := rfl
theorem kR_64_1 : kR 3 1 64 = some 68 := rfl
theorem kI_64_2 : kI 3 2 64 = true := rfl
theorem kI_64_3 : kI 3 3 64 = true := rfl
theorem kI_64_4 : kI 3 4 64 = true := rfl
theorem kI_64_5 : kI 3 5 64 = true := rfl
theorem kI_64_6 : kI 3 6 64 = true := rfl
theorem kC_65 : kC 65 = some 1 := rfl
theorem kR_65_0 : kR 1 0 65 = some 66 := rfl
theorem kR_65_1 : kR 1 1 65 = some 67 := rfl
theorem kI_65_2 : kI 1 2 65 = true := rfl
theorem kI_65_3 : kI 1 3 65 = true := rfl
theorem kA_66 : kA 66 = some 6 := rfl
theorem kA_67 : kA 67 = some 6 := rfl
theorem kA_68 : kA 68 = some 40 := rfl
theorem kC_69 : kC 69 = some 3 := rfl
theorem kR_69_0 : kR 3 0 69 = some 70 := rfl
theorem kR_69_1 : kR 3 1 69 = some 73 := rfl
theorem kI_69_2 : kI 3 2 69 = true := rfl
theorem kI_69_3 : kI 3 3 69 = true := rfl
theorem kI_69_4 : kI 3 4 69 = true := rfl
theorem kI_69_5 : kI 3 5 69 = true := rfl
theorem kI_69_6 : kI 3 6 69 = true := rfl
theorem kC_70 : kC 70 = some 1 := rfl
theorem kR_70_0 : kR 1 0 70 = some 71 := rfl
theorem kR_70_1 : kR 1 1 70 = some 72 := rfl
theorem kI_70_2 : kI 1 2 70 = true := rfl
theorem kI_70_3 : kI 1 3 70 = true := rfl
theorem kA_71 : kA 71 = some 6 := rfl
theorem kA_72 : kA 72 = some 6 := rfl
theorem kA_73 : kA 73 = some 40 := rfl
theorem kC_74 : kC 74 = some 8 := rfl
theorem kR_74_0 : kR 8 0 74 = some 75 := rfl
theorem kR_74_1 : kR 8 1 74 = some 76 := rfl
theorem kR_74_2 : kR 8 2 74 = some 77 := rfl
theorem kR_74_3 : kR 8 3 74 = some 78 := rfl
theorem kR_74_4 : kR 8 4 74 = some 79 := rfl
theorem kR_74_5 : kR 8 5 74 = some 80 := rfl
theorem kR_74_6 : kR 8 6 74 = some 81 := rfl
theorem kR_74_7 : kR 8 7 74 = some 82 := rfl
theorem kR_74_8 : kR 8 8 74 = some 83 := rfl
theorem kR_74_9 : kR 8 9 74 = some 84 := rfl
theorem kI_74_10 : kI 8 10 74 = true := rfl
theorem kI_74_11 : kI 8 11 74 = true := rfl
theorem kI_74_12 : kI 8 12 74 = true := rfl
theorem kR_74_13 : kR 8 13 74 = some 85 := rfl
theorem kI_74_14 : kI 8 14 74 = true := rfl
theorem kL_74_15 : kL 8 15 74 = true := rfl
theorem kL_74_16 : kL 8 16 74 = true := rfl
theorem kR_74_17 : kR 8 17 74 = some 86 := rfl
theorem kI_74_18 : kI 8 18 74 = true := rfl
theorem kI_74_19 : kI 8 19 74 = true := rfl
theorem kI_74_20 : kI 8 20 74 = true := rfl
theorem kI_74_21 : kI 8 21 74 = true := rfl
theorem kI_74_22 : kI 8 22 74 = true := rfl
theorem kI_74_23 : kI 8 23 74 = true := rfl
theorem kR_74_24 : kR 8 24 74 = some 87 := rfl
theorem kR_74_25 : kR 8 25 74 = some 88 := rfl
theorem kR_74_26 : kR 8 26 74 = some 89 := rfl
theorem kR_74_27 : kR 8 27 74 = some 90 := rfl
theorem kR_74_28 : kR 8 28 74 = some 91 := rfl
theorem kI_74_29 : kI 8 29 74 = true := rfl
theorem kI_74_30 : kI 8 30 74 = true := rfl
theorem kI_74_31 : kI 8 31 74 = true := rfl
theorem kI_74_32 : kI 8 32 74 = true := rfl
theorem kI_74_33 : kI 8 33 74 = true := rfl
theorem kR_74_34 : kR 8 34 74 = some 92 := rfl
theorem kR_74_35 : kR 8 35 74 = some 93 := rfl
theorem kR_74_36 : kR 8 36 74 = some 94 := rfl
theorem kA_75 : kA 75 = some 240 := rfl
theorem kA_76 : kA 76 = some 6 := rfl
theorem kA_77 : kA 77 = some 240 := rfl
theorem kA_78 : kA 78 = some 4 := rfl
theorem kA_79 : kA 79 = some 1848 := rfl
theorem kA_80 : kA 80 = some 3 := rfl
theorem kA_81 : kA 81 = some 6 := rfl
theorem kA_82 : kA 82 = some 6 := rfl
theorem kA_83 : kA 83 = some 6 := rfl
theorem kA_84 : kA 84 = some 6 := rfl
theorem kA_85 : kA 85 = some 6 := rfl
theorem kA_86 : kA 86 = some 40 := rfl
theorem kA_87 : kA 87 = some 6 := rfl
theorem kA_88 : kA 88 = some 6 := rfl
theorem kA_89 : kA 89 = some 6 := rfl
theorem kA_90 : kA 90 = some 6 := rfl
theorem kA_91 : kA 91 = some 15 := rfl
theorem kA_92 : kA 92 = some 6 := rfl
theorem kA_93 : kA 93 = some 6 := rfl
theorem kA_94 : kA 94 = some 3375 := rfl
