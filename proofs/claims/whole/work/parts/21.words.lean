/-! The words at a state, without conditions: what a simplifier takes. -/
section W2
variable {τ σ : Type} {B : BT}
def thn (z : Nat) (r : Option (σ × AH)) (f : σ → PM τ) : Option (τ × AH) := match r with
  | some (v, h1) => if h1.1 = 94 ∧ h1.2.1 = z then f v h1 else none
  | none => none
theorem thn_some (D : DT) (v : σ) (f : σ → PM τ) : thn B.1 (some (v, hp B D)) f = f v (hp B D) := by simp [thn, hp_1, hp_2]
theorem cll0_w (D : DT) (p : PM σ) (f : σ → PM τ) : cll0 p f (hp B D) = thn B.1 (p (hp B D)) f := rfl
theorem cllV_w (D : DT) (ci a : Nat) (p : PM σ) (f : σ → PM τ) : cllV ci a p f (hp B D) = if kC a = some ci then thn B.1 (p (hp B D)) f else none := by
  unfold cllV kC
  rw [celO_hp]
  by_cases h : 1 ≤ a ∧ a ≤ 94
  · rw [if_pos h, if_pos h]
    cases hs : sh a with
    | inl q => obtain ⟨c, fs⟩ := q; simp only [mkc, Option.some.injEq]; rfl
    | inr q => cases q <;> simp [mkc]
  · rw [if_neg h, if_neg h]; simp
theorem getI_w (D : DT) (ci k a : Nat) (f : Int32 → PM τ) : getI ci k a f (hp B D) = if kI ci k a = true then f (fI D a k) (hp B D) else match kK ci k a with
    | some v => f (Int32.ofNat v) (hp B D)
    | none => getI ci k a f (hp B D) := by
  by_cases h : kI ci k a = true
  · rw [if_pos h]; exact getI_hp D ci k a f h
  · rw [if_neg h]
    cases hk : kK ci k a with
    | none => rfl
    | some v => exact getK_hp D ci k a v f hk
theorem getL_w (D : DT) (ci k a : Nat) (f : Int64 → PM τ) : getL ci k a f (hp B D) = if kL ci k a = true then f (fL D a k) (hp B D) else getL ci k a f (hp B D) := by
  by_cases h : kL ci k a = true
  · rw [if_pos h]; exact getL_hp D ci k a f h
  · rw [if_neg h]
theorem getR_w (D : DT) (ci k a : Nat) (f : Nat → PM τ) : getR ci k a f (hp B D) = match kR ci k a with
    | some v => f v (hp B D)
    | none => getR ci k a f (hp B D) := by
  cases h : kR ci k a with
  | none => rfl
  | some v => exact getR_hp D ci k a v f h
theorem setI_w (D : DT) (ci k a : Nat) (v : Int32) (f : PM τ) : setI ci k a v f (hp B D) = if kI ci k a = true then f (hp B (uI D a k v)) else setI ci k a v f (hp B D) := by
  by_cases h : kI ci k a = true
  · rw [if_pos h]; exact setI_hp D ci k a v f h
  · rw [if_neg h]
theorem setZ_w0 (D : DT) (ci k a : Nat) (f : PM τ) : setZ ci k a 0 f (hp B D) = if kI ci k a = true then f (hp B (uI D a k 0)) else setZ ci k a 0 f (hp B D) := by
  by_cases h : kI ci k a = true
  · rw [if_pos h]; exact setZ_hp D ci k a 0 f h (Or.inl rfl)
  · rw [if_neg h]
theorem setZ_w1 (D : DT) (ci k a : Nat) (f : PM τ) : setZ ci k a 1 f (hp B D) = if kI ci k a = true then f (hp B (uI D a k 1)) else setZ ci k a 1 f (hp B D) := by
  by_cases h : kI ci k a = true
  · rw [if_pos h]; exact setZ_hp D ci k a 1 f h (Or.inr rfl)
  · rw [if_neg h]
theorem setL_w (D : DT) (ci k a : Nat) (v : Int64) (f : PM τ) : setL ci k a v f (hp B D) = if kL ci k a = true then f (hp B (uL D a k v)) else setL ci k a v f (hp B D) := by
  by_cases h : kL ci k a = true
  · rw [if_pos h]; exact setL_hp D ci k a v f h
  · rw [if_neg h]
theorem ald_w (D : DT) (a : Nat) (i : Int32) (f : Int32 → PM τ) : ald a i f (hp B D) = match kA a with
    | some n => if 0 ≤ i.toInt ∧ i.toInt < n then f (fG D a i.toNatClampNeg) (hp B D) else none
    | none => ald a i f (hp B D) := by
  cases h : kA a with
  | none => rfl
  | some n =>
    show _ = if _ then _ else _
    by_cases hi : 0 ≤ i.toInt ∧ i.toInt < n
    · rw [if_pos hi]; exact ald_hp D a n i f h hi
    · rw [if_neg hi]
      obtain ⟨h1, hs⟩ := sp_a h
      unfold ald
      rw [celO_hp, if_pos h1, hs]
      simp only [mkc, hi, if_false]
theorem ast_w (D : DT) (a : Nat) (i v : Int32) (f : PM τ) : ast a i v f (hp B D) = match kA a with
    | some n => if 0 ≤ i.toInt ∧ i.toInt < n then f (hp B (uG D a (upd (fG D a) i.toNatClampNeg v))) else none
    | none => ast a i v f (hp B D) := by
  cases h : kA a with
  | none => rfl
  | some n =>
    show _ = if _ then _ else _
    by_cases hi : 0 ≤ i.toInt ∧ i.toInt < n
    · rw [if_pos hi]; exact ast_hp D a n i v f h hi
    · rw [if_neg hi]
      obtain ⟨h1, hs⟩ := sp_a h
      unfold ast
      rw [celO_hp, if_pos h1, hs]
      simp only [mkc, hi, if_false]
theorem alen_w (D : DT) (a : Nat) (f : Int32 → PM τ) : alen a f (hp B D) = match kA a with
    | some n => f (Int32.ofNat n) (hp B D)
    | none => alen a f (hp B D) := by
  cases h : kA a with
  | none => rfl
  | some n => exact alen_hp D a n f h
theorem aldR_w (D : DT) (a t n b z : Nat) (i : Int32) (f : Nat → PM τ) (h : kQ a = some (t, n, b, z)) (ht : t < 3) : aldR a i f (hp B D) = if 0 ≤ i.toInt ∧ i.toInt < n then f (b + z * i.toNatClampNeg) (hp B D) else none := by
  by_cases hi : 0 ≤ i.toInt ∧ i.toInt < n
  · rw [if_pos hi]; exact aldR_hp D a t n b z i f h ht hi
  · rw [if_neg hi]
    obtain ⟨h1, hs⟩ := sp_q h
    unfold aldR
    rw [celO_hp, if_pos h1, hs]
    simp [mkc, hi]
theorem aldR_2 (D : DT) (i : Int32) (f : Nat → PM τ) : aldR 2 i f (hp B D) = if 0 ≤ i.toInt ∧ i.toInt < 6 then f (39 + 2 * i.toNatClampNeg) (hp B D) else none := aldR_w D 2 0 6 39 2 i f rfl (by decide)
theorem aldR_3 (D : DT) (i : Int32) (f : Nat → PM τ) : aldR 3 i f (hp B D) = if 0 ≤ i.toInt ∧ i.toInt < 4 then f (51 + 2 * i.toNatClampNeg) (hp B D) else none := aldR_w D 3 0 4 51 2 i f rfl (by decide)
theorem aldR_4 (D : DT) (i : Int32) (f : Nat → PM τ) : aldR 4 i f (hp B D) = if 0 ≤ i.toInt ∧ i.toInt < 3 then f (59 + 5 * i.toNatClampNeg) (hp B D) else none := aldR_w D 4 1 3 59 5 i f rfl (by decide)
theorem aldR_22 (D : DT) (i : Int32) (f : Nat → PM τ) : aldR 22 i f (hp B D) = if 0 ≤ i.toInt ∧ i.toInt < 3 then f (26 + 3 * i.toNatClampNeg) (hp B D) else none := aldR_w D 22 2 3 26 3 i f rfl (by decide)
/-! what cells of a kind have in common: rows, holds, nights, people, by their first cell -/
theorem row_sh {r : Nat} (hr : r < 6) : sh (39 + 2 * r) = .inl (5, [(2, 40 + 2 * r), (3, 0), (0, 0), (0, 0)]) ∧ sh (40 + 2 * r) = .inr (.inl 40) := by
  rcases (show r = 0 ∨ r = 1 ∨ r = 2 ∨ r = 3 ∨ r = 4 ∨ r = 5 by omega) with rfl | rfl | rfl | rfl | rfl | rfl <;> exact ⟨rfl, rfl⟩
theorem txt_sh {r : Nat} (hr : r < 4) : sh (51 + 2 * r) = .inl (5, [(2, 52 + 2 * r), (3, 32), (0, 0), (0, 0)]) ∧ sh (52 + 2 * r) = .inr (.inl 60) := by
  rcases (show r = 0 ∨ r = 1 ∨ r = 2 ∨ r = 3 by omega) with rfl | rfl | rfl | rfl <;> exact ⟨rfl, rfl⟩
/-- a row or a text: where, its places, how many, its blank -/
def isRw (a p n b : Nat) : Prop := kC a = some 5 ∧ kR 5 0 a = some p ∧ kK 5 1 a = some b ∧ kI 5 1 a = false ∧ kI 5 2 a = true ∧ kI 5 3 a = true ∧ kA p = some n
theorem row_is {r : Nat} (hr : r < 6) : isRw (39 + 2 * r) (40 + 2 * r) 40 0 := by
  rcases (show r = 0 ∨ r = 1 ∨ r = 2 ∨ r = 3 ∨ r = 4 ∨ r = 5 by omega) with rfl | rfl | rfl | rfl | rfl | rfl <;> exact ⟨rfl, rfl, rfl, rfl, rfl, rfl, rfl⟩
theorem txt_is {r : Nat} (hr : r < 4) : isRw (51 + 2 * r) (52 + 2 * r) 60 32 := by
  rcases (show r = 0 ∨ r = 1 ∨ r = 2 ∨ r = 3 by omega) with rfl | rfl | rfl | rfl <;> exact ⟨rfl, rfl, rfl, rfl, rfl, rfl, rfl⟩
/-- a hold -/
def isHo (a : Nat) : Prop := kC a = some 1 ∧ kR 1 0 a = some (a + 1) ∧ kR 1 1 a = some (a + 2) ∧ kI 1 2 a = true ∧ kI 1 3 a = true ∧ kA (a + 1) = some 6 ∧ kA (a + 2) = some 6
/-- a night -/
def isNi (a : Nat) : Prop := kC a = some 3 ∧ kR 3 0 a = some (a + 1) ∧ kR 3 1 a = some (a + 4) ∧ kI 3 2 a = true ∧ kI 3 3 a = true ∧ kI 3 4 a = true ∧ kI 3 5 a = true ∧ kI 3 6 a = true ∧ kA (a + 4) = some 40 ∧ isHo (a + 1)
/-- people -/
def isFo (a : Nat) : Prop := kC a = some 0 ∧ kR 0 0 a = some (a + 1) ∧ kR 0 1 a = some (a + 2) ∧ kR 0 2 a = some (a + 3) ∧ kR 0 3 a = some (a + 4) ∧ kI 0 4 a = true ∧ kI 0 5 a = true ∧ kI 0 6 a = true ∧ kA (a + 1) = some 6 ∧ kA (a + 2) = some 6 ∧ kA (a + 3) = some 6 ∧ kA (a + 4) = some 6
theorem ho_17 : isHo 17 := ⟨rfl, rfl, rfl, rfl, rfl, rfl, rfl⟩
theorem ho_s {k : Nat} (hk : k < 3) : isHo (26 + 3 * k) := by
  rcases (show k = 0 ∨ k = 1 ∨ k = 2 by omega) with rfl | rfl | rfl <;> exact ⟨rfl, rfl, rfl, rfl, rfl, rfl, rfl⟩
theorem ni_16 : isNi 16 := ⟨rfl, rfl, rfl, rfl, rfl, rfl, rfl, rfl, rfl, ho_17⟩
theorem ni_k {k : Nat} (hk : k < 3) : isNi (59 + 5 * k) := by
  rcases (show k = 0 ∨ k = 1 ∨ k = 2 by omega) with rfl | rfl | rfl <;> exact ⟨rfl, rfl, rfl, rfl, rfl, rfl, rfl, rfl, rfl, rfl, rfl, rfl, rfl, rfl, rfl, rfl⟩
theorem fo_5 : isFo 5 := ⟨rfl, rfl, rfl, rfl, rfl, rfl, rfl, rfl, rfl, rfl, rfl, rfl⟩
theorem fo_11 : isFo 11 := ⟨rfl, rfl, rfl, rfl, rfl, rfl, rfl, rfl, rfl, rfl, rfl, rfl⟩
end W2
/-! numbers -/
theorem i0 : (0 : Int32).toInt = 0 := rfl
theorem i1 : (1 : Int32).toInt = 1 := rfl
def b2i (b : Bool) : Int32 := if b then 1 else 0
