/-! The small language; the class reads it. -/
section PARSE
variable {B : BT}
def sg (n : Nat) (g : Nat → Int32) (p : Nat) : Int32 := if p < n then g p else 0
def fgO (v : Int32) : Option Nat := if 48 ≤ v.toInt ∧ v.toInt ≤ 57 then some (v.toInt - 48).toNat else none
def fgI (v : Int32) : Int32 := match fgO v with
  | some d => nI d
  | none => -1
theorem fgO_lt {v : Int32} {d : Nat} (h : fgO v = some d) : d ≤ 9 ∧ v - 48 = nI d := by
  unfold fgO at h
  by_cases c : 48 ≤ v.toInt ∧ v.toInt ≤ 57
  · rw [if_pos c] at h
    cases h
    refine ⟨by omega, ?_⟩
    have e : (48 : Int32).toInt = 48 := rfl
    rw [eq_i, sub_s (by rw [e]; omega), e, nI_toInt (by omega)]
    omega
  · rw [if_neg c] at h; cases h
def kdO (v : Int32) : Option Nat := if v = 98 then some 1 else if v = 99 then some 3 else if v = 108 then some 2 else if v = 112 then some 4 else if v = 116 then some 0 else if v = 119 then some 5 else none
theorem kdO_lt {v : Int32} {k : Nat} (h : kdO v = some k) : k ≤ 5 := by
  unfold kdO at h
  repeat' split at h
  all_goals cases h <;> omega
theorem kd_all {v : Int32} {σ : Type} (A : Nat → PM σ) (E : PM σ) (h : AH) : swL v [(98, A 1), (99, A 3), (108, A 2), (112, A 4), (116, A 0), (119, A 5)] E h = match kdO v with
    | some k => A k h
    | none => E h := by
  have e : ∀ (z : Int) (w : Int32), w.toInt = z → (z = v.toInt) = (v = w) := fun z w hw => propext ⟨fun q => Int32.toInt_inj.mp (by rw [hw, q]), fun q => by rw [q, hw]⟩
  simp only [swL, e 98 98 rfl, e 99 99 rfl, e 108 108 rfl, e 112 112 rfl, e 116 116 rfl, e 119 119 rfl]
  unfold kdO
  by_cases h1 : v = 98
  · simp only [if_pos h1]
  · by_cases h2 : v = 99
    · simp only [if_neg h1, if_pos h2]
    · by_cases h3 : v = 108
      · simp only [if_neg h1, if_neg h2, if_pos h3]
      · by_cases h4 : v = 112
        · simp only [if_neg h1, if_neg h2, if_neg h3, if_pos h4]
        · by_cases h5 : v = 116
          · simp only [if_neg h1, if_neg h2, if_neg h3, if_neg h4, if_pos h5]
          · by_cases h6 : v = 119
            · simp only [if_neg h1, if_neg h2, if_neg h3, if_neg h4, if_neg h5, if_pos h6]
            · simp only [if_neg h1, if_neg h2, if_neg h3, if_neg h4, if_neg h5, if_neg h6]
/-- places -/
def skp (g : Nat → Int32) : Nat → Nat → Nat
  | 0, p => p
  | t + 1, p => if g p = 32 then skp g t (p + 1) else p
def sk (n : Nat) (g : Nat → Int32) (p : Nat) : Nat := skp g (n - p) p
theorem sk_s {n : Nat} {g : Nat → Int32} {p : Nat} (h : p < n) (e : g p = 32) : sk n g p = sk n g (p + 1) := by
  unfold sk
  rw [show n - p = (n - (p + 1)) + 1 by omega]
  show (if g p = 32 then _ else p) = _
  rw [if_pos e]
theorem sk_n {n : Nat} {g : Nat → Int32} {p : Nat} (h : ¬ (p < n ∧ g p = 32)) : sk n g p = p := by
  unfold sk
  by_cases h1 : p < n
  · rw [show n - p = (n - (p + 1)) + 1 by omega]
    show (if g p = 32 then _ else p) = _
    rw [if_neg (fun z => h ⟨h1, z⟩)]
  · rw [show n - p = 0 by omega]
    rfl
theorem sk_le (n : Nat) (g : Nat → Int32) : ∀ (t p : Nat), n - p = t → p ≤ sk n g p ∧ (sk n g p ≤ n ∨ sk n g p = p) := by
  intro t
  induction t with
  | zero =>
    intro p hp
    rw [sk_n (by omega)]
    exact ⟨Nat.le_refl _, Or.inr rfl⟩
  | succ t ih =>
    intro p hp
    by_cases h : p < n ∧ g p = 32
    · rw [sk_s h.1 h.2]
      obtain ⟨h1, h2⟩ := ih (p + 1) (by omega)
      refine ⟨by omega, ?_⟩
      rcases h2 with h2 | h2
      · exact Or.inl h2
      · exact Or.inl (by omega)
    · rw [sk_n h]
      exact ⟨Nat.le_refl _, Or.inr rfl⟩
abbrev PRt : Type := Nat ⊕ (Nat × QT)
def adP (m : Nat) (q : QT) (kd a b : Nat) : QT := (upd q.1 m (nI kd), upd q.2.1 m (nI a), upd q.2.2.1 m (nI b), q.2.2.2)
def quQ (Q : Nat → Int32) (a b : Nat) : Nat → Int32 := upd (upd Q a (Q a ||| (1 <<< (nI b &&& 31)))) b ((upd Q a (Q a ||| (1 <<< (nI b &&& 31)))) b ||| (1 <<< (nI a &&& 31)))
def quP (q : QT) (a b : Nat) : QT := (q.1, q.2.1, q.2.2.1, quQ q.2.2.2 a b)
def itQ (n : Nat) (g : Nat → Int32) (p m : Nat) (q : QT) : PRt := match fgO (sg n g (p + 1)) with
  | none => .inl (p + 1)
  | some a => if a < m then (match fgO (sg n g (p + 2)) with
    | none => .inl (p + 2)
    | some b => if b < m ∧ ¬ a = b then .inr (m, quP q a b) else .inl (p + 2)) else .inl (p + 1)
def itO (n : Nat) (g : Nat → Int32) (p m : Nat) (q : QT) : PRt := match kdO (sg n g p) with
  | none => .inl p
  | some kd => if m < 6 then (match fgO (sg n g (p + 1)) with
    | none => .inl (p + 1)
    | some a => match fgO (sg n g (p + 2)) with
      | none => .inl (p + 2)
      | some b => .inr (m + 1, adP m q kd a b)) else .inl p
def itP (n : Nat) (g : Nat → Int32) (p m : Nat) (q : QT) : PRt := if sg n g p = 113 then itQ n g p m q else itO n g p m q
def lpP (n : Nat) (g : Nat → Int32) : Nat → Nat → Nat → QT → PRt
  | 0, _, m, q => .inr (m, q)
  | f + 1, p, m, q => if sk n g p < n then (match itP n g (sk n g p) m q with
    | .inl f => .inl f
    | .inr (m', q') => lpP n g f (sk n g p + 3) m' q') else .inr (m, q)
def hdP (n : Nat) (g : Nat → Int32) (p : Nat) : Nat ⊕ (Nat × Nat) := if sg n g p = 104 then (match fgO (sg n g (p + 1)) with
  | none => .inl (p + 1)
  | some a => match fgO (sg n g (p + 2)) with
    | none => .inl (p + 2)
    | some b => if 10 * a + b ≤ 40 then (match fgO (sg n g (p + 3)) with
      | none => .inl (p + 3)
      | some c => .inr (10 * a + b, c)) else .inl (p + 1)) else .inl p
def rdP (n : Nat) (g : Nat → Int32) (q0 : QT) : Nat ⊕ (Nat × Nat × Nat × QT) := match hdP n g (sk n g 0) with
  | .inl f => .inl f
  | .inr (s, c) => match lpP n g 60 (sk n g 0 + 4) 0 q0 with
    | .inl f => .inl f
    | .inr (m, q) => if 2 ≤ m then .inr (s, c, m, q) else .inl n
/-- views of a text -/
def TXv (D : DT) (t n : Nat) (g : Nat → Int32) : Prop := n ≤ 60 ∧ fI D (51 + 2 * t) 3 = 1 ∧ fI D (51 + 2 * t) 2 = nI n ∧ ∀ j, j < n → fG D (52 + 2 * t) j = g j
def TMv (D : DT) (t n : Nat) (g : Nat → Int32) : Prop := n ≤ 60 ∧ fG D 78 t = nI n ∧ ∀ j, j < n → fG D 77 (60 * t + j) = g j
theorem TxtI.v {D : DT} {t : Nat} (h : TxtI D t) : (fI D (51 + 2 * t) 3 = 0 ∧ fG D 78 t = -1) ∨ ∃ n g, TXv D t n g ∧ TMv D t n g := by
  rcases h with h | ⟨h1, n, h2, h3, h4, h5⟩
  · exact Or.inl h
  · exact Or.inr ⟨n, fun j => fG D 77 (60 * t + j), ⟨h2, h1, h3, h5⟩, h2, h4, fun _ _ => rfl⟩
theorem TXv.off {T : Nat → Nat → Prop} {D D' : DT} {t n : Nat} {g : Nat → Int32} (h : TXv D t n g) (o : Off T D D') (h1 : ¬ T (51 + 2 * t) 2) (h2 : ¬ T (51 + 2 * t) 3) (h3 : ¬ T (52 + 2 * t) 63) : TXv D' t n g := by
  unfold TXv
  rw [(o.1 _ _ h1).1, (o.1 _ _ h2).1, o.2 _ h3]
  exact h
theorem TMv.off {T : Nat → Nat → Prop} {D D' : DT} {t n : Nat} {g : Nat → Int32} (h : TMv D t n g) (o : Off T D D') (h4 : ¬ T 77 63) (h5 : ¬ T 78 63) : TMv D' t n g := by
  unfold TMv
  rw [o.2 _ h4, o.2 _ h5]
  exact h
theorem x_gett {D : DT} {t n k : Nat} {g : Nat → Int32} (ht : t < 4) (h : TXv D t n g) (hk : k < 1000) : P_X5_get (51 + 2 * t) (nI k) (hp B D) = some (sg n g k, hp B D) := by
  obtain ⟨h1, h2, h3, h4⟩ := h
  have ts := nI_toInt (show n < 2 ^ 31 by omega)
  have tk := nI_toInt (show k < 2 ^ 31 by omega)
  rw [X5_get_hp (txt_is ht) (nI k) (show (fI D (51 + 2 * t) 2).toInt ≤ (60 : Nat) by rw [h3, ts]; omega), h3, ts, tk]
  unfold sg
  by_cases hkn : k < n
  · rw [if_pos ⟨by omega, by omega⟩, if_pos hkn, nI_clamp (show k < 2 ^ 31 by omega), h4 k hkn]
  · rw [if_neg (by omega), if_neg hkn]
theorem x_figure {D : DT} {t n k : Nat} {g : Nat → Int32} (ht : t < 4) (h : TXv D t n g) (hk : k < 1000) : P_X4_figure (51 + 2 * t) (nI k) (hp B D) = some (fgI (sg n g k), hp B D) := by
  have g1 := x_gett (B := B) ht h hk
  obtain ⟨r1, r2, r3, r4, r5, r6, r7⟩ := txt_is ht
  have e48 : (48 : Int32).toInt = 48 := rfl
  have e57 : (57 : Int32).toInt = 57 := rfl
  unfold fgI
  by_cases c : 48 ≤ (sg n g k).toInt ∧ (sg n g k).toInt ≤ 57
  · have e : fgO (sg n g k) = some ((sg n g k).toInt - 48).toNat := if_pos c
    have c1 : ¬ sg n g k < 48 := by rw [lt_i, e48]; omega
    have c2 : ¬ 57 < sg n g k := by rw [lt_i, e57]; omega
    rw [e]
    simp only [P_X4_figure, pureM_hp, ifB_t, ifB_f, decide_true, decide_false, ifB_hp, jn_hp, retZ_0, retZ_1, thn_some, cll0_w, cllV_w, getI_w, getL_w, getR_w, setI_w, setZ_w0, setZ_w1, setL_w, ald_w, ast_w, alen_w, aldR_2, aldR_3, aldR_4, aldR_22, cll0_pure, ↓reduceIte, if_true, if_false, Bool.false_eq_true, reduceCtorEq, and_true, true_and, and_false, false_and, ite_self, r1, g1, c1, c2, (fgO_lt e).2]
  · have e : fgO (sg n g k) = none := if_neg c
    rw [e]
    by_cases c1 : sg n g k < 48
    · simp only [P_X4_figure, pureM_hp, ifB_t, ifB_f, decide_true, decide_false, ifB_hp, jn_hp, retZ_0, retZ_1, thn_some, cll0_w, cllV_w, getI_w, getL_w, getR_w, setI_w, setZ_w0, setZ_w1, setL_w, ald_w, ast_w, alen_w, aldR_2, aldR_3, aldR_4, aldR_22, cll0_pure, ↓reduceIte, if_true, if_false, Bool.false_eq_true, reduceCtorEq, and_true, true_and, and_false, false_and, ite_self, r1, g1, c1]
    · have c2 : 57 < sg n g k := by rw [lt_i, e48] at c1; rw [lt_i, e57]; omega
      simp only [P_X4_figure, pureM_hp, ifB_t, ifB_f, decide_true, decide_false, ifB_hp, jn_hp, retZ_0, retZ_1, thn_some, cll0_w, cllV_w, getI_w, getL_w, getR_w, setI_w, setZ_w0, setZ_w1, setL_w, ald_w, ast_w, alen_w, aldR_2, aldR_3, aldR_4, aldR_22, cll0_pure, ↓reduceIte, if_true, if_false, Bool.false_eq_true, reduceCtorEq, and_true, true_and, and_false, false_and, ite_self, r1, g1, c1, c2]
end PARSE
