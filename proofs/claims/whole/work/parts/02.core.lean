/-! An abstract machine over cells numbered 1, 2, ..: cells, programs over them, and the judgement SW that ties a place of a method's code to a program. -/
def isNest (w : Jvm.Cond) : Bool := match w with
  | .fieldLinkNest _ _ _ _ _ _ => true
  | .methodLinkNest _ _ _ _ => true
  | _ => false
def tALL : List Jvm.Cond := lw_tbl.filter goodWord
def tNEST : List Jvm.Cond := lw_tbl.filter isNest
theorem tALL_in {w : Jvm.Cond} (h : w ∈ lw_tbl) (g : goodWord w = true) : w ∈ tALL := List.mem_filter.mpr ⟨h, g⟩
theorem tNEST_in {w : Jvm.Cond} (h : w ∈ lw_tbl) (g : isNest w = true) : w ∈ tNEST := List.mem_filter.mpr ⟨h, g⟩
theorem tALL_good (c : Jvm.Cond) (hc : c ∈ tALL) : GoodIn tALL (c :: tALL) := by
  have key : ∀ w ∈ tALL, w ∈ tALL ∧ ((w.onTables && w.keeps) = true ∨ ∃ ty, w = .arrayClass ty) := fun w hw => ⟨hw, good_of_word (List.mem_filter.mp hw).2⟩
  intro w hw
  rcases List.mem_cons.mp hw with rfl | h
  · exact key _ hc
  · exact key w h
/-- a cell: an object (its class's place, its fields), an int array, an array of references (kind, length) -/
abbrev ACell : Type := (Nat × List Value) ⊕ ((Nat × (Nat → Int32)) ⊕ (Nat × Nat × (Nat → Option Nat)))
/-- how many cells, how many slots, the cells -/
abbrev AH : Type := Nat × Nat × (Nat → ACell)
abbrev PM (τ : Type) : Type := AH → Option (τ × AH)
/-- the launch's numbers: class ids and slots; ids of the array classes; the script's cell; the first own cell -/
abbrev Wx : Type := va_G × (Nat → ClassId) × Nat × Nat
def ad (X : Wx) (k : Nat) : Nat := match k with
  | 0 => X.2.2.1
  | k + 1 => X.2.2.2 + k
def cv (X : Wx) (v : Value) : Value := match v with
  | .ref k => .ref (ad X k)
  | v => v
theorem cv_cat (X : Wx) (v : Value) : (cv X v).category = v.category := by cases v <;> rfl
theorem cv_sum (X : Wx) (l : List Value) : ((l.map (cv X)).map fun v => v.category).sum = (l.map fun v => v.category).sum := by
  induction l with
  | nil => rfl
  | cons a r ih => simp only [List.map_cons, List.sum_cons, cv_cat, ih]
def cvc (X : Wx) (c : ACell) : va_E := match c with
  | .inl (ci, fs) => .inr (ci, fs.map (cv X))
  | .inr (.inl (n, f)) => .inl (X.2.1 0, n, .inl f)
  | .inr (.inr (t, n, f)) => .inl (X.2.1 (t + 1), n, .inr (.inr (.inr (.inr fun j => (f j).map (ad X)))))
def wsO (X : Wx) (h : AH) : va_W := (List.range h.1).map fun k => (X.2.2.2 + k, cvc X (h.2.2 (k + 1)))
theorem wsO_at (X : Wx) (h : AH) {k : Nat} (hk : k < h.1) : (wsO X h)[k]? = some (X.2.2.2 + k, cvc X (h.2.2 (k + 1))) := by
  simp [wsO, List.getElem?_map, List.getElem?_range hk]
theorem wsO_len (X : Wx) (h : AH) : (wsO X h).length = h.1 := by simp [wsO]
theorem wsO_D (X : Wx) (h : AH) : va_D (fun q => X.2.2.2 ≤ q) (wsO X h) := by
  have key : ∀ (k : Nat) (q : Nat × va_E), (wsO X h)[k]? = some q → q.1 = X.2.2.2 + k := by
    intro k q hk
    have hl := (List.getElem?_eq_some_iff.mp hk).1
    rw [wsO_len] at hl
    rw [wsO_at X h hl] at hk
    cases hk
    rfl
  refine ⟨fun i j p q hi hj e => ?_, fun k q hk => ?_⟩
  · have h1 := key i p hi
    have h2 := key j q hj
    omega
  · show X.2.2.2 ≤ q.1
    rw [key k q hk]
    omega
def upA (f : Nat → ACell) (a : Nat) (c : ACell) : Nat → ACell := fun j => if j = a then c else f j
theorem wsO_set (X : Wx) (h : AH) {k : Nat} (hk : k < h.1) (c : ACell) : (wsO X h).set k (X.2.2.2 + k, cvc X c) = wsO X (h.1, h.2.1, upA h.2.2 (k + 1) c) := by
  apply List.ext_getElem?
  intro j
  by_cases hj : j < h.1
  · rw [wsO_at X (h.1, h.2.1, upA h.2.2 (k + 1) c) hj]
    by_cases e : j = k
    · subst e
      rw [List.getElem?_set_self (by rw [wsO_len]; exact hj)]
      simp [upA]
    · rw [List.getElem?_set_ne (Ne.symm e), wsO_at X h hj]
      simp [upA, e]
  · rw [List.getElem?_eq_none (by rw [List.length_set, wsO_len]; omega), List.getElem?_eq_none (by rw [wsO_len]; show h.1 ≤ j; omega)]
theorem wsO_push (X : Wx) (h : AH) (z : Nat) (c : ACell) : wsO X (h.1 + 1, z, upA h.2.2 (h.1 + 1) c) = wsO X h ++ [(X.2.2.2 + h.1, cvc X c)] := by
  apply List.ext_getElem?
  intro j
  by_cases hj : j < h.1
  · rw [wsO_at X (h.1 + 1, z, upA h.2.2 (h.1 + 1) c) (show j < h.1 + 1 by omega), List.getElem?_append_left (by rw [wsO_len]; exact hj), wsO_at X h hj]
    have e' : ¬ j = h.1 := by omega
    simp [upA, e']
  · by_cases e : j = h.1
    · subst e
      rw [wsO_at X (h.1 + 1, z, upA h.2.2 (h.1 + 1) c) (show h.1 < h.1 + 1 by omega), List.getElem?_append_right (by rw [wsO_len]; omega), wsO_len, Nat.sub_self]
      simp [upA]
    · rw [List.getElem?_eq_none (by rw [wsO_len]; show h.1 + 1 ≤ j; omega), List.getElem?_eq_none (by rw [List.length_append, wsO_len]; show h.1 + 1 ≤ j; omega)]
/-- the kinds of arrays of references: 0 rows, 1 nights, 2 holds; the class of what they hold -/
def tgc (t : Nat) : Nat := match t with
  | 0 => 5
  | 1 => 3
  | _ => 1
def tgn (t : Nat) : String := match t with
  | 0 => RX5
  | 1 => RX3
  | _ => RX1
def tyL (X : Wx) : List (ClassId × FieldType) := [(X.2.1 0, .int), (X.2.1 1, .object RX5), (X.2.1 2, .object RX3), (X.2.1 3, .object RX1)]
theorem tyL_t (X : Wx) {t : Nat} (ht : t < 3) : (tyL X)[t + 1]? = some (X.2.1 (t + 1), .object (tgn t)) := by
  rcases (show t = 0 ∨ t = 1 ∨ t = 2 by omega) with rfl | rfl | rfl <;> rfl
/-- what the tables say, at a state -/
def Kw (X : Wx) (U : State) : Prop := va_K X.1 vwCl (tyL X) U ∧ (∀ w ∈ tNEST, va_Nw w U) ∧ (va_AO RX5 U ∧ va_AO RX3 U ∧ va_AO RX1 U)
theorem Kw.ao {X : Wx} {U : State} (h : Kw X U) {t : Nat} (ht : t < 3) : va_AO (tgn t) U := by
  rcases (show t = 0 ∨ t = 1 ∨ t = 2 by omega) with rfl | rfl | rfl
  · exact h.2.2.1
  · exact h.2.2.2.1
  · exact h.2.2.2.2
theorem nest_tab {w : Jvm.Cond} (h : isNest w = true) : w.onTables = true := by cases w <;> first | rfl | (simp [isNest] at h)
theorem Kw.same {X : Wx} {U V : State} (hvm : U.vm = V.vm) (h : Kw X U) : Kw X V :=
  ⟨va_K.moved (by rw [hvm]; exact Vm.Alike.refl _) h.1, fun w hw => va_Nw.same (nest_tab (List.mem_filter.mp hw).2) hvm (h.2.1 w hw), va_AO.moved (by rw [hvm]; exact Vm.Alike.refl _) h.2.2.1, va_AO.moved (by rw [hvm]; exact Vm.Alike.refl _) h.2.2.2.1, va_AO.moved (by rw [hvm]; exact Vm.Alike.refl _) h.2.2.2.2⟩
theorem Kw.warm {X : Wx} {s U : State} (hW : s.WarmedH U.vm) (h : Kw X s) : Kw X U := by
  refine ⟨va_K.moved hW.alike h.1, fun w hw => ?_, va_AO.moved hW.alike h.2.2.1, va_AO.moved hW.alike h.2.2.2.1, va_AO.moved hW.alike h.2.2.2.2⟩
  have h1 := (List.mem_filter.mp hw).2
  have h2 := h.2.1 w hw
  cases w with
  | fieldLinkNest a i b n d hh => exact va_Nw.warmF hW h2
  | methodLinkNest a i x hh => exact va_Nw.warmM hW h2
  | _ => simp [isNest] at h1
def Rel (X : Wx) (h : AH) (H : Heap) : Prop := H.size = X.2.2.2 + h.1 ∧ va_P X.1 vwCl (wsO X h) H
/-! locals -/
def LH (X : Wx) (ls : Array Slot) (l : List (Option Value)) : Prop := ls.size = l.length ∧ lv_wf ls ∧ ∀ (j : Nat) (v : Value), l[j]? = some (some v) → ls[j]? = some (.val (cv X v))
def asc (X : Wx) (l : List (Option Value)) : List (Nat × Value) := (List.range l.length).filterMap fun j => (l[j]?.join).map fun v => (j, cv X v)
theorem mem_asc {X : Wx} {l : List (Option Value)} {j : Nat} {v : Value} (h : l[j]? = some (some v)) : (j, cv X v) ∈ asc X l := by
  refine List.mem_filterMap.mpr ⟨j, List.mem_range.mpr (List.getElem?_eq_some_iff.mp h).1, ?_⟩
  simp [h]
theorem of_asc {X : Wx} {l : List (Option Value)} {q : Nat × Value} (h : q ∈ asc X l) : ∃ v, l[q.1]? = some (some v) ∧ q.2 = cv X v := by
  obtain ⟨j, -, hj⟩ := List.mem_filterMap.mp h
  cases e : l[j]? with
  | none => simp [e] at hj
  | some o =>
    cases o with
    | none => simp [e] at hj
    | some v =>
      simp [e] at hj
      subst hj
      exact ⟨v, e, rfl⟩
theorem LH.has {X : Wx} {ls : Array Slot} {l : List (Option Value)} (h : LH X ls l) : lv_has ls l.length (asc X l) := by
  refine ⟨h.1, h.2.1, fun q hq => ?_⟩
  obtain ⟨v, h1, h2⟩ := of_asc hq
  rw [h2]
  exact h.2.2 q.1 v h1
def clr (l : List (Option Value)) (i : Nat) : List (Option Value) := match i with
  | 0 => l
  | j + 1 => match l[j]? with
    | some (some w) => if w.category = 2 then l.set j none else l
    | _ => l
theorem clr_len (l : List (Option Value)) (i : Nat) : (clr l i).length = l.length := by
  unfold clr
  split
  · rfl
  · split
    · split
      · simp
      · rfl
    · rfl
theorem clr_get {l : List (Option Value)} {i j : Nat} {v : Value} (h : (clr l i)[j]? = some (some v)) : l[j]? = some (some v) ∧ ¬ (j + 1 = i ∧ v.category = 2) := by
  unfold clr at h
  split at h
  · exact ⟨h, fun q => by omega⟩
  · rename_i k
    split at h
    · rename_i w hw
      split at h
      · rename_i hc
        by_cases e : j = k
        · subst e
          rw [List.getElem?_set_self (List.getElem?_eq_some_iff.mp hw).1] at h
          cases h
        · rw [List.getElem?_set_ne (Ne.symm e)] at h
          exact ⟨h, fun q => e (by omega)⟩
      · rename_i hc
        refine ⟨h, fun q => ?_⟩
        have e : j = k := by omega
        subst e
        rw [hw] at h
        cases h
        exact hc q.2
    · rename_i hn
      refine ⟨h, fun q => ?_⟩
      have e : j = k := by omega
      subst e
      exact hn v h
def st1 (l : List (Option Value)) (i : Nat) (v : Value) : List (Option Value) := clr (l.set i (some v)) i
def st2 (l : List (Option Value)) (i : Nat) (v : Value) : List (Option Value) := clr ((l.set i (some v)).set (i + 1) none) i
theorem LH.s1 {X : Wx} {ls' : Array Slot} {l : List (Option Value)} {i : Nat} {v : Value} (h : lv_has ls' l.length ((i, cv X v) :: (asc X l).filter (fun q => !(q.1 == i) && !(q.1 + 1 == i && q.2.category == 2)))) : LH X ls' (st1 l i v) := by
  refine ⟨by rw [st1, clr_len, List.length_set]; exact h.1, h.2.1, fun j w hj => ?_⟩
  obtain ⟨h1, h2⟩ := clr_get hj
  by_cases e : j = i
  · subst e
    by_cases hl : j < l.length
    · rw [List.getElem?_set_self hl] at h1
      cases h1
      exact h.2.2 (j, cv X v) List.mem_cons_self
    · rw [List.getElem?_eq_none (by simp; omega)] at h1
      cases h1
  · rw [List.getElem?_set_ne (Ne.symm e)] at h1
    refine h.2.2 (j, cv X w) (List.mem_cons_of_mem _ (List.mem_filter.mpr ⟨mem_asc h1, ?_⟩))
    have h3 : ¬ (j + 1 = i ∧ (cv X w).category = 2) := by rw [cv_cat]; exact h2
    simp [e]
    exact Classical.not_and_iff_not_or_not.mp h3
theorem LH.s2 {X : Wx} {ls' : Array Slot} {l : List (Option Value)} {i : Nat} {v : Value} (h : lv_has ls' l.length ((i, cv X v) :: (asc X l).filter (fun q => !(q.1 == i) && (!(q.1 == i + 1) && !(q.1 + 1 == i && q.2.category == 2))))) : LH X ls' (st2 l i v) := by
  refine ⟨by rw [st2, clr_len, List.length_set, List.length_set]; exact h.1, h.2.1, fun j w hj => ?_⟩
  obtain ⟨h1, h2⟩ := clr_get hj
  by_cases e1 : j = i + 1
  · subst e1
    by_cases hl : i + 1 < l.length
    · rw [List.getElem?_set_self (by simpa using hl)] at h1
      cases h1
    · rw [List.getElem?_eq_none (by simp; omega)] at h1
      cases h1
  · rw [List.getElem?_set_ne (Ne.symm e1)] at h1
    by_cases e : j = i
    · subst e
      by_cases hl : j < l.length
      · rw [List.getElem?_set_self hl] at h1
        cases h1
        exact h.2.2 (j, cv X v) List.mem_cons_self
      · rw [List.getElem?_eq_none (by simp; omega)] at h1
        cases h1
    · rw [List.getElem?_set_ne (Ne.symm e)] at h1
      refine h.2.2 (j, cv X w) (List.mem_cons_of_mem _ (List.mem_filter.mpr ⟨mem_asc h1, ?_⟩))
      have h3 : ¬ (j + 1 = i ∧ (cv X w).category = 2) := by rw [cv_cat]; exact h2
      simp [e, e1]
      exact Classical.not_and_iff_not_or_not.mp h3
/-- some locals forgotten -/
def drp (ms : List Bool) (l : List (Option Value)) : List (Option Value) := match ms, l with
  | b :: ms, o :: l => (if b then o else none) :: drp ms l
  | _, l => l
theorem drp_len (ms : List Bool) (l : List (Option Value)) : (drp ms l).length = l.length := by
  induction ms generalizing l with
  | nil => cases l <;> rfl
  | cons b ms ih => cases l with
    | nil => rfl
    | cons o l => simp [drp, ih]
theorem drp_get {ms : List Bool} {l : List (Option Value)} {j : Nat} {v : Value} (h : (drp ms l)[j]? = some (some v)) : l[j]? = some (some v) := by
  induction ms generalizing l j with
  | nil => cases l <;> exact h
  | cons b ms ih => cases l with
    | nil => exact h
    | cons o l =>
      cases j with
      | zero =>
        simp only [drp, List.getElem?_cons_zero] at h ⊢
        cases b
        · simp at h
        · simpa using h
      | succ j =>
        simp only [drp, List.getElem?_cons_succ] at h ⊢
        exact ih h
theorem LH.drp {X : Wx} {ls : Array Slot} {l : List (Option Value)} (h : LH X ls l) (ms : List Bool) : LH X ls (drp ms l) := ⟨by rw [drp_len]; exact h.1, h.2.1, fun j v hj => h.2.2 j v (drp_get hj)⟩
/-- the locals at a method's entry -/
def enL (n : Nat) (as : List Value) : List (Option Value) := match as with
  | [] => List.replicate n none
  | v :: as => if v.category = 2 then some v :: none :: enL (n - 2) as else some v :: enL (n - 1) as
theorem enL_len (as : List Value) : ∀ n, (lg_sl as).length ≤ n → (enL n as).length = n := by
  induction as with
  | nil => intro n _; simp [enL]
  | cons v as ih =>
    intro n hn
    have hs : (lg_sl (v :: as)).length = (if v.category = 2 then 2 else 1) + (lg_sl as).length := by cases v <;> simp [lg_sl, Value.category] <;> omega
    unfold enL
    by_cases hc : v.category = 2
    · rw [if_pos hc] at hs ⊢
      simp only [List.length_cons]
      rw [ih (n - 2) (by omega)]
      omega
    · rw [if_neg hc] at hs ⊢
      simp only [List.length_cons]
      rw [ih (n - 1) (by omega)]
      omega
theorem enL_get (X : Wx) (as : List Value) : ∀ (n b j : Nat) (v : Value), (enL n as)[j]? = some (some v) → (b + j, cv X v) ∈ lv_args b (as.map (cv X)) := by
  induction as with
  | nil =>
    intro n b j v h
    have h2 : some (some v) = some (none : Option Value) := by
      have hl := (List.getElem?_eq_some_iff.mp h).1
      rw [← h]
      simp only [enL, List.length_replicate] at hl ⊢
      rw [List.getElem?_replicate, if_pos hl]
    cases h2
  | cons a as ih =>
    intro n b j v h
    unfold enL at h
    by_cases hc : a.category = 2
    · rw [if_pos hc] at h
      match j, h with
      | 0, h =>
        simp at h
        subst h
        simp [lv_args]
      | 1, h => simp at h
      | j + 2, h =>
        simp only [List.getElem?_cons_succ] at h
        have := ih (n - 2) (b + 2) j v h
        simp only [List.map_cons, lv_args, cv_cat, hc, if_true]
        rw [show b + (j + 2) = b + 2 + j by omega]
        exact List.mem_cons_of_mem _ this
    · rw [if_neg hc] at h
      match j, h with
      | 0, h =>
        simp at h
        subst h
        simp [lv_args]
      | j + 1, h =>
        simp only [List.getElem?_cons_succ] at h
        have := ih (n - 1) (b + 1) j v h
        simp only [List.map_cons, lv_args, cv_cat, hc, if_false]
        rw [show b + (j + 1) = b + 1 + j by omega]
        exact List.mem_cons_of_mem _ this
theorem lg_sl_cv (X : Wx) (as : List Value) : (lg_sl (as.map (cv X))).length = (lg_sl as).length := by
  induction as with
  | nil => rfl
  | cons v as ih =>
    have h : ∀ (v : Value) (r : List Value), (lg_sl (v :: r)).length = (if v.category = 2 then 2 else 1) + (lg_sl r).length := by
      intro v r
      cases v <;> simp [lg_sl, Value.category] <;> omega
    rw [List.map_cons, h, h, ih, cv_cat]
/-! programs -/
def celO (h : AH) (a : Nat) : Option ACell := if 1 ≤ a ∧ a ≤ h.1 then some (h.2.2 a) else none
def fld (ci k : Nat) (h : AH) (a : Nat) : Option Value := match celO h a with
  | some (.inl (c, fs)) => if c = ci then fs[k]? else none
  | _ => none
section PROG
variable {τ σ : Type}
def pureM (v : τ) : PM τ := fun h => some (v, h)
def failM : PM τ := fun _ => none
def retZ (v : Int32) : PM Int32 := fun h => if v = 0 ∨ v = 1 then some (v, h) else none
def ifB (b : Bool) (A B : PM τ) : PM τ := fun h => cond b (A h) (B h)
def jn (k : σ) (f : σ → PM τ) : PM τ := f k
def getI (ci k a : Nat) (f : Int32 → PM τ) : PM τ := fun h => match fld ci k h a with
  | some (.int v) => f v h
  | _ => none
def getL (ci k a : Nat) (f : Int64 → PM τ) : PM τ := fun h => match fld ci k h a with
  | some (.long v) => f v h
  | _ => none
def getR (ci k a : Nat) (f : Nat → PM τ) : PM τ := fun h => match fld ci k h a with
  | some (.ref v) => f v h
  | _ => none
def putV (ci k a : Nat) (v : Value) (f : PM τ) : PM τ := fun h => match celO h a with
  | some (.inl (c, fs)) => if c = ci ∧ k < fs.length then f (h.1, h.2.1, upA h.2.2 a (.inl (c, fs.set k v))) else none
  | _ => none
def setI (ci k a : Nat) (v : Int32) (f : PM τ) : PM τ := putV ci k a (.int v) f
def setL (ci k a : Nat) (v : Int64) (f : PM τ) : PM τ := putV ci k a (.long v) f
def setR (ci k a : Nat) (v : Nat) (f : PM τ) : PM τ := putV ci k a (.ref v) f
def setZ (ci k a : Nat) (v : Int32) (f : PM τ) : PM τ := fun h => if v = 0 ∨ v = 1 then putV ci k a (.int v) f h else none
def inr (i : Int32) (n : Nat) : Prop := 0 ≤ i.toInt ∧ i.toInt < n
theorem inr_vp {i : Int32} {n : Nat} (h : 0 ≤ i.toInt ∧ i.toInt < n) : vp_in i n := vp_in_iff.mpr h
def ald (a : Nat) (i : Int32) (f : Int32 → PM τ) : PM τ := fun h => match celO h a with
  | some (.inr (.inl (n, g))) => if 0 ≤ i.toInt ∧ i.toInt < n then f (g i.toNatClampNeg) h else none
  | _ => none
def ast (a : Nat) (i v : Int32) (f : PM τ) : PM τ := fun h => match celO h a with
  | some (.inr (.inl (n, g))) => if 0 ≤ i.toInt ∧ i.toInt < n then f (h.1, h.2.1, upA h.2.2 a (.inr (.inl (n, upd g i.toNatClampNeg v)))) else none
  | _ => none
def aldR (a : Nat) (i : Int32) (f : Nat → PM τ) : PM τ := fun h => match celO h a with
  | some (.inr (.inr (t, n, g))) => if t < 3 ∧ 0 ≤ i.toInt ∧ i.toInt < n then (match g i.toNatClampNeg with
    | some r => f r h
    | none => none) else none
  | _ => none
def astR (a : Nat) (i : Int32) (r : Nat) (f : PM τ) : PM τ := fun h => match celO h a, celO h r with
  | some (.inr (.inr (t, n, g))), some (.inl (c, _)) => if t < 3 ∧ c = tgc t ∧ 0 ≤ i.toInt ∧ i.toInt < n then f (h.1, h.2.1, upA h.2.2 a (.inr (.inr (t, n, fun j => if j = i.toNatClampNeg then some r else g j)))) else none
  | _, _ => none
def alen (a : Nat) (f : Int32 → PM τ) : PM τ := fun h => match celO h a with
  | some (.inr (.inl (n, _))) => f (Int32.ofNat n) h
  | some (.inr (.inr (t, n, _))) => if t < 3 then f (Int32.ofNat n) h else none
  | _ => none
def grown (h1 : AH) (r : Option (τ × AH)) : Option (τ × AH) := match r with
  | some (x, h') => if h1.1 ≤ h'.1 ∧ h1.2.1 ≤ h'.2.1 then some (x, h') else none
  | none => none
def newO (ci n : Nat) (fs : List Value) (f : Nat → PM τ) : PM τ := fun h => grown (h.1 + 1, h.2.1 + n, h.2.2) (f (h.1 + 1) (h.1 + 1, h.2.1 + n, upA h.2.2 (h.1 + 1) (.inl (ci, fs))))
def newA (i : Int32) (f : Nat → PM τ) : PM τ := fun h => if 0 ≤ i.toInt ∧ i.toInt ≤ 100000 then grown (h.1 + 1, h.2.1 + i.toNatClampNeg, h.2.2) (f (h.1 + 1) (h.1 + 1, h.2.1 + i.toNatClampNeg, upA h.2.2 (h.1 + 1) (.inr (.inl (i.toNatClampNeg, fun _ => 0))))) else none
def newR (t : Nat) (i : Int32) (f : Nat → PM τ) : PM τ := fun h => if t < 3 ∧ 0 ≤ i.toInt ∧ i.toInt ≤ 100000 then grown (h.1 + 1, h.2.1 + i.toNatClampNeg, h.2.2) (f (h.1 + 1) (h.1 + 1, h.2.1 + i.toNatClampNeg, upA h.2.2 (h.1 + 1) (.inr (.inr (t, i.toNatClampNeg, fun _ => none))))) else none
def divI (x y : Int32) (f : Int32 → PM τ) : PM τ := fun h => if y = 0 then none else f (x / y) h
def remI (x y : Int32) (f : Int32 → PM τ) : PM τ := fun h => if y = 0 then none else f (x % y) h
def divL (x y : Int64) (f : Int64 → PM τ) : PM τ := fun h => if y = 0 then none else f (x / y) h
def remL (x y : Int64) (f : Int64 → PM τ) : PM τ := fun h => if y = 0 then none else f (x % y) h
def cpyA (a : Nat) (sp : Int32) (b : Nat) (dp n : Int32) (f : PM τ) : PM τ := fun h => match celO h a, celO h b with
  | some (.inr (.inl (n0, g0))), some (.inr (.inl (n1, g1))) => if ¬ sp < 0 ∧ ¬ dp < 0 ∧ ¬ n < 0 ∧ sp.toNatClampNeg + n.toNatClampNeg ≤ n0 ∧ dp.toNatClampNeg + n.toNatClampNeg ≤ n1 then
      f (h.1, h.2.1, upA h.2.2 b (.inr (.inl (n1, va_cpy g0 g1 sp.toNatClampNeg dp.toNatClampNeg n.toNatClampNeg)))) else none
  | _, _ => none
def sldM (L : Nat) (xs : Nat → Int32) (i : Int32) (f : Int32 → PM τ) : PM τ := fun h => if 0 ≤ i.toInt ∧ i.toInt < L then f (xs i.toNatClampNeg) h else none
def cll0 (p : PM σ) (f : σ → PM τ) : PM τ := fun h => match p h with
  | some (v, h1) => if h1.1 = h.1 ∧ h1.2.1 = h.2.1 then f v h1 else none
  | none => none
def cllA (p : PM σ) (f : σ → PM τ) : PM τ := fun h => match p h with
  | some (v, h1) => if h.1 ≤ h1.1 ∧ h.2.1 ≤ h1.2.1 then grown h1 (f v h1) else none
  | none => none
def cllV (ci a : Nat) (p : PM σ) (f : σ → PM τ) : PM τ := fun h => match celO h a with
  | some (.inl (c, _)) => if c = ci then cll0 p f h else none
  | _ => none
def swT (x : Int32) (lo : Int) (As : List (PM τ)) (D : PM τ) : PM τ := fun h => if x.toInt < lo then D h else match As[(x.toInt - lo).toNat]? with
  | some A => A h
  | none => D h
def swL (x : Int32) (As : List (Int × PM τ)) (D : PM τ) : PM τ := match As with
  | [] => D
  | (k, A) :: r => fun h => if k = x.toInt then A h else swL x r D h
end PROG
def iI (v : Int32) : Option Value := some (.int v)
def iL (v : Int64) : Option Value := some (.long v)
def iR (v : Nat) : Option Value := some (.ref v)
def iU (_ : Unit) : Option Value := none
