/-! Bounds. -/
section BOUNDS
theorem add_s {a b : Int32} (h : -1000000000 ≤ a.toInt + b.toInt ∧ a.toInt + b.toInt ≤ 1000000000) : (a + b).toInt = a.toInt + b.toInt := by
  rw [Int32.toInt_add]
  exact Int.bmod_eq_of_le_mul_two (by omega) (by omega)
theorem sub_s {a b : Int32} (h : -1000000000 ≤ a.toInt - b.toInt ∧ a.toInt - b.toInt ≤ 1000000000) : (a - b).toInt = a.toInt - b.toInt := by
  rw [Int32.toInt_sub]
  exact Int.bmod_eq_of_le_mul_two (by omega) (by omega)
theorem mul2_s {b : Int32} (h : -500000000 ≤ b.toInt ∧ b.toInt ≤ 500000000) : (2 * b).toInt = 2 * b.toInt := by
  rw [Int32.toInt_mul]
  have e : (2 : Int32).toInt = 2 := rfl
  rw [e]
  exact Int.bmod_eq_of_le_mul_two (by omega) (by omega)
theorem tlk_b {lv ls up : Int32} (h1 : 0 ≤ lv.toInt ∧ lv.toInt ≤ 9) (h2 : 0 ≤ ls.toInt ∧ ls.toInt ≤ 9) (h3 : 0 ≤ up.toInt ∧ up.toInt ≤ 30) : 0 ≤ (tlk lv ls up).toInt ∧ (tlk lv ls up).toInt ≤ 9 := by
  have e0 : (0 : Int32).toInt = 0 := rfl
  have a1 : (up - ls).toInt = up.toInt - ls.toInt := sub_s (by omega)
  have a2 : 0 ≤ (maxI 0 (up - ls)).toInt ∧ (maxI 0 (up - ls)).toInt ≤ 30 := by
    rw [maxI_toInt, a1, e0]
    split <;> omega
  have a3 := mul2_s (b := maxI 0 (up - ls)) (by omega)
  have a4 : (lv - 2 * maxI 0 (up - ls)).toInt = lv.toInt - 2 * (maxI 0 (up - ls)).toInt := by rw [sub_s (by rw [a3]; omega), a3]
  unfold tlk
  rw [maxI_toInt, a4, e0]
  split <;> omega
theorem td2 {x : Int} (h : 0 ≤ x) : 0 ≤ x.tdiv 2 ∧ x.tdiv 2 * 2 ≤ x ∧ x < x.tdiv 2 * 2 + 2 := by
  rw [Int.tdiv_eq_ediv_of_nonneg h]
  omega
theorem tls_b {kd lv ls up hr : Int32} (h1 : 0 ≤ lv.toInt ∧ lv.toInt ≤ 9) (h2 : 0 ≤ ls.toInt ∧ ls.toInt ≤ 9) (h3 : 0 ≤ up.toInt ∧ up.toInt ≤ 30) : 0 ≤ (tls kd lv ls up hr).toInt ∧ (tls kd lv ls up hr).toInt ≤ 12 := by
  have e0 : (0 : Int32).toInt = 0 := rfl
  have e1 : (1 : Int32).toInt = 1 := rfl
  have e2 : (2 : Int32).toInt = 2 := rfl
  have e3 : (3 : Int32).toInt = 3 := rfl
  have hb := tlk_b h1 h2 h3
  have hd := td2 hb.1
  unfold tls
  split
  · rw [div2_toInt]; omega
  · split
    · split
      · rw [add_s (by omega), e2]; omega
      · omega
    · split
      · split
        · rw [add_s (by omega), e3]; omega
        · omega
      · split
        · have a1 : (tlk lv ls up / 2 - 1).toInt = (tlk lv ls up).toInt.tdiv 2 - 1 := by rw [sub_s (by rw [div2_toInt]; omega), div2_toInt, e1]
          rw [maxI_toInt, a1, e0]
          split <;> omega
        · split
          · split
            · rw [add_s (by omega), e2]; omega
            · omega
          · omega
/-- numbers within their bounds, n hours at most -/
def HW (n m : Nat) (H : HT) : Prop := (∃ s, s ≤ 60 ∧ H.1 = nI s) ∧ (∃ h, h ≤ n ∧ H.2.1 = nI h) ∧ (∀ k, ∃ u, u ≤ 30 ∧ H.2.2 k = nI u) ∧ ∀ k, m ≤ k → H.2.2 k = 0
theorem HW.v {n m : Nat} {H : HT} (h : HW n m H) (hn : n < 100) : HV m H := by
  obtain ⟨h1, ⟨a, h2, h3⟩, h4⟩ := h
  exact ⟨h1, ⟨a, by omega, h3⟩, h4⟩
theorem HW.mono {n n' m : Nat} {H : HT} (h : HW n m H) (hn : n ≤ n') : HW n' m H := by
  obtain ⟨h1, ⟨a, h2, h3⟩, h4⟩ := h
  exact ⟨h1, ⟨a, by omega, h3⟩, h4⟩
theorem tld_b {m i : Nat} {q : QT} {H : HT} (hq : QV m q) (hV : ∀ k, ∃ u, u ≤ 30 ∧ H.2.2 k = nI u) (hi : i < m) : 0 ≤ (tld q H i).toInt ∧ (tld q H i).toInt ≤ 12 := by
  obtain ⟨-, ⟨a, ha, e1⟩, b, hb, e2⟩ := hq i hi
  obtain ⟨u, hu, e3⟩ := hV i
  unfold tld
  rw [e1, e2, e3]
  exact tls_b (by rw [nI_toInt (by omega)]; omega) (by rw [nI_toInt (by omega)]; omega) (by rw [nI_toInt (by omega)]; omega)
theorem bth_b {m i j : Nat} {q : QT} {H : HT} (hq : QV m q) (hV : ∀ k, ∃ u, u ≤ 30 ∧ H.2.2 k = nI u) (hi : i < m) (hj : j < m) : -3 ≤ (bth q H i j).toInt ∧ (bth q H i j).toInt ≤ 24 := by
  have h1 := tld_b hq hV hi
  have h2 := tld_b hq hV hj
  have e0 : (0 : Int32).toInt = 0 := rfl
  have e3 : (3 : Int32).toInt = 3 := rfl
  have a1 : (tld q H i + tld q H j).toInt = (tld q H i).toInt + (tld q H j).toInt := add_s (by omega)
  unfold bth
  split
  · rw [sub_s (by omega), a1, e3]; omega
  · rw [sub_s (by omega), a1, e0]; omega
theorem tk_b {m i j : Nat} {q : QT} {H : HT} (hq : QV m q) (hV : ∀ k, ∃ u, u ≤ 30 ∧ H.2.2 k = nI u) (hi : i < m) (hj : j < m) : 0 ≤ (tk q H i j).toInt ∧ (tk q H i j).toInt ≤ 24 := by
  have h1 := bth_b hq hV hi hj
  have e0 : (0 : Int32).toInt = 0 := rfl
  have h2 : 0 ≤ (maxI 0 (bth q H i j)).toInt ∧ (maxI 0 (bth q H i j)).toInt ≤ 24 := by
    rw [maxI_toInt, e0]
    split <;> omega
  unfold tk
  split
  · rw [div2_toInt]
    have := td2 h2.1
    omega
  · exact h2
theorem min60 {s : Nat} {v : Int32} (hs : s ≤ 60) (hv : 0 ≤ v.toInt ∧ v.toInt ≤ 1000) : ∃ t, t ≤ 60 ∧ minI 60 (nI s / 2 + v) = nI t := by
  have e60 : (60 : Int32).toInt = 60 := rfl
  have hd : (nI s / 2).toInt = (s : Int).tdiv 2 := by rw [div2_toInt, nI_toInt (by omega)]
  have h2 := td2 (x := (s : Int)) (by omega)
  have h3 : (nI s / 2 + v).toInt = (s : Int).tdiv 2 + v.toInt := by rw [add_s (by omega), hd]
  have h4 : (minI 60 (nI s / 2 + v)).toInt = if (s : Int).tdiv 2 + v.toInt < 60 then (s : Int).tdiv 2 + v.toInt else 60 := by rw [minI_toInt, h3, e60]
  have h5 : 0 ≤ (minI 60 (nI s / 2 + v)).toInt ∧ (minI 60 (nI s / 2 + v)).toInt < (61 : Nat) := by
    rw [h4]
    split <;> omega
  obtain ⟨t, e, ht⟩ := of_ix h5
  exact ⟨t, by omega, e⟩
theorem wst_b {n m i j : Nat} {q : QT} {H : HT} (hq : QV m q) (hV : HW n m H) (hi : i < m) (hj : j < m) : ∃ t, t ≤ 60 ∧ wst q H i j = nI t := by
  obtain ⟨s, hs, e⟩ := hV.1
  have h1 := tk_b hq hV.2.2.1 hi hj
  unfold wst
  rw [e]
  exact min60 hs (by omega)
theorem wat_W {n m i j : Nat} {q : QT} {H : HT} (hq : QV m q) (hV : HW n m H) (hi : i < m) (hj : j < m) : HW (n + 1) m (wat q H i j) := by
  have e0 : (0 : Int32).toInt = 0 := rfl
  have e1 : (1 : Int32).toInt = 1 := rfl
  have e2 : (2 : Int32).toInt = 2 := rfl
  have e30 : (30 : Int32).toInt = 30 := rfl
  refine ⟨wst_b hq hV hi hj, ?_, fun k => ?_, fun k hk => ?_⟩
  · obtain ⟨h, hh, e⟩ := hV.2.1
    exact ⟨h + 1, by omega, by show H.2.1 + 1 = _; rw [e, nI_1]⟩
  · obtain ⟨u, hu, e⟩ := hV.2.2.1 k
    have tu := nI_toInt (show u < 2 ^ 31 by omega)
    show ∃ u, u ≤ 30 ∧ (if k = i ∨ k = j then minI 30 (H.2.2 k + 1) else maxI 0 (H.2.2 k - 2)) = nI u
    rw [e]
    split
    · have h5 : 0 ≤ (minI 30 (nI u + 1)).toInt ∧ (minI 30 (nI u + 1)).toInt < (31 : Nat) := by
        rw [minI_toInt, add_s (by omega), tu, e1, e30]
        split <;> omega
      obtain ⟨t, e, ht⟩ := of_ix h5
      exact ⟨t, by omega, e⟩
    · have h5 : 0 ≤ (maxI 0 (nI u - 2)).toInt ∧ (maxI 0 (nI u - 2)).toInt < (31 : Nat) := by
        rw [maxI_toInt, sub_s (by omega), tu, e2, e0]
        split <;> omega
      obtain ⟨t, e, ht⟩ := of_ix h5
      exact ⟨t, by omega, e⟩
  · show (if k = i ∨ k = j then minI 30 (H.2.2 k + 1) else maxI 0 (H.2.2 k - 2)) = 0
    rw [if_neg (by omega), hV.2.2.2 k hk]
    decide
theorem dd_W {n m e : Nat} {q : QT} {N : NT} (hq : QV m q) (hV : HW n m N.1) (hd : dOK m e) : HW (n + 1) m (dd q N e).1 := by
  unfold dd
  split
  · refine ⟨hV.1, (hV.mono (by omega)).2.1, fun k => ?_, fun k hk => ?_⟩
    · show ∃ u, u ≤ 30 ∧ (if k = e - 200 then 0 else N.1.2.2 k) = nI u
      split
      · exact ⟨0, by omega, rfl⟩
      · exact hV.2.2.1 k
    · show (if k = e - 200 then 0 else N.1.2.2 k) = 0
      split
      · rfl
      · exact hV.2.2.2 k hk
  · split
    · split
      · exact hV.mono (by omega)
      · exact ⟨⟨0, by omega, rfl⟩, (hV.mono (by omega)).2.1, hV.2.2.1, hV.2.2.2⟩
    · rcases hd with h | h | h
      · exact wat_W hq hV h.2.1 h.2.2.1
      · omega
      · omega
theorem fold_W {m : Nat} {q : QT} (hq : QV m q) : ∀ (ds : List Nat) (n : Nat) (N : NT), HW n m N.1 → (∀ e ∈ ds, dOK m e) → HW (n + ds.length) m (ds.foldl (dd q) N).1 := by
  intro ds
  induction ds with
  | nil => intro n N h _; exact h
  | cons d ds ih =>
    intro n N h hd
    have := ih (n + 1) (dd q N d) (dd_W hq h (hd d List.mem_cons_self)) (fun e he => hd e (List.mem_cons_of_mem _ he))
    rw [List.length_cons, show n + (ds.length + 1) = n + 1 + ds.length by omega]
    exact this
theorem runs_W {m : Nat} {q : QT} {s c : Int32} {ds : List Nat} (hq : QV m q) (hs : ∃ a, a ≤ 40 ∧ s = nI a) (hd : ∀ e ∈ ds, dOK m e) : HW ds.length m (runs q s c ds).1 := by
  have := fold_W hq ds 0 (ini s c) ⟨by obtain ⟨a, h1, h2⟩ := hs; exact ⟨a, by omega, h2⟩, ⟨0, by omega, rfl⟩, fun _ => ⟨0, by omega, rfl⟩, fun _ _ => rfl⟩ hd
  rw [Nat.zero_add] at this
  exact this
theorem fold_c {q : QT} : ∀ (ds : List Nat) (a : Nat) (N : NT), N.2.1 = nI a → ds.countP (fun e => decide (200 ≤ e)) ≤ a → (ds.foldl (dd q) N).2.1 = nI (a - ds.countP (fun e => decide (200 ≤ e))) := by
  intro ds
  induction ds with
  | nil => intro a N h _; simpa using h
  | cons d ds ih =>
    intro a N h hc
    rw [List.countP_cons] at hc ⊢
    by_cases h2 : 200 ≤ d
    · simp only [h2, decide_true, if_true] at hc ⊢
      have e : (dd q N d).2.1 = nI (a - 1) := by
        simp only [dd, h2, if_true, h]
        rw [show (1 : Int32) = nI 1 from rfl, pk_sub (by omega)]
      rw [List.foldl_cons, ih (a - 1) _ e (by omega)]
      congr 1
      omega
    · simp only [h2, decide_false, Bool.false_eq_true, if_false, Nat.add_zero] at hc ⊢
      have e : (dd q N d).2.1 = nI a := by
        unfold dd
        rw [if_neg h2]
        split
        · split
          · exact h
          · exact h
        · exact h
      rw [List.foldl_cons]
      exact ih a _ e hc
theorem runs_c {m : Nat} {q : QT} {s c : Int32} {ds : List Nat} (hd : DsV m c ds) : ∃ a, a ≤ 9 ∧ (runs q s c ds).2.1 = nI a := by
  obtain ⟨-, -, a, h1, h2, h3⟩ := hd
  exact ⟨_, by omega, fold_c ds a (ini s c) h2 h3⟩
theorem runs_snoc (q : QT) (s c : Int32) (ds : List Nat) (e : Nat) : runs q s c (ds ++ [e]) = dd q (runs q s c ds) e := by simp [runs]
end BOUNDS
