/-! Deeds: the class. -/
section DEEDX
variable {B : BT}
theorem dd_w (q : QT) (N : NT) {i j : Nat} (hi : i < 6) (hj : j < 6) : dd q N (10 * i + j) = (wat q N.1 i j, N.2) := by
  unfold dd
  rw [if_neg (by omega), if_neg (by omega), show (10 * i + j) / 10 = i by omega, show (10 * i + j) % 10 = j by omega]
theorem dd_c (q : QT) (N : NT) (i : Nat) : dd q N (200 + i) = ((N.1.1, N.1.2.1, fun k => if k = i then 0 else N.1.2.2 k), N.2.1 - 1, N.2.2) := by
  unfold dd
  rw [if_pos (by omega), show 200 + i - 200 = i by omega]
theorem dd_l (q : QT) (N : NT) {v : Nat} (hv : v ≤ 60) : dd q N (100 + v) = if nI v ≤ N.1.1 then (N.1, N.2.1, N.2.2.1 + 1, N.2.2.2) else ((0, N.1.2), N.2.1, N.2.2.1, N.2.2.2 + 1) := by
  unfold dd
  rw [if_neg (by omega), if_pos (by omega), show 100 + v - 100 = v by omega]
theorem get_snoc {g : Nat → Int32} {ds : List Nat} {e : Nat} (h : ∀ k (hk : k < ds.length), g k = nI ds[k]) : ∀ k (hk : k < (ds ++ [e]).length), upd g ds.length (nI e) k = nI (ds ++ [e])[k] := by
  intro k hk
  rw [List.length_append, List.length_singleton] at hk
  by_cases e1 : k = ds.length
  · subst e1
    simp [upd]
  · have h2 : k < ds.length := by omega
    rw [List.getElem_append_left h2, ← h k h2]
    simp [upd, e1]
theorem x_note (D : DT) {n d : Nat} (hn : isNi n) (hd : d < 40) (h2 : fI D n 2 = nI d) (v : Int32) : P_X3_note n v (hp B D) = some ((), hp B (uI (uG D (n + 4) (upd (fG D (n + 4)) d v)) n 2 (nI (d + 1)))) := by
  obtain ⟨a1, a2, a3, a4, a5, a6, a7, a8, a9, a10⟩ := hn
  have c : 0 ≤ (nI d).toInt ∧ (nI d).toInt < ((40 : Nat) : Int) := ixc hd (by omega)
  have c0 : ¬ nI d < 0 := fun h => by
    have := (nI_ltI (a := d) (b := 0) (by omega) (by omega)).mp h
    omega
  have e40 : (40 : Int32) = nI 40 := rfl
  have c40 : ¬ nI 40 ≤ nI d := nI_ge hd (by omega)
  simp only [P_X3_note, pureM_hp, ifB_t, ifB_f, decide_true, decide_false, ifB_hp, jn_hp, retZ_0, retZ_1, thn_some, cll0_w, cllV_w, getI_w, getL_w, getR_w, setI_w, setZ_w0, setZ_w1, setL_w, ald_w, ast_w, alen_w, aldR_2, aldR_3, aldR_4, aldR_22, cll0_pure, ↓reduceIte, if_true, if_false, Bool.false_eq_true, reduceCtorEq, and_true, true_and, and_false, false_and, ite_self, a3, a4, a9, h2, fI_uG, c, c0, e40, c40, nI_clamp (show d < 2 ^ 31 by omega), nI_p1]
/-- what a deed makes of a night -/
def Dne (D D' : DT) (n m : Nat) (q : QT) (s c : Int32) (ds : List Nat) (e : Nat) : Prop := XNi D' n m q s c (ds ++ [e]) ∧ Off (Tnd n) D D' ∧ fG D' (n + 4) = upd (fG D (n + 4)) ds.length (nI e)
theorem x_doWatch {D : DT} {n f m : Nat} {q : QT} {s c : Int32} {ds : List Nat} (hn : isNi n) (hf : isFo f) (hfn : f + 4 < n) (hF : XF D f m q) (hm6 : m ≤ 6) (hv : QV m q) (hX : XNi D n m q s c ds) (hV : HV m (runs q s c ds).1) (hl : ds.length < 40) {i j : Nat} (hi : i < m) (hj : j < m) (hij : i ≠ j) :
    ∃ D', P_X3_doWatch n f (nI i) (nI j) (hp B D) = some ((runs q s c (ds ++ [10 * i + j])).1.1, hp B D') ∧ Dne D D' n m q s c ds (10 * i + j) := by
  have en := x_note (B := B) D hn hl hX.2.1 (nI (10 * i + j))
  generalize hD1 : uI (uG D (n + 4) (upd (fG D (n + 4)) ds.length (nI (10 * i + j)))) n 2 (nI (ds.length + 1)) = D1 at en
  have o1 : Off (fun x k => (x = n ∧ k = 2) ∨ (x = n + 4 ∧ k = 63)) D D1 := by
    rw [← hD1]
    exact ((Off.refl D).uG _ _ (by omega)).uI _ _ _ (by omega)
  have hF1 : XF D1 f m q := hF.off o1 (by omega) (fun k q1 q2 => by omega)
  have hH1 : XH D1 (n + 1) m q (runs q s c ds).1 := hX.1.1.off o1 (by omega) (by omega) (by omega) (by omega)
  obtain ⟨D2, g1, g2, g3⟩ := x_passWatch (B := B) hn.2.2.2.2.2.2.2.2.2 hf (by omega) hF1 hH1 hm6 hv hV hi hj hij
  have a := hn
  obtain ⟨a1, a2, a3, a4, a5, a6, a7, a8, a9, a10⟩ := a
  have o2 : Off (fun x k => (x = n ∧ k = 2) ∨ (n + 1 ≤ x ∧ x ≤ n + 4)) D D2 := (o1.mono (fun x k h => by omega)).trans (g3.mono (fun x k h => by unfold Tho at h; omega))
  have er : runs q s c (ds ++ [10 * i + j]) = (wat q (runs q s c ds).1 i j, (runs q s c ds).2) := by rw [runs_snoc, dd_w q _ (by omega) (by omega)]
  have e5 : 10 * nI i + nI j = nI (10 * i + j) := by rw [show (10 : Int32) = nI 10 from rfl, pk_mul, nI_add]
  refine ⟨D2, ?_, ⟨⟨?_, ?_, ?_, ?_⟩, ?_, ?_⟩, o2.mono (fun x k h => by unfold Tnd; omega), ?_⟩
  · simp only [P_X3_doWatch, pureM_hp, ifB_t, ifB_f, decide_true, decide_false, ifB_hp, jn_hp, retZ_0, retZ_1, thn_some, cll0_w, cllV_w, getI_w, getL_w, getR_w, setI_w, setZ_w0, setZ_w1, setL_w, ald_w, ast_w, alen_w, aldR_2, aldR_3, aldR_4, aldR_22, cll0_pure, ↓reduceIte, if_true, if_false, Bool.false_eq_true, reduceCtorEq, and_true, true_and, and_false, false_and, ite_self, e5, a1, a2, en, a10.1, a10.2.2.2.1, g1, g2.1, er]
  · rw [er]; exact g2
  · rw [er, (o2.1 n 3 (by omega)).1]; exact hX.1.2.1
  · rw [er, (o2.1 n 4 (by omega)).1]; exact hX.1.2.2.1
  · rw [er, (o2.1 n 5 (by omega)).1]; exact hX.1.2.2.2
  · rw [(g3.1 n 2 (by unfold Tho; omega)).1, ← hD1, fI_uI, if_pos ⟨rfl, rfl⟩, List.length_append]; rfl
  · rw [g3.2 (n + 4) (by unfold Tho; omega), ← hD1, fG_uI, fG_uG, if_pos rfl]
    exact get_snoc hX.2.2
  · rw [g3.2 (n + 4) (by unfold Tho; omega), ← hD1, fG_uI, fG_uG, if_pos rfl]
theorem x_doLoad {D : DT} {n m : Nat} {q : QT} {s c : Int32} {ds : List Nat} (hn : isNi n) (hX : XNi D n m q s c ds) (hl : ds.length < 40) {v : Nat} (hv : v ≤ 60) :
    ∃ D', P_X3_doLoad n (nI v) (hp B D) = some (if nI v ≤ (runs q s c ds).1.1 then 1 else 0, hp B D') ∧ Dne D D' n m q s c ds (100 + v) := by
  have en := x_note (B := B) D hn hl hX.2.1 (nI (100 + v))
  generalize hD1 : uI (uG D (n + 4) (upd (fG D (n + 4)) ds.length (nI (100 + v)))) n 2 (nI (ds.length + 1)) = D1 at en
  have o1 : Off (fun x k => (x = n ∧ k = 2) ∨ (x = n + 4 ∧ k = 63)) D D1 := by
    rw [← hD1]
    exact ((Off.refl D).uG _ _ (by omega)).uI _ _ _ (by omega)
  have hN1 : XH D1 (n + 1) m q (runs q s c ds).1 := hX.1.1.off o1 (by omega) (by omega) (by omega) (by omega)
  have f3 : fI D1 n 3 = (runs q s c ds).2.1 := by rw [(o1.1 n 3 (by omega)).1]; exact hX.1.2.1
  have f4 : fI D1 n 4 = (runs q s c ds).2.2.1 := by rw [(o1.1 n 4 (by omega)).1]; exact hX.1.2.2.1
  have f5 : fI D1 n 5 = (runs q s c ds).2.2.2 := by rw [(o1.1 n 5 (by omega)).1]; exact hX.1.2.2.2
  have f2 : fI D1 n 2 = nI (ds ++ [100 + v]).length := by rw [← hD1, fI_uI, if_pos ⟨rfl, rfl⟩, List.length_append]; rfl
  have fg : fG D1 (n + 4) = upd (fG D (n + 4)) ds.length (nI (100 + v)) := by rw [← hD1, fG_uI, fG_uG, if_pos rfl]
  have a := hn
  obtain ⟨a1, a2, a3, a4, a5, a6, a7, a8, a9, a10⟩ := a
  have e5 : 100 + nI v = nI (100 + v) := by rw [show (100 : Int32) = nI 100 from rfl, nI_add]
  by_cases hs : nI v ≤ (runs q s c ds).1.1
  · have er : runs q s c (ds ++ [100 + v]) = ((runs q s c ds).1, (runs q s c ds).2.1, (runs q s c ds).2.2.1 + 1, (runs q s c ds).2.2.2) := by rw [runs_snoc, dd_l q _ hv, if_pos hs]
    have o2 : Off (fun x k => x = n ∧ k = 4) D1 (uI D1 n 4 ((runs q s c ds).2.2.1 + 1)) := (Off.refl D1).uI _ _ _ (by omega)
    refine ⟨uI D1 n 4 ((runs q s c ds).2.2.1 + 1), ?_, ⟨⟨?_, ?_, ?_, ?_⟩, ?_, ?_⟩, (o1.mono (fun x k h => by unfold Tnd; omega)).trans (o2.mono (fun x k h => by unfold Tnd; omega)), ?_⟩
    · have hs' : ¬ (runs q s c ds).1.1 < nI v := Int32.not_lt.mpr hs
      simp only [P_X3_doLoad, pureM_hp, ifB_t, ifB_f, decide_true, decide_false, ifB_hp, jn_hp, retZ_0, retZ_1, thn_some, cll0_w, cllV_w, getI_w, getL_w, getR_w, setI_w, setZ_w0, setZ_w1, setL_w, ald_w, ast_w, alen_w, aldR_2, aldR_3, aldR_4, aldR_22, cll0_pure, ↓reduceIte, if_true, if_false, Bool.false_eq_true, reduceCtorEq, and_true, true_and, and_false, false_and, ite_self, e5, a1, a2, en, a6, a10.1, a10.2.2.2.1, hN1.1, hs, hs', f4]
    · rw [er]; exact hN1.off o2 (by omega) (by omega) (by omega) (by omega)
    · rw [er, (o2.1 n 3 (by omega)).1]; exact f3
    · rw [er, fI_uI, if_pos ⟨rfl, rfl⟩]
    · rw [er, (o2.1 n 5 (by omega)).1]; exact f5
    · rw [(o2.1 n 2 (by omega)).1]; exact f2
    · rw [fG_uI, fg]
      exact get_snoc hX.2.2
    · rw [fG_uI, fg]
  · have er : runs q s c (ds ++ [100 + v]) = ((0, (runs q s c ds).1.2), (runs q s c ds).2.1, (runs q s c ds).2.2.1, (runs q s c ds).2.2.2 + 1) := by rw [runs_snoc, dd_l q _ hv, if_neg hs]
    have o2 : Off (fun x k => (x = n ∧ k = 5) ∨ (x = n + 1 ∧ k = 2)) D1 (uI (uI D1 n 5 ((runs q s c ds).2.2.2 + 1)) (n + 1) 2 0) := ((Off.refl D1).uI _ _ _ (by omega)).uI _ _ _ (by omega)
    refine ⟨uI (uI D1 n 5 ((runs q s c ds).2.2.2 + 1)) (n + 1) 2 0, ?_, ⟨⟨⟨?_, ?_, ?_, ?_⟩, ?_, ?_, ?_⟩, ?_, ?_⟩, (o1.mono (fun x k h => by unfold Tnd; omega)).trans (o2.mono (fun x k h => by unfold Tnd; omega)), ?_⟩
    · have hs' : (runs q s c ds).1.1 < nI v := Int32.not_le.mp hs
      simp only [P_X3_doLoad, pureM_hp, ifB_t, ifB_f, decide_true, decide_false, ifB_hp, jn_hp, retZ_0, retZ_1, thn_some, cll0_w, cllV_w, getI_w, getL_w, getR_w, setI_w, setZ_w0, setZ_w1, setL_w, ald_w, ast_w, alen_w, aldR_2, aldR_3, aldR_4, aldR_22, cll0_pure, ↓reduceIte, if_true, if_false, Bool.false_eq_true, reduceCtorEq, and_true, true_and, and_false, false_and, ite_self, e5, a1, a2, en, a7, a10.1, a10.2.2.2.1, hN1.1, hs, hs', f5]
    · rw [er, fI_uI, if_pos ⟨rfl, rfl⟩]
    · rw [er, (o2.1 (n + 1) 3 (by omega)).1]; exact hN1.2.1
    · rw [er]; exact hN1.2.2.1
    · rw [er]; exact hN1.2.2.2
    · rw [er, (o2.1 n 3 (by omega)).1]; exact f3
    · rw [er, (o2.1 n 4 (by omega)).1]; exact f4
    · rw [er, fI_uI, if_neg (by omega), fI_uI, if_pos ⟨rfl, rfl⟩]
    · rw [(o2.1 n 2 (by omega)).1]; exact f2
    · rw [fG_uI, fG_uI, fg]
      exact get_snoc hX.2.2
    · rw [fG_uI, fG_uI, fg]
theorem x_doCoffee {D : DT} {n f m : Nat} {q : QT} {s c : Int32} {ds : List Nat} (hn : isNi n) (hf : isFo f) (hfn : f + 4 < n) (hF : XF D f m q) (hm6 : m ≤ 6) (hv : QV m q) (hX : XNi D n m q s c ds) (hV : HV m (runs q s c ds).1) (hl : ds.length < 40) {i : Nat} (hi : i < m) :
    ∃ D', P_X3_doCoffee n f (nI i) (hp B D) = some ((runs q s c (ds ++ [200 + i])).2.1, hp B D') ∧ Dne D D' n m q s c ds (200 + i) := by
  have en := x_note (B := B) D hn hl hX.2.1 (nI (200 + i))
  generalize hD1 : uI (uG D (n + 4) (upd (fG D (n + 4)) ds.length (nI (200 + i)))) n 2 (nI (ds.length + 1)) = D1 at en
  have o1 : Off (fun x k => (x = n ∧ k = 2) ∨ (x = n + 4 ∧ k = 63)) D D1 := by
    rw [← hD1]
    exact ((Off.refl D).uG _ _ (by omega)).uI _ _ _ (by omega)
  have hF1 : XF D1 f m q := hF.off o1 (by omega) (fun k q1 q2 => by omega)
  have hN1 : XH D1 (n + 1) m q (runs q s c ds).1 := hX.1.1.off o1 (by omega) (by omega) (by omega) (by omega)
  obtain ⟨-, ⟨h, hh, eh⟩, -, -⟩ := hV
  have a := hn
  obtain ⟨a1, a2, a3, a4, a5, a6, a7, a8, a9, a10⟩ := a
  have c3 : 0 ≤ (nI i).toInt ∧ (nI i).toInt < ((6 : Nat) : Int) := ixc (by omega) (by omega)
  have cm := ixc hi (show m < 2 ^ 30 by omega)
  generalize hD2 : uG D1 (n + 1 + 1) (upd (fG D1 (n + 1 + 1)) i 0) = D2
  have o2 : Off (fun x k => x = n + 1 + 1 ∧ k = 63) D1 D2 := by
    rw [← hD2]
    exact (Off.refl D1).uG _ _ (by omega)
  have e3 : fI D2 (n + 1) 3 = nI h := by rw [(o2.1 (n + 1) 3 (by omega)).1, hN1.2.1, eh]
  have li := x_listen (B := B) a10 hf (by omega) e3 (by omega)
  have hF2 : XF D2 f m q := hF1.off o2 (by omega) (fun k q1 q2 => by omega)
  have g3 : ∀ t, t < 6 → fG D2 (n + 1 + 1) t = (if t = i then 0 else (runs q s c ds).1.2.2 t) := by
    intro t ht
    rw [← hD2, fG_uG, if_pos rfl]
    show (if t = i then _ else _) = _
    rw [hN1.2.2.1 t ht]
  generalize hD3 : uG D2 (n + 1 + 2) (fun t => if t < 6 then xtls (fG D2 (f + 1) t) (fG D2 (f + 2) t) (fG D2 (f + 3) t) (fG D2 (n + 1 + 1) t) (fI D2 (n + 1) 3 % 12) else fG D2 (n + 1 + 2) t) = D3 at li
  have o3 : Off (fun x k => x = n + 1 + 2 ∧ k = 63) D2 D3 := by
    rw [← hD3]
    exact (Off.refl D2).uG _ _ (by omega)
  have f3 : fI D3 n 3 = (runs q s c ds).2.1 := by rw [(o3.1 n 3 (by omega)).1, (o2.1 n 3 (by omega)).1, (o1.1 n 3 (by omega)).1]; exact hX.1.2.1
  have f4 : fI D3 n 4 = (runs q s c ds).2.2.1 := by rw [(o3.1 n 4 (by omega)).1, (o2.1 n 4 (by omega)).1, (o1.1 n 4 (by omega)).1]; exact hX.1.2.2.1
  have f5 : fI D3 n 5 = (runs q s c ds).2.2.2 := by rw [(o3.1 n 5 (by omega)).1, (o2.1 n 5 (by omega)).1, (o1.1 n 5 (by omega)).1]; exact hX.1.2.2.2
  have f2 : fI D3 n 2 = nI (ds ++ [200 + i]).length := by rw [(o3.1 n 2 (by omega)).1, (o2.1 n 2 (by omega)).1, ← hD1, fI_uI, if_pos ⟨rfl, rfl⟩, List.length_append]; rfl
  have fg : fG D3 (n + 4) = upd (fG D (n + 4)) ds.length (nI (200 + i)) := by rw [o3.2 (n + 4) (by omega), o2.2 (n + 4) (by omega), ← hD1, fG_uI, fG_uG, if_pos rfl]
  have e5 : 200 + nI i = nI (200 + i) := by rw [show (200 : Int32) = nI 200 from rfl, nI_add]
  have er : runs q s c (ds ++ [200 + i]) = _ := (runs_snoc q s c ds (200 + i)).trans (dd_c q _ i)
  have o4 : Off (fun x k => x = n ∧ k = 3) D3 (uI D3 n 3 ((runs q s c ds).2.1 - 1)) := (Off.refl D3).uI _ _ _ (by omega)
  refine ⟨uI D3 n 3 ((runs q s c ds).2.1 - 1), ?_, ⟨⟨⟨?_, ?_, fun t ht => ?_, fun t ht => ?_⟩, ?_, ?_, ?_⟩, ?_, ?_⟩, (((o1.mono (fun x k h => by unfold Tnd; omega)).trans (o2.mono (fun x k h => by unfold Tnd; omega))).trans (o3.mono (fun x k h => by unfold Tnd; omega))).trans (o4.mono (fun x k h => by unfold Tnd; omega)), ?_⟩
  · simp only [P_X3_doCoffee, P_X1_drink, pureM_hp, ifB_t, ifB_f, decide_true, decide_false, ifB_hp, jn_hp, retZ_0, retZ_1, thn_some, cll0_w, cllV_w, getI_w, getL_w, getR_w, setI_w, setZ_w0, setZ_w1, setL_w, ald_w, ast_w, alen_w, aldR_2, aldR_3, aldR_4, aldR_22, cll0_pure, ↓reduceIte, if_true, if_false, Bool.false_eq_true, reduceCtorEq, and_true, true_and, and_false, false_and, ite_self, e5, a1, a2, en, a5, hf.1, a10.1, a10.2.1, a10.2.2.2.2.2.1, x_has hf hF1.1 hm6, cm, c3, b2i_0, nI_clamp (show i < 2 ^ 31 by omega), hD2, li, f3, er, fI_uI, and_self, decide_true]
  · rw [er, (o4.1 (n + 1) 2 (by omega)).1, (o3.1 (n + 1) 2 (by omega)).1, (o2.1 (n + 1) 2 (by omega)).1]; exact hN1.1
  · rw [er, (o4.1 (n + 1) 3 (by omega)).1, (o3.1 (n + 1) 3 (by omega)).1, (o2.1 (n + 1) 3 (by omega)).1]; exact hN1.2.1
  · rw [er, o4.2 (n + 1 + 1) (by omega), o3.2 (n + 1 + 1) (by omega)]; exact g3 t ht
  · rw [er, o4.2 (n + 1 + 2) (by omega), ← hD3, fG_uG, if_pos rfl]
    show (if t < 6 then _ else _) = _
    rw [if_pos (by omega), (hF2.2 t (by omega)).1, (hF2.2 t (by omega)).2.1, (hF2.2 t (by omega)).2.2.1, g3 t (by omega), e3, ← eh]
    exact tld_x (H := ((runs q s c ds).1.1, (runs q s c ds).1.2.1, fun k => if k = i then 0 else (runs q s c ds).1.2.2 k)) hv ht
  · rw [er, fI_uI, if_pos ⟨rfl, rfl⟩]
  · rw [er, (o4.1 n 4 (by omega)).1]; exact f4
  · rw [er, (o4.1 n 5 (by omega)).1]; exact f5
  · rw [(o4.1 n 2 (by omega)).1]; exact f2
  · rw [fG_uI, fg]
    exact get_snoc hX.2.2
  · rw [fG_uI, fg]
end DEEDX
section BACKX
variable {B : BT}
set_option maxRecDepth 100000 in
theorem dv_dec : ∀ e, e < 100 → nI e / 10 = nI (e / 10) ∧ nI e % 10 = nI (e % 10) := by decide
theorem take_s {α : Type} : ∀ (l : List α) (k : Nat) (h : k < l.length), l.take (k + 1) = l.take k ++ [l[k]] := by
  intro l
  induction l with
  | nil => intro k h; exact absurd h (by simp)
  | cons a l ih =>
    intro k h
    cases k with
    | zero => rfl
    | succ k =>
      have h2 : k < l.length := by
        rw [List.length_cons] at h
        omega
      show a :: l.take (k + 1) = a :: (l.take k ++ [l[k]])
      rw [ih k h2]
theorem take_all {α : Type} (l : List α) : l.take l.length = l := by simp
theorem take_len {α : Type} (l : List α) (k : Nat) (h : k ≤ l.length) : (l.take k).length = k := by
  rw [List.length_take]
  omega
theorem take_ok {m : Nat} {ds : List Nat} (h : ∀ e ∈ ds, dOK m e) (k : Nat) : ∀ e ∈ ds.take k, dOK m e := fun e he => h e (List.mem_of_mem_take he)
theorem ne10 : ¬ (10 : Int32) = 0 := by decide
theorem back_loop {n f m N : Nat} {q : QT} {s c : Int32} {ds : List Nat} (hn : isNi n) (hf : isFo f) (hfn : f + 4 < n) (hm6 : m ≤ 6) (hv : QV m q) (hs : ∃ a, a ≤ 40 ∧ s = nI a) (hd : ∀ e ∈ ds, dOK m e) (hl : ds.length ≤ 40) (hN : N ≤ ds.length) : ∀ (F k : Nat) (D : DT), k ≤ N → N - k < F → XF D f m q → XNi D n m q s c (ds.take k) → (∀ t (h : t < ds.length), fG D (n + 4) t = nI ds[t]) →
    ∃ D', P_X3_goBackTo_7 n f (nI N) F (nI k) (hp B D) = some ((), hp B D') ∧ XNi D' n m q s c (ds.take N) ∧ Off (Tnd n) D D' := by
  intro F
  induction F with
  | zero => intro k D h1 h2; omega
  | succ F ih =>
    intro k D h1 h2 hF hX hg
    obtain ⟨a1, a2, a3, a4, a5, a6, a7, a8, a9, a10⟩ := id hn
    by_cases e : k = N
    · refine ⟨D, ?_, by rw [← e]; exact hX, Off.refl D⟩
      simp only [P_X3_goBackTo_7, pureM_hp, ifB_t, ifB_f, decide_true, decide_false, ifB_hp, jn_hp, retZ_0, retZ_1, thn_some, cll0_w, cllV_w, getI_w, getL_w, getR_w, setI_w, setZ_w0, setZ_w1, setL_w, ald_w, ast_w, alen_w, aldR_2, aldR_3, aldR_4, aldR_22, cll0_pure, ↓reduceIte, if_true, if_false, Bool.false_eq_true, reduceCtorEq, and_true, true_and, and_false, false_and, ite_self, a3, a9, a1]
      rw [if_pos (by rw [e]; exact nI_le (Nat.le_refl _) (by omega))]
    · have hk : k < N := by omega
      have hkl : k < ds.length := by omega
      have lt : (ds.take k).length = k := take_len ds k (by omega)
      have c1 : ¬ nI N ≤ nI k := nI_ge hk (by omega)
      have c2 : ¬ (40 : Int32) ≤ nI k := show ¬ nI 40 ≤ nI k from nI_ge (show k < 40 by omega) (by omega)
      have cx : 0 ≤ (nI k).toInt ∧ (nI k).toInt < ((40 : Nat) : Int) := ixc (by omega) (by omega)
      have hW := runs_W (c := c) hv hs (take_ok hd k)
      have hVk : HV m (runs q s c (ds.take k)).1 := hW.v (by omega)
      have hde := hd ds[k] (List.getElem_mem hkl)
      have hgk := hg k hkl
      have step : ∀ D1, Dne D D1 n m q s c (ds.take k) ds[k] → ∃ D', P_X3_goBackTo_7 n f (nI N) F (nI (k + 1)) (hp B D1) = some ((), hp B D') ∧ XNi D' n m q s c (ds.take N) ∧ Off (Tnd n) D D' := by
        intro D1 ⟨p1, p2, p3⟩
        have e4 : fG D1 (n + 4) = fG D (n + 4) := by rw [p3, lt, ← hgk, up_self]
        obtain ⟨D2, r1, r2, r3⟩ := ih (k + 1) D1 (by omega) (by omega) (Tnd_f hF p2 hfn) (by rw [take_s ds k hkl]; exact p1) (by rw [e4]; exact hg)
        exact ⟨D2, r1, r2, p2.trans r3⟩
      generalize ds[k] = d at hde hgk step
      have big : d < 206 := by rcases hde with h | h | h <;> omega
      rcases hde with h | h | h
      · obtain ⟨d1, d2, d3, d4⟩ := h
        obtain ⟨q1, q2⟩ := dv_dec d d1
        obtain ⟨D1, r1, r2⟩ := x_doWatch (B := B) hn hf hfn hF hm6 hv hX hVk (by omega) d2 d3 d4
        rw [show 10 * (d / 10) + d % 10 = d by omega] at r1 r2
        obtain ⟨D', t1, t2, t3⟩ := step D1 r2
        refine ⟨D', ?_, t2, t3⟩
        have l1 : nI d < 200 := (nI_ltI (b := 200) (by omega) (by omega)).mpr (by omega)
        have l2 : nI d < 100 := (nI_ltI (b := 100) (by omega) (by omega)).mpr (by omega)
        simp only [P_X3_goBackTo_7, pureM_hp, ifB_t, ifB_f, decide_true, decide_false, ifB_hp, jn_hp, retZ_0, retZ_1, thn_some, cll0_w, cllV_w, getI_w, getL_w, getR_w, setI_w, setZ_w0, setZ_w1, setL_w, ald_w, ast_w, alen_w, aldR_2, aldR_3, aldR_4, aldR_22, cll0_pure, ↓reduceIte, if_true, if_false, Bool.false_eq_true, reduceCtorEq, and_true, true_and, and_false, false_and, ite_self, a1, a3, a9, c1, c2, cx, nI_clamp (show k < 2 ^ 31 by omega), hgk, l1, l2, divI_hp _ _ _ ne10, remI_hp _ _ _ ne10, q1, q2, r1, nI_p1, t1]
      · obtain ⟨D1, r1, r2⟩ := x_doLoad (B := B) hn hX (by omega) (show d - 100 ≤ 60 by omega)
        rw [show 100 + (d - 100) = d by omega] at r2
        obtain ⟨D', t1, t2, t3⟩ := step D1 r2
        refine ⟨D', ?_, t2, t3⟩
        have l1 : nI d < 200 := (nI_ltI (b := 200) (by omega) (by omega)).mpr (by omega)
        have l2 : ¬ nI d < 100 := fun z => by
          have := (nI_ltI (a := d) (b := 100) (by omega) (by omega)).mp z
          omega
        have l3 : nI d - 100 = nI (d - 100) := pk_sub (b := 100) (by omega)
        simp only [P_X3_goBackTo_7, pureM_hp, ifB_t, ifB_f, decide_true, decide_false, ifB_hp, jn_hp, retZ_0, retZ_1, thn_some, cll0_w, cllV_w, getI_w, getL_w, getR_w, setI_w, setZ_w0, setZ_w1, setL_w, ald_w, ast_w, alen_w, aldR_2, aldR_3, aldR_4, aldR_22, cll0_pure, ↓reduceIte, if_true, if_false, Bool.false_eq_true, reduceCtorEq, and_true, true_and, and_false, false_and, ite_self, a1, a3, a9, c1, c2, cx, nI_clamp (show k < 2 ^ 31 by omega), hgk, l1, l2, l3, r1, nI_p1, t1]
      · obtain ⟨D1, r1, r2⟩ := x_doCoffee (B := B) hn hf hfn hF hm6 hv hX hVk (by omega) (show d - 200 < m by omega)
        rw [show 200 + (d - 200) = d by omega] at r1 r2
        obtain ⟨D', t1, t2, t3⟩ := step D1 r2
        refine ⟨D', ?_, t2, t3⟩
        have l1 : ¬ nI d < 200 := fun z => by
          have := (nI_ltI (a := d) (b := 200) (by omega) (by omega)).mp z
          omega
        have l3 : nI d - 200 = nI (d - 200) := pk_sub (b := 200) (by omega)
        simp only [P_X3_goBackTo_7, pureM_hp, ifB_t, ifB_f, decide_true, decide_false, ifB_hp, jn_hp, retZ_0, retZ_1, thn_some, cll0_w, cllV_w, getI_w, getL_w, getR_w, setI_w, setZ_w0, setZ_w1, setL_w, ald_w, ast_w, alen_w, aldR_2, aldR_3, aldR_4, aldR_22, cll0_pure, ↓reduceIte, if_true, if_false, Bool.false_eq_true, reduceCtorEq, and_true, true_and, and_false, false_and, ite_self, a1, a3, a9, c1, c2, cx, nI_clamp (show k < 2 ^ 31 by omega), hgk, l1, l3, r1, nI_p1, t1]
theorem x_goBackTo {D : DT} {n f m N : Nat} {q : QT} {s c : Int32} {ds : List Nat} (hn : isNi n) (hf : isFo f) (hfn : f + 4 < n) (hm6 : m ≤ 6) (hv : QV m q) (hF : XF D f m q) (hs5 : fI D f 5 = s) (hc6 : fI D f 6 = c) (hs : ∃ a, a ≤ 40 ∧ s = nI a) (hd : ∀ e ∈ ds, dOK m e) (hl : ds.length ≤ 40) (hN : N ≤ ds.length) (hX : XNi D n m q s c ds) :
    ∃ D', P_X3_goBackTo n f (nI N) (hp B D) = some ((), hp B D') ∧ XNi D' n m q s c (ds.take N) ∧ Off (Tnd n) D D' := by
  obtain ⟨D1, g1, g2, g3⟩ := x_nbegin (B := B) hn hf hfn hF hs5 hc6 hm6 hv
  have e4 : fG D1 (n + 4) = fG D (n + 4) := g3.2 (n + 4) (by unfold Tni; omega)
  have g3' : Off (Tnd n) D D1 := g3.mono (fun x k h => Tni_d h)
  obtain ⟨D2, r1, r2, r3⟩ := back_loop (B := B) (N := N) hn hf hfn hm6 hv hs hd hl hN 4000 0 D1 (by omega) (by omega) (Tnd_f hF g3' hfn) g2 (by rw [e4]; exact hX.2.2)
  rw [nI_0] at r1
  refine ⟨D2, ?_, r2, g3'.trans r3⟩
  simp only [P_X3_goBackTo, pureM_hp, ifB_t, ifB_f, decide_true, decide_false, ifB_hp, jn_hp, retZ_0, retZ_1, thn_some, cll0_w, cllV_w, getI_w, getL_w, getR_w, setI_w, setZ_w0, setZ_w1, setL_w, ald_w, ast_w, alen_w, aldR_2, aldR_3, aldR_4, aldR_22, cll0_pure, ↓reduceIte, if_true, if_false, Bool.false_eq_true, reduceCtorEq, and_true, true_and, and_false, false_and, ite_self, hn.1, g1, r1]
end BACKX
