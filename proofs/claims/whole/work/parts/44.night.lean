/-! Nights: the class. -/
section NIGHTX
variable {B : BT}
theorem up_self (g : Nat → Int32) (k : Nat) : upd g k (g k) = g := by
  funext t
  by_cases e : t = k <;> simp [upd, e]
def Tup (a : Nat) : Nat → Nat → Prop := fun b k => (b = a + 1 ∧ k = 63) ∨ (b = a + 2 ∧ k = 63)
theorem hbec_loop {a b : Nat} (ha : isHo a) (hb : isHo b) (hd : a + 2 < b ∨ b + 2 < a) (k : PM Unit) : ∀ (F n : Nat) (D : DT), n ≤ 6 → 6 - n < F → ∃ D', P_X1_become_2 k a b F (nI n) (hp B D) = k (hp B D') ∧ Off (Tup a) D D' ∧ (∀ t, n ≤ t → t < 6 → fG D' (a + 1) t = fG D (b + 1) t ∧ fG D' (a + 2) t = fG D (b + 2) t) ∧ ∀ t, t < n → fG D' (a + 1) t = fG D (a + 1) t ∧ fG D' (a + 2) t = fG D (a + 2) t := by
  intro F
  obtain ⟨a1, a2, a3, a4, a5, a6, a7⟩ := ha
  obtain ⟨b1, b2, b3, b4, b5, b6, b7⟩ := hb
  induction F with
  | zero => intro n D h1 h2; omega
  | succ F ih =>
    intro n D h1 h2
    have e6 : (6 : Int32) = nI 6 := rfl
    by_cases e : n = 6
    · refine ⟨D, ?_, Off.refl D, fun t q1 q2 => by omega, fun t _ => ⟨rfl, rfl⟩⟩
      simp only [P_X1_become_2, pureM_hp, ifB_t, ifB_f, decide_true, decide_false, ifB_hp, jn_hp, retZ_0, retZ_1, thn_some, cll0_w, cllV_w, getI_w, getL_w, getR_w, setI_w, setZ_w0, setZ_w1, setL_w, ald_w, ast_w, alen_w, aldR_2, aldR_3, aldR_4, aldR_22, cll0_pure, ↓reduceIte, if_true, if_false, Bool.false_eq_true, reduceCtorEq, and_true, true_and, and_false, false_and, ite_self, e6, a2, a3, a6, a7, b2, b3, b6, b7]
      rw [if_pos (by rw [e]; exact nI_le (Nat.le_refl _) (by omega))]
    · have hk : n < 6 := by omega
      have c : 0 ≤ (nI n).toInt ∧ (nI n).toInt < ((6 : Nat) : Int) := ixc hk (by omega)
      generalize hD1 : uG (uG D (a + 1) (upd (fG D (a + 1)) n (fG D (b + 1) n))) (a + 2) (upd (fG D (a + 2)) n (fG D (b + 2) n)) = D1
      obtain ⟨D2, g1, g2, g3, g4⟩ := ih (n + 1) D1 (by omega) (by omega)
      have p1 : fG D1 (a + 1) = upd (fG D (a + 1)) n (fG D (b + 1) n) := by rw [← hD1, fG_uG, if_neg (by omega), fG_uG, if_pos rfl]
      have p2 : fG D1 (a + 2) = upd (fG D (a + 2)) n (fG D (b + 2) n) := by rw [← hD1, fG_uG, if_pos rfl]
      have p3 : fG D1 (b + 1) = fG D (b + 1) := by rw [← hD1, fG_uG, if_neg (by omega), fG_uG, if_neg (by omega)]
      have p4 : fG D1 (b + 2) = fG D (b + 2) := by rw [← hD1, fG_uG, if_neg (by omega), fG_uG, if_neg (by omega)]
      refine ⟨D2, ?_, Off.trans ?_ g2, fun t q1 q2 => ?_, fun t q => ?_⟩
      · rw [← g1, ← hD1]
        simp only [P_X1_become_2, pureM_hp, ifB_t, ifB_f, decide_true, decide_false, ifB_hp, jn_hp, retZ_0, retZ_1, thn_some, cll0_w, cllV_w, getI_w, getL_w, getR_w, setI_w, setZ_w0, setZ_w1, setL_w, ald_w, ast_w, alen_w, aldR_2, aldR_3, aldR_4, aldR_22, cll0_pure, ↓reduceIte, if_true, if_false, Bool.false_eq_true, reduceCtorEq, and_true, true_and, and_false, false_and, ite_self, e6, a2, a3, a6, a7, b2, b3, b6, b7]
        rw [if_neg (nI_ge hk (by omega))]
        simp only [c, and_self, if_true, nI_clamp (show n < 2 ^ 31 by omega), nI_1, fG_uG, show ¬ b + 2 = a + 1 by omega, show ¬ a + 2 = a + 1 by omega, if_false]
      · rw [← hD1]
        exact ((Off.refl D).uG _ _ (Or.inl ⟨rfl, rfl⟩)).uG _ _ (Or.inr ⟨rfl, rfl⟩)
      · by_cases e1 : t = n
        · subst e1
          have := g4 t (by omega)
          rw [this.1, this.2, p1, p2]
          simp [upd]
        · have := g3 t (by omega) q2
          rw [this.1, this.2, p3, p4]
          exact ⟨rfl, rfl⟩
      · have := g4 t (by omega)
        rw [this.1, this.2, p1, p2]
        simp [upd, show ¬ t = n by omega]
theorem x_hbecome (D : DT) {a b : Nat} (ha : isHo a) (hb : isHo b) (hd : a + 2 < b ∨ b + 2 < a) : ∃ D', P_X1_become a b (hp B D) = some ((), hp B D') ∧ Off (Tho a) D D' ∧ ∀ m q H, m ≤ 6 → XH D b m q H → XH D' a m q H := by
  obtain ⟨D1, g1, g2, g3, g4⟩ := hbec_loop (B := B) ha hb hd (getI 1 2 b fun v1 => setI 1 2 a v1 <| getI 1 3 b fun v2 => setI 1 3 a v2 <| pureM ()) 4000 0 D (by omega) (by omega)
  rw [nI_0] at g1
  obtain ⟨a1, a2, a3, a4, a5, a6, a7⟩ := ha
  obtain ⟨b1, b2, b3, b4, b5, b6, b7⟩ := hb
  have i1 : ∀ x k, k ≠ 63 → fI D1 x k = fI D x k := fun x k hk => (g2.1 x k (fun h => by rcases h with h | h <;> exact hk h.2)).1
  refine ⟨uI (uI D1 a 2 (fI D b 2)) a 3 (fI D b 3), ?_, ?_, fun m q H hm h => ⟨?_, ?_, fun t ht => ?_, fun t ht => ?_⟩⟩
  · simp only [P_X1_become, jn_hp]
    rw [g1]
    simp only [pureM_hp, ifB_t, ifB_f, decide_true, decide_false, ifB_hp, jn_hp, retZ_0, retZ_1, thn_some, cll0_w, cllV_w, getI_w, getL_w, getR_w, setI_w, setZ_w0, setZ_w1, setL_w, ald_w, ast_w, alen_w, aldR_2, aldR_3, aldR_4, aldR_22, cll0_pure, ↓reduceIte, if_true, if_false, Bool.false_eq_true, reduceCtorEq, and_true, true_and, and_false, false_and, ite_self, a4, a5, b4, b5, fI_uI, i1 b 2 (by omega), i1 b 3 (by omega), show ¬ b = a by omega]
  · refine Off.uI (Off.uI (g2.mono (fun x k h => ?_)) _ _ _ (Or.inl ⟨rfl, Or.inl rfl⟩)) _ _ _ (Or.inl ⟨rfl, Or.inr rfl⟩)
    exact Or.inr h
  · rw [fI_uI, if_neg (by omega), fI_uI, if_pos ⟨rfl, rfl⟩]; exact h.1
  · rw [fI_uI, if_pos ⟨rfl, rfl⟩]; exact h.2.1
  · rw [fG_uI, fG_uI, (g3 t (by omega) ht).1]; exact h.2.2.1 t ht
  · rw [fG_uI, fG_uI, (g3 t (by omega) (by omega)).2]; exact h.2.2.2 t ht
theorem nbec_loop {a b : Nat} (ha : isNi a) (hb : isNi b) (hd : a + 4 < b ∨ b + 4 < a) (k : PM Unit) : ∀ (F n : Nat) (D : DT), n ≤ 40 → 40 - n < F → P_X3_become_13 k a b F (nI n) (hp B D) = k (hp B (uG D (a + 4) (fun t => if n ≤ t ∧ t < 40 then fG D (b + 4) t else fG D (a + 4) t))) := by
  intro F
  obtain ⟨a1, a2, a3, a4, a5, a6, a7, a8, a9, a10⟩ := ha
  obtain ⟨b1, b2, b3, b4, b5, b6, b7, b8, b9, b10⟩ := hb
  induction F with
  | zero => intro n D h1 h2; omega
  | succ F ih =>
    intro n D h1 h2
    have e6 : (40 : Int32) = nI 40 := rfl
    simp only [P_X3_become_13, pureM_hp, ifB_t, ifB_f, decide_true, decide_false, ifB_hp, jn_hp, retZ_0, retZ_1, thn_some, cll0_w, cllV_w, getI_w, getL_w, getR_w, setI_w, setZ_w0, setZ_w1, setL_w, ald_w, ast_w, alen_w, aldR_2, aldR_3, aldR_4, aldR_22, cll0_pure, ↓reduceIte, if_true, if_false, Bool.false_eq_true, reduceCtorEq, and_true, true_and, and_false, false_and, ite_self, a3, a9, b3, b9, e6]
    by_cases e : n = 40
    · subst e
      rw [if_pos (nI_le (Nat.le_refl _) (by omega))]
      have : (fun t => if 40 ≤ t ∧ t < 40 then fG D (b + 4) t else fG D (a + 4) t) = fG D (a + 4) := by
        funext t
        rw [if_neg (by omega)]
      rw [this, uG_self]
    · have hk : n < 40 := by omega
      have c : 0 ≤ (nI n).toInt ∧ (nI n).toInt < ((40 : Nat) : Int) := ixc hk (by omega)
      rw [if_neg (nI_ge hk (by omega))]
      simp only [c, and_self, if_true, nI_clamp (show n < 2 ^ 31 by omega), nI_1]
      rw [ih (n + 1) _ (by omega) (by omega), uG_uG]
      congr 3
      funext t
      simp only [fG_uG, if_true, show ¬ b + 4 = a + 4 by omega, if_false, upd]
      by_cases e1 : t = n
      · subst e1
        rw [if_neg (by omega), if_pos rfl, if_pos (by omega)]
      · by_cases e2 : n ≤ t ∧ t < 40
        · rw [if_pos (by omega), if_pos e2]
        · rw [if_neg (by omega), if_neg e1, if_neg e2]
/-- the cells of a night, but its deeds and whether it is there -/
def Tni (n : Nat) : Nat → Nat → Prop := fun x k => (x = n ∧ 2 ≤ k ∧ k ≤ 5) ∨ (n + 1 ≤ x ∧ x ≤ n + 3)
def Tnd (n : Nat) : Nat → Nat → Prop := fun x k => (x = n ∧ 2 ≤ k ∧ k ≤ 5) ∨ (n + 1 ≤ x ∧ x ≤ n + 4)
theorem Tni_d {n x k : Nat} (h : Tni n x k) : Tnd n x k := by unfold Tni at h; unfold Tnd; omega
theorem Tho_n {n x k : Nat} (h : Tho (n + 1) x k) : Tni n x k := by unfold Tho at h; unfold Tni; omega
theorem Tho_f {f a m : Nat} {D D' : DT} {q : QT} (h : XF D f m q) (o : Off (Tho a) D D') (hfa : f + 4 < a) : XF D' f m q := h.off o (by unfold Tho; omega) (fun k q1 q2 => by unfold Tho; omega)
theorem Tnd_f {f a m : Nat} {D D' : DT} {q : QT} (h : XF D f m q) (o : Off (Tnd a) D D') (hfa : f + 4 < a) : XF D' f m q := h.off o (by unfold Tnd; omega) (fun k q1 q2 => by unfold Tnd; omega)
theorem x_nbecome (D : DT) {a b : Nat} (ha : isNi a) (hb : isNi b) (hd : a + 4 < b ∨ b + 4 < a) : ∃ D', P_X3_become a b (hp B D) = some ((), hp B D') ∧ Off (Tnd a) D D' ∧ ∀ m q s c ds, m ≤ 6 → ds.length ≤ 40 → XNi D b m q s c ds → XNi D' a m q s c ds := by
  obtain ⟨D1, g1, g2, g3⟩ := x_hbecome (B := B) D ha.2.2.2.2.2.2.2.2.2 hb.2.2.2.2.2.2.2.2.2 (by omega)
  have nl := fun k D => nbec_loop (B := B) ha hb hd k 4000 0 D (by omega) (by omega)
  rw [nI_0] at nl
  obtain ⟨a1, a2, a3, a4, a5, a6, a7, a8, a9, a10⟩ := ha
  obtain ⟨b1, b2, b3, b4, b5, b6, b7, b8, b9, b10⟩ := hb
  generalize hG : (fun t => if 0 ≤ t ∧ t < 40 then fG D1 (b + 4) t else fG D1 (a + 4) t) = G
  have i1 : ∀ k, fI D1 b k = fI D b k := fun k => (g2.1 b k (by unfold Tho; omega)).1
  have e4 : fG D1 (b + 4) = fG D (b + 4) := g2.2 (b + 4) (by unfold Tho; omega)
  refine ⟨uI (uI (uI (uI (uG D1 (a + 4) G) a 2 (fI D b 2)) a 3 (fI D b 3)) a 4 (fI D b 4)) a 5 (fI D b 5), ?_, ?_, fun m q s c ds hm hl h => ⟨⟨?_, ?_, ?_, ?_⟩, ?_, fun k hk => ?_⟩⟩
  · simp only [P_X3_become, pureM_hp, ifB_t, ifB_f, decide_true, decide_false, ifB_hp, jn_hp, retZ_0, retZ_1, thn_some, cll0_w, cllV_w, getI_w, getL_w, getR_w, setI_w, setZ_w0, setZ_w1, setL_w, ald_w, ast_w, alen_w, aldR_2, aldR_3, aldR_4, aldR_22, cll0_pure, ↓reduceIte, if_true, if_false, Bool.false_eq_true, reduceCtorEq, and_true, true_and, and_false, false_and, ite_self, a2, b2, a10.1, g1, nl, hG, a4, a5, a6, a7, b4, b5, b6, b7, fI_uI, fI_uG, i1, show ¬ b = a by omega]
  · refine Off.uI (Off.uI (Off.uI (Off.uI (Off.uG (g2.mono (fun x k h => Tni_d (Tho_n h))) _ _ ?_) _ _ _ ?_) _ _ _ ?_) _ _ _ ?_) _ _ _ ?_ <;> (unfold Tnd; omega)
  · have h1 := g3 m q _ hm h.1.1
    refine h1.off (T := fun x k => (x = a ∧ 2 ≤ k ∧ k ≤ 5) ∨ x = a + 4) ?_ (by omega) (by omega) (by omega) (by omega)
    refine Off.uI (Off.uI (Off.uI (Off.uI (Off.uG (Off.refl D1) _ _ ?_) _ _ _ ?_) _ _ _ ?_) _ _ _ ?_) _ _ _ ?_ <;> omega
  · rw [fI_uI, if_neg (by omega), fI_uI, if_neg (by omega), fI_uI, if_pos ⟨rfl, rfl⟩]; exact h.1.2.1
  · rw [fI_uI, if_neg (by omega), fI_uI, if_pos ⟨rfl, rfl⟩]; exact h.1.2.2.1
  · rw [fI_uI, if_pos ⟨rfl, rfl⟩]; exact h.1.2.2.2
  · rw [fI_uI, if_neg (by omega), fI_uI, if_neg (by omega), fI_uI, if_neg (by omega), fI_uI, if_pos ⟨rfl, rfl⟩]; exact h.2.1
  · rw [fG_uI, fG_uI, fG_uI, fG_uI, fG_uG, if_pos rfl, ← hG]
    show (if 0 ≤ k ∧ k < 40 then _ else _) = _
    rw [if_pos (by omega), e4]
    exact h.2.2 k hk
theorem x_hbegin {D : DT} {a f m : Nat} {q : QT} {s : Int32} (ha : isHo a) (hf : isFo f) (hfa : f + 4 < a) (hF : XF D f m q) (hs : fI D f 5 = s) (hm6 : m ≤ 6) (hv : QV m q) : ∃ D', P_X1_begin a f (hp B D) = some ((), hp B D') ∧ XH D' a m q (s, 0, fun _ => 0) ∧ Off (Tho a) D D' := by
  generalize hD1 : uI (uI (uG D (a + 1) (fun j => if j < 6 then 0 else fG D (a + 1) j)) a 2 s) a 3 0 = D1
  have e3 : fI D1 a 3 = nI 0 := by rw [← hD1, fI_uI, if_pos ⟨rfl, rfl⟩]; rfl
  have li := x_listen (B := B) ha hf hfa e3 (by omega)
  have o : Off (Tho a) D D1 := by
    rw [← hD1]
    exact (((Off.refl D).uG _ _ (Or.inr (Or.inl ⟨rfl, rfl⟩))).uI _ _ _ (Or.inl ⟨rfl, Or.inl rfl⟩)).uI _ _ _ (Or.inl ⟨rfl, Or.inr rfl⟩)
  have hF1 : XF D1 f m q := Tho_f hF o hfa
  have e1 : ∀ t, t < 6 → fG D1 (a + 1) t = 0 := fun t ht => by
    rw [← hD1, fG_uI, fG_uI, fG_uG, if_pos rfl]
    show (if t < 6 then _ else _) = _
    rw [if_pos ht]
  refine ⟨uG D1 (a + 2) (fun t => if t < 6 then xtls (fG D1 (f + 1) t) (fG D1 (f + 2) t) (fG D1 (f + 3) t) (fG D1 (a + 1) t) (fI D1 a 3 % 12) else fG D1 (a + 2) t), ?_, ⟨?_, ?_, fun t h6 => ?_, fun t hm => ?_⟩, ?_⟩
  · simp only [P_X1_begin, pureM_hp, ifB_t, ifB_f, decide_true, decide_false, ifB_hp, jn_hp, retZ_0, retZ_1, thn_some, cll0_w, cllV_w, getI_w, getL_w, getR_w, setI_w, setZ_w0, setZ_w1, setL_w, ald_w, ast_w, alen_w, aldR_2, aldR_3, aldR_4, aldR_22, cll0_pure, ↓reduceIte, if_true, if_false, Bool.false_eq_true, reduceCtorEq, and_true, true_and, and_false, false_and, ite_self, ha.1, ha.2.1, ha.2.2.2.1, ha.2.2.2.2.1, hf.2.2.2.2.2.2.1, fill_hp ha.2.2.2.2.2.1 (show 6 ≤ 1000 by omega), fI_uG, hs, hD1, li]
  · rw [fI_uG, ← hD1, fI_uI, if_neg (by omega), fI_uI, if_pos ⟨rfl, rfl⟩]
  · rw [fI_uG, e3]; rfl
  · rw [fG_uG, if_neg (by omega)]; exact e1 t h6
  · rw [fG_uG, if_pos rfl]
    show (if t < 6 then _ else _) = _
    rw [if_pos (by omega), (hF1.2 t (by omega)).1, (hF1.2 t (by omega)).2.1, (hF1.2 t (by omega)).2.2.1, e1 t (by omega), e3]
    exact tld_x (H := (s, 0, fun _ => 0)) hv hm
  · exact o.uG _ _ (Or.inr (Or.inr ⟨rfl, rfl⟩))
theorem x_nbegin {D : DT} {n f m : Nat} {q : QT} {s c : Int32} (hn : isNi n) (hf : isFo f) (hfn : f + 4 < n) (hF : XF D f m q) (hs : fI D f 5 = s) (hc : fI D f 6 = c) (hm6 : m ≤ 6) (hv : QV m q) : ∃ D', P_X3_begin n f (hp B D) = some ((), hp B D') ∧ XNi D' n m q s c [] ∧ Off (Tni n) D D' := by
  obtain ⟨D1, g1, g2, g3⟩ := x_hbegin (B := B) hn.2.2.2.2.2.2.2.2.2 hf (by omega) hF hs hm6 hv
  obtain ⟨a1, a2, a3, a4, a5, a6, a7, a8, a9, a10⟩ := hn
  have i1 : fI D1 f 6 = c := by rw [(g3.1 f 6 (by unfold Tho; omega)).1, hc]
  refine ⟨uI (uI (uI (uI D1 n 2 0) n 3 c) n 4 0) n 5 0, ?_, ⟨⟨?_, ?_, ?_, ?_⟩, ?_, fun k hk => ?_⟩, ?_⟩
  · simp only [P_X3_begin, pureM_hp, ifB_t, ifB_f, decide_true, decide_false, ifB_hp, jn_hp, retZ_0, retZ_1, thn_some, cll0_w, cllV_w, getI_w, getL_w, getR_w, setI_w, setZ_w0, setZ_w1, setL_w, ald_w, ast_w, alen_w, aldR_2, aldR_3, aldR_4, aldR_22, cll0_pure, ↓reduceIte, if_true, if_false, Bool.false_eq_true, reduceCtorEq, and_true, true_and, and_false, false_and, ite_self, a2, a10.1, g1, a4, a5, a6, a7, hf.2.2.2.2.2.2.2.1, fI_uI, show ¬ f = n by omega, i1]
  · refine g2.off (T := fun x k => (x = n ∧ 2 ≤ k ∧ k ≤ 5)) ?_ (by omega) (by omega) (by omega) (by omega)
    refine Off.uI (Off.uI (Off.uI (Off.uI (Off.refl D1) _ _ _ ?_) _ _ _ ?_) _ _ _ ?_) _ _ _ ?_ <;> omega
  · rw [fI_uI, if_neg (by omega), fI_uI, if_neg (by omega), fI_uI, if_pos ⟨rfl, rfl⟩]; rfl
  · rw [fI_uI, if_neg (by omega), fI_uI, if_pos ⟨rfl, rfl⟩]; rfl
  · rw [fI_uI, if_pos ⟨rfl, rfl⟩]; rfl
  · rw [fI_uI, if_neg (by omega), fI_uI, if_neg (by omega), fI_uI, if_neg (by omega), fI_uI, if_pos ⟨rfl, rfl⟩]; rfl
  · exact absurd hk (by simp)
  · refine Off.uI (Off.uI (Off.uI (Off.uI (g3.mono (fun x k h => Tho_n h)) _ _ _ ?_) _ _ _ ?_) _ _ _ ?_) _ _ _ ?_ <;> (unfold Tni; omega)
end NIGHTX
