/-! What a bridge is, in numbers; and what ties the class's cells to the reference's. -/
def maxI (a b : Int32) : Int32 := if a < b then b else a
def minI (a b : Int32) : Int32 := if b < a then b else a
/-- people: kinds, how lively, how long they last, with whom they quarrel -/
abbrev QT : Type := (Nat → Int32) × (Nat → Int32) × (Nat → Int32) × (Nat → Int32)
/-- strength, hours, how long up -/
abbrev HT : Type := Int32 × Int32 × (Nat → Int32)
/-- that, coffee, loads that crossed, that fell -/
abbrev NT : Type := HT × Int32 × Int32 × Int32
def tlk (lv ls up : Int32) : Int32 := maxI 0 (lv - 2 * maxI 0 (up - ls))
def tls (kd lv ls up hr : Int32) : Int32 :=
  if kd = 1 then tlk lv ls up / 2 else if kd = 2 then (if hr < 4 then tlk lv ls up + 2 else tlk lv ls up) else if kd = 3 then (if hr < 3 then tlk lv ls up + 3 else 0) else if kd = 4 then maxI 0 (tlk lv ls up / 2 - 1) else if kd = 5 then (if hr < 4 then lv + 2 else lv) else tlk lv ls up
def tld (q : QT) (H : HT) (i : Nat) : Int32 := tls (q.1 i) (q.2.1 i) (q.2.2.1 i) (H.2.2 i) (H.2.1 % 12)
def bit (x : Int32) (j : Nat) : Bool := decide ((x >>> (nI j &&& 31)) &&& 1 = 1)
def bth (q : QT) (H : HT) (i j : Nat) : Int32 := tld q H i + tld q H j - (if bit (q.2.2.2 i) j = true then 3 else 0)
def tk (q : QT) (H : HT) (i j : Nat) : Int32 := if q.1 i = 4 ∨ q.1 j = 4 then maxI 0 (bth q H i j) / 2 else maxI 0 (bth q H i j)
def wst (q : QT) (H : HT) (i j : Nat) : Int32 := minI 60 (H.1 / 2 + tk q H i j)
def wat (q : QT) (H : HT) (i j : Nat) : HT := (wst q H i j, H.2.1 + 1, fun k => if k = i ∨ k = j then minI 30 (H.2.2 k + 1) else maxI 0 (H.2.2 k - 2))
/-- deeds by one number: a watch 10 i + j, a load 100 + v, coffee 200 + i -/
def dd (q : QT) (N : NT) (c : Nat) : NT :=
  if 200 ≤ c then ((N.1.1, N.1.2.1, fun k => if k = c - 200 then 0 else N.1.2.2 k), N.2.1 - 1, N.2.2)
  else if 100 ≤ c then (if nI (c - 100) ≤ N.1.1 then (N.1, N.2.1, N.2.2.1 + 1, N.2.2.2) else ((0, N.1.2), N.2.1, N.2.2.1, N.2.2.2 + 1))
  else (wat q N.1 (c / 10) (c % 10), N.2)
def dOK (m c : Nat) : Prop := (c < 100 ∧ c / 10 < m ∧ c % 10 < m ∧ c / 10 ≠ c % 10) ∨ (100 ≤ c ∧ c ≤ 160) ∨ (200 ≤ c ∧ c < 200 + m)
def ini (s c : Int32) : NT := ((s, 0, fun _ => 0), c, 0, 0)
def runs (q : QT) (s c : Int32) (ds : List Nat) : NT := ds.foldl (dd q) (ini s c)
/-! ties -/
abbrev wv (D : DT) : Nat → Int32 := fG D 79
def RowI (D : DT) (r : Nat) : Prop := (fI D (39 + 2 * r) 3 = 0 ∧ fG D 76 r = -1) ∨ (fI D (39 + 2 * r) 3 = 1 ∧ ∃ n, n ≤ 40 ∧ fI D (39 + 2 * r) 2 = nI n ∧ fG D 76 r = nI n ∧ ∀ j, j < n → fG D (40 + 2 * r) j = fG D 75 (40 * r + j))
def TxtI (D : DT) (r : Nat) : Prop := (fI D (51 + 2 * r) 3 = 0 ∧ fG D 78 r = -1) ∨ (fI D (51 + 2 * r) 3 = 1 ∧ ∃ n, n ≤ 60 ∧ fI D (51 + 2 * r) 2 = nI n ∧ fG D 78 r = nI n ∧ ∀ j, j < n → fG D (52 + 2 * r) j = fG D 77 (60 * r + j))
def FindI (D : DT) : Prop := fI D 1 9 = fI D 74 12 ∧ ∀ f, 1 ≤ f → f ≤ 5 → fG D 38 f = fG D 85 f
def AskI (D : DT) : Prop := fI D 1 10 = fI D 74 14 ∧ fL D 1 11 = fL D 74 15 ∧ fL D 1 12 = fL D 74 16
/-- people of the class, at f -/
def XF (D : DT) (f m : Nat) (q : QT) : Prop := fI D f 4 = nI m ∧ ∀ k, k < 6 → fG D (f + 1) k = q.1 k ∧ fG D (f + 2) k = q.2.1 k ∧ fG D (f + 3) k = q.2.2.1 k ∧ fG D (f + 4) k = q.2.2.2 k
/-- people of the reference -/
def MF (D : DT) (m : Nat) (q : QT) : Prop := fI D 74 10 = nI m ∧ ∀ k, k < m → fG D 81 k = q.1 k ∧ fG D 82 k = q.2.1 k ∧ fG D 83 k = q.2.2.1 k ∧ fG D 84 k = q.2.2.2 k
def QV (m : Nat) (q : QT) : Prop := ∀ k, k < m → (∃ a, a ≤ 5 ∧ q.1 k = nI a) ∧ (∃ a, a ≤ 9 ∧ q.2.1 k = nI a) ∧ (∃ a, a ≤ 9 ∧ q.2.2.1 k = nI a)
/-- a hold of the class -/
def XH (D : DT) (a m : Nat) (q : QT) (H : HT) : Prop := fI D a 2 = H.1 ∧ fI D a 3 = H.2.1 ∧ (∀ k, k < 6 → fG D (a + 1) k = H.2.2 k) ∧ ∀ k, k < m → fG D (a + 2) k = tld q H k
/-- eleven places of the reference's w -/
def MH (D : DT) (x : Nat) (H : HT) : Prop := wv D x = H.1 ∧ wv D (x + 2) = H.2.1 ∧ ∀ k, k < 6 → wv D (x + 5 + k) = H.2.2 k
def MN (D : DT) (x : Nat) (N : NT) : Prop := MH D x N.1 ∧ wv D (x + 1) = N.2.1 ∧ wv D (x + 3) = N.2.2.1 ∧ wv D (x + 4) = N.2.2.2
def XN (D : DT) (n m : Nat) (q : QT) (N : NT) : Prop := XH D (n + 1) m q N.1 ∧ fI D n 3 = N.2.1 ∧ fI D n 4 = N.2.2.1 ∧ fI D n 5 = N.2.2.2
def XNi (D : DT) (n m : Nat) (q : QT) (s c : Int32) (ds : List Nat) : Prop := XN D n m q (runs q s c ds) ∧ fI D n 2 = nI ds.length ∧ ∀ k (h : k < ds.length), fG D (n + 4) k = nI ds[k]
def MNi (D : DT) (x m : Nat) (q : QT) (s c : Int32) (ds : List Nat) : Prop := MN D x (runs q s c ds) ∧ ∀ k, k < ds.length → MN D (x + 22 + 11 * k) (runs q s c (ds.take k))
def DsV (m : Nat) (c : Int32) (ds : List Nat) : Prop := ds.length ≤ 40 ∧ (∀ e ∈ ds, dOK m e) ∧ ∃ a, a ≤ 9 ∧ c = nI a ∧ ds.countP (fun e => decide (200 ≤ e)) ≤ a
def KeptI (D : DT) (m : Nat) (q : QT) (s c : Int32) (k : Nat) : Prop := (fI D (59 + 5 * k) 6 = 0 ∧ fG D 80 k = -1) ∨ (fI D (59 + 5 * k) 6 = 1 ∧ ∃ ds, DsV m c ds ∧ XNi D (59 + 5 * k) m q s c ds ∧ MNi D (462 * (k + 1)) m q s c ds ∧ fG D 80 k = nI ds.length)
def FolkI (D : DT) (m : Nat) (q : QT) (s c : Int32) : Prop := (m = 0 ∨ 2 ≤ m) ∧ m ≤ 6 ∧ XF D 5 m q ∧ MF D m q ∧ QV m q ∧ fI D 5 5 = s ∧ fI D 5 6 = c ∧ (∃ a, a ≤ 40 ∧ s = nI a) ∧ (∃ a, a ≤ 9 ∧ c = nI a)
def BriI (D : DT) (m : Nat) (q : QT) (s c : Int32) (ds : List Nat) : Prop := FolkI D m q s c ∧ DsV m c ds ∧ XNi D 16 m q s c ds ∧ MNi D 0 m q s c ds ∧ fI D 74 11 = nI ds.length ∧ ∀ k, k < 3 → KeptI D m q s c k
def Inv (D : DT) : Prop := (∀ r, r < 6 → RowI D r) ∧ (∀ t, t < 4 → TxtI D t) ∧ FindI D ∧ AskI D ∧ ∃ m q s c ds, BriI D m q s c ds
/-- off T nothing changes; an array's place is 63 -/
def Off (T : Nat → Nat → Prop) (D D' : DT) : Prop := (∀ a k, ¬ T a k → fI D' a k = fI D a k ∧ fL D' a k = fL D a k) ∧ ∀ a, ¬ T a 63 → fG D' a = fG D a
theorem Off.refl {T : Nat → Nat → Prop} (D : DT) : Off T D D := ⟨fun _ _ _ => ⟨rfl, rfl⟩, fun _ _ => rfl⟩
theorem Off.trans {T : Nat → Nat → Prop} {D D1 D2 : DT} (h1 : Off T D D1) (h2 : Off T D1 D2) : Off T D D2 :=
  ⟨fun a k h => ⟨((h2.1 a k h).1).trans (h1.1 a k h).1, ((h2.1 a k h).2).trans (h1.1 a k h).2⟩, fun a h => (h2.2 a h).trans (h1.2 a h)⟩
theorem Off.mono {T T' : Nat → Nat → Prop} {D D' : DT} (h : Off T D D') (hT : ∀ a k, T a k → T' a k) : Off T' D D' := ⟨fun a k q => h.1 a k (fun z => q (hT a k z)), fun a q => h.2 a (fun z => q (hT a 63 z))⟩
theorem Off.uI {T : Nat → Nat → Prop} {D D' : DT} (h : Off T D D') (a k : Nat) (v : Int32) (hT : T a k) : Off T D (uI D' a k v) :=
  ⟨fun b j q => ⟨by rw [fI_uI, if_neg (fun e => q (by rw [e.1, e.2]; exact hT))]; exact (h.1 b j q).1, by rw [fL_uI]; exact (h.1 b j q).2⟩, fun b q => by rw [fG_uI]; exact h.2 b q⟩
theorem Off.uL {T : Nat → Nat → Prop} {D D' : DT} (h : Off T D D') (a k : Nat) (v : Int64) (hT : T a k) : Off T D (uL D' a k v) :=
  ⟨fun b j q => ⟨by rw [fI_uL]; exact (h.1 b j q).1, by rw [fL_uL, if_neg (fun e => q (by rw [e.1, e.2]; exact hT))]; exact (h.1 b j q).2⟩, fun b q => by rw [fG_uL]; exact h.2 b q⟩
theorem Off.uG {T : Nat → Nat → Prop} {D D' : DT} (h : Off T D D') (a : Nat) (g : Nat → Int32) (hT : T a 63) : Off T D (uG D' a g) :=
  ⟨fun b j q => ⟨by rw [fI_uG]; exact (h.1 b j q).1, by rw [fL_uG]; exact (h.1 b j q).2⟩, fun b q => by rw [fG_uG, if_neg (fun e => q (by rw [e]; exact hT))]; exact h.2 b q⟩
/-! each tie stands where its cells stand -/
theorem RowI.off {T : Nat → Nat → Prop} {D D' : DT} {r : Nat} (h : RowI D r) (o : Off T D D') (h1 : ¬ T (39 + 2 * r) 2) (h2 : ¬ T (39 + 2 * r) 3) (h3 : ¬ T (40 + 2 * r) 63) (h4 : ¬ T 75 63) (h5 : ¬ T 76 63) : RowI D' r := by
  unfold RowI
  rw [(o.1 _ _ h1).1, (o.1 _ _ h2).1, o.2 _ h3, o.2 _ h4, o.2 _ h5]
  exact h
theorem TxtI.off {T : Nat → Nat → Prop} {D D' : DT} {r : Nat} (h : TxtI D r) (o : Off T D D') (h1 : ¬ T (51 + 2 * r) 2) (h2 : ¬ T (51 + 2 * r) 3) (h3 : ¬ T (52 + 2 * r) 63) (h4 : ¬ T 77 63) (h5 : ¬ T 78 63) : TxtI D' r := by
  unfold TxtI
  rw [(o.1 _ _ h1).1, (o.1 _ _ h2).1, o.2 _ h3, o.2 _ h4, o.2 _ h5]
  exact h
theorem FindI.off {T : Nat → Nat → Prop} {D D' : DT} (h : FindI D) (o : Off T D D') (h1 : ¬ T 1 9) (h2 : ¬ T 74 12) (h3 : ¬ T 38 63) (h4 : ¬ T 85 63) : FindI D' := by
  unfold FindI
  rw [(o.1 _ _ h1).1, (o.1 _ _ h2).1, o.2 _ h3, o.2 _ h4]
  exact h
theorem AskI.off {T : Nat → Nat → Prop} {D D' : DT} (h : AskI D) (o : Off T D D') (h1 : ¬ T 1 10) (h2 : ¬ T 74 14) (h3 : ¬ T 1 11) (h4 : ¬ T 74 15) (h5 : ¬ T 1 12) (h6 : ¬ T 74 16) : AskI D' := by
  unfold AskI
  rw [(o.1 _ _ h1).1, (o.1 _ _ h2).1, (o.1 _ _ h3).2, (o.1 _ _ h4).2, (o.1 _ _ h5).2, (o.1 _ _ h6).2]
  exact h
theorem XF.off {T : Nat → Nat → Prop} {D D' : DT} {f m : Nat} {q : QT} (h : XF D f m q) (o : Off T D D') (h1 : ¬ T f 4) (h2 : ∀ k, 1 ≤ k → k ≤ 4 → ¬ T (f + k) 63) : XF D' f m q := by
  unfold XF
  rw [(o.1 _ _ h1).1, o.2 _ (h2 1 (by omega) (by omega)), o.2 _ (h2 2 (by omega) (by omega)), o.2 _ (h2 3 (by omega) (by omega)), o.2 _ (h2 4 (by omega) (by omega))]
  exact h
theorem MF.off {T : Nat → Nat → Prop} {D D' : DT} {m : Nat} {q : QT} (h : MF D m q) (o : Off T D D') (h1 : ¬ T 74 10) (h2 : ∀ a, 81 ≤ a → a ≤ 84 → ¬ T a 63) : MF D' m q := by
  unfold MF
  rw [(o.1 _ _ h1).1, o.2 _ (h2 81 (by omega) (by omega)), o.2 _ (h2 82 (by omega) (by omega)), o.2 _ (h2 83 (by omega) (by omega)), o.2 _ (h2 84 (by omega) (by omega))]
  exact h
theorem XH.off {T : Nat → Nat → Prop} {D D' : DT} {a m : Nat} {q : QT} {H : HT} (h : XH D a m q H) (o : Off T D D') (h1 : ¬ T a 2) (h2 : ¬ T a 3) (h3 : ¬ T (a + 1) 63) (h4 : ¬ T (a + 2) 63) : XH D' a m q H := by
  unfold XH
  rw [(o.1 _ _ h1).1, (o.1 _ _ h2).1, o.2 _ h3, o.2 _ h4]
  exact h
theorem XN.off {T : Nat → Nat → Prop} {D D' : DT} {n m : Nat} {q : QT} {N : NT} (h : XN D n m q N) (o : Off T D D') (h1 : ∀ a k, n ≤ a → a ≤ n + 4 → (k ≤ 5 ∨ k = 63) → ¬ T a k) : XN D' n m q N := by
  unfold XN
  rw [(o.1 n 3 (h1 _ _ (by omega) (by omega) (by omega))).1, (o.1 n 4 (h1 _ _ (by omega) (by omega) (by omega))).1, (o.1 n 5 (h1 _ _ (by omega) (by omega) (by omega))).1]
  exact ⟨h.1.off o (h1 _ _ (by omega) (by omega) (by omega)) (h1 _ _ (by omega) (by omega) (by omega)) (h1 _ _ (by omega) (by omega) (by omega)) (h1 _ _ (by omega) (by omega) (by omega)), h.2⟩
theorem XNi.off {T : Nat → Nat → Prop} {D D' : DT} {n m : Nat} {q : QT} {s c : Int32} {ds : List Nat} (h : XNi D n m q s c ds) (o : Off T D D') (h1 : ∀ a k, n ≤ a → a ≤ n + 4 → (k ≤ 5 ∨ k = 63) → ¬ T a k) : XNi D' n m q s c ds := by
  unfold XNi
  rw [(o.1 n 2 (h1 _ _ (by omega) (by omega) (by omega))).1, o.2 (n + 4) (h1 _ _ (by omega) (by omega) (by omega))]
  exact ⟨h.1.off o h1, h.2⟩
theorem MNi.off {T : Nat → Nat → Prop} {D D' : DT} {x m : Nat} {q : QT} {s c : Int32} {ds : List Nat} (h : MNi D x m q s c ds) (o : Off T D D') (h1 : ¬ T 79 63) : MNi D' x m q s c ds := by
  unfold MNi MN MH wv
  rw [o.2 _ h1]
  exact h
theorem KeptI.off {T : Nat → Nat → Prop} {D D' : DT} {m : Nat} {q : QT} {s c : Int32} {k : Nat} (h : KeptI D m q s c k) (o : Off T D D') (h1 : ∀ a j, 59 + 5 * k ≤ a → a ≤ 59 + 5 * k + 4 → (j ≤ 6 ∨ j = 63) → ¬ T a j) (h2 : ¬ T 79 63) (h3 : ¬ T 80 63) : KeptI D' m q s c k := by
  unfold KeptI
  rw [(o.1 _ _ (h1 (59 + 5 * k) 6 (by omega) (by omega) (by omega))).1, o.2 _ h3]
  rcases h with h | ⟨h, ds, g1, g2, g3, g4⟩
  · exact Or.inl h
  · exact Or.inr ⟨h, ds, g1, g2.off o (fun a j q1 q2 q3 => h1 a j q1 q2 (by omega)), g3.off o h2, g4⟩
theorem FolkI.off {T : Nat → Nat → Prop} {D D' : DT} {m : Nat} {q : QT} {s c : Int32} (h : FolkI D m q s c) (o : Off T D D') (h1 : ∀ a j, 5 ≤ a → a ≤ 9 → ¬ T a j) (h2 : ¬ T 74 10) (h3 : ∀ a, 81 ≤ a → a ≤ 84 → ¬ T a 63) : FolkI D' m q s c := by
  obtain ⟨g1, g2, g3, g4, g5, g6, g7, g8⟩ := h
  exact ⟨g1, g2, g3.off o (h1 _ _ (by omega) (by omega)) (fun k q1 q2 => h1 _ _ (by omega) (by omega)), g4.off o h2 h3, g5, by rw [(o.1 _ _ (h1 5 5 (by omega) (by omega))).1]; exact g6, by rw [(o.1 _ _ (h1 5 6 (by omega) (by omega))).1]; exact g7, g8⟩
/-- no cell of the bridge -/
def NoBri (T : Nat → Nat → Prop) : Prop := (∀ a j, 5 ≤ a → a ≤ 9 → ¬ T a j) ∧ (∀ a j, 16 ≤ a → a ≤ 20 → ¬ T a j) ∧ (∀ a j, 59 ≤ a → a ≤ 73 → ¬ T a j) ∧ ¬ T 74 10 ∧ ¬ T 74 11 ∧ (∀ a, 79 ≤ a → a ≤ 84 → ¬ T a 63)
theorem BriI.off {T : Nat → Nat → Prop} {D D' : DT} {m : Nat} {q : QT} {s c : Int32} {ds : List Nat} (h : BriI D m q s c ds) (o : Off T D D') (hT : NoBri T) : BriI D' m q s c ds := by
  obtain ⟨t1, t2, t3, t4, t5, t6⟩ := hT
  obtain ⟨g1, g2, g3, g4, g5, g6⟩ := h
  exact ⟨g1.off o t1 t4 (fun a q1 q2 => t6 a (by omega) (by omega)), g2, g3.off o (fun a k q1 q2 _ => t2 a k (by omega) (by omega)), g4.off o (t6 79 (by omega) (by omega)), by rw [(o.1 _ _ t5).1]; exact g5, fun k hk => (g6 k hk).off o (fun a j q1 q2 _ => t3 a j (by omega) (by omega)) (t6 79 (by omega) (by omega)) (t6 80 (by omega) (by omega))⟩
