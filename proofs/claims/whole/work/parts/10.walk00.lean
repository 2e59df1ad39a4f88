/-! Programs and walks, printed by program (gen.py). -/
theorem dX0_init_0 : decode cX0_init 0 = .ok (.aload_n 0, 1) := by decide +kernel
theorem dX0_init_1 : decode cX0_init 1 = .ok (.invokespecial 3, 3) := by decide +kernel
theorem dX0_init_4 : decode cX0_init 4 = .ok (.aload_n 0, 1) := by decide +kernel
theorem dX0_init_5 : decode cX0_init 5 = .ok (.bipush 6, 2) := by decide +kernel
theorem dX0_init_7 : decode cX0_init 7 = .ok (.newarray .int, 2) := by decide +kernel
theorem dX0_init_9 : decode cX0_init 9 = .ok (.putfield 11, 3) := by decide +kernel
theorem dX0_init_12 : decode cX0_init 12 = .ok (.aload_n 0, 1) := by decide +kernel
theorem dX0_init_13 : decode cX0_init 13 = .ok (.bipush 6, 2) := by decide +kernel
theorem dX0_init_15 : decode cX0_init 15 = .ok (.newarray .int, 2) := by decide +kernel
theorem dX0_init_17 : decode cX0_init 17 = .ok (.putfield 15, 3) := by decide +kernel
theorem dX0_init_20 : decode cX0_init 20 = .ok (.aload_n 0, 1) := by decide +kernel
theorem dX0_init_21 : decode cX0_init 21 = .ok (.bipush 6, 2) := by decide +kernel
theorem dX0_init_23 : decode cX0_init 23 = .ok (.newarray .int, 2) := by decide +kernel
theorem dX0_init_25 : decode cX0_init 25 = .ok (.putfield 18, 3) := by decide +kernel
theorem dX0_init_28 : decode cX0_init 28 = .ok (.aload_n 0, 1) := by decide +kernel
theorem dX0_init_29 : decode cX0_init 29 = .ok (.bipush 6, 2) := by decide +kernel
theorem dX0_init_31 : decode cX0_init 31 = .ok (.newarray .int, 2) := by decide +kernel
theorem dX0_init_33 : decode cX0_init 33 = .ok (.putfield 21, 3) := by decide +kernel
theorem dX0_init_36 : decode cX0_init 36 = .ok (.aload_n 0, 1) := by decide +kernel
theorem dX0_init_37 : decode cX0_init 37 = .ok (.iconst 0, 1) := by decide +kernel
theorem dX0_init_38 : decode cX0_init 38 = .ok (.putfield 24, 3) := by decide +kernel
theorem dX0_init_41 : decode cX0_init 41 = .ok (.aload_n 0, 1) := by decide +kernel
theorem dX0_init_42 : decode cX0_init 42 = .ok (.iconst 0, 1) := by decide +kernel
theorem dX0_init_43 : decode cX0_init 43 = .ok (.putfield 28, 3) := by decide +kernel
theorem dX0_init_46 : decode cX0_init 46 = .ok (.aload_n 0, 1) := by decide +kernel
theorem dX0_init_47 : decode cX0_init 47 = .ok (.iconst 0, 1) := by decide +kernel
theorem dX0_init_48 : decode cX0_init 48 = .ok (.putfield 31, 3) := by decide +kernel
theorem dX0_init_51 : decode cX0_init 51 = .ok (.return_, 1) := by decide +kernel
def P_X0_init (a0 : Nat) : PM Unit :=
newA 6 fun o1 =>
setR 0 0 a0 o1 <|
newA 6 fun o2 =>
setR 0 1 a0 o2 <|
newA 6 fun o3 =>
setR 0 2 a0 o3 <|
newA 6 fun o4 =>
setR 0 3 a0 o4 <|
setI 0 4 a0 0 <|
setI 0 5 a0 0 <|
setI 0 6 a0 0 <|
pureM ()
set_option maxHeartbeats 4000000 in
set_option maxRecDepth 100000 in
theorem W_X0_init {Γ : Cx} (ok : OKc Γ cX0_init RX0 1 "<init>") (okr : OKr Γ cX0_init (none)) (a0 : Nat) : SW Γ iU 0 [some (.ref a0)] [] (P_X0_init a0) := by
  unfold P_X0_init
  refine sw_aload_n (z := a0) (pc' := 1) ok dX0_init_0 rfl rfl ?_
  refine sw_obj (pc' := 4) ok wd_0 wd_1 wd_2 (by decide) dX0_init_1 rfl (Nat.le_of_ble_eq_true rfl) ?_
  refine sw_aload_n (z := a0) (pc' := 5) ok dX0_init_4 rfl rfl ?_
  refine sw_bipush (v := 6) (pc' := 7) ok dX0_init_5 rfl cc_bipush_6 ?_
  refine sw_newA (pc' := 9) ok wd_3 dX0_init_7 rfl (fun o1 => ?_)
  refine sw_setR (pc' := 12) ok fr_X0_11 (fun _ => ⟨rfl, rfl⟩) dX0_init_9 (fun _ => rfl) rfl ?_
  refine sw_aload_n (z := a0) (pc' := 13) ok dX0_init_12 rfl rfl ?_
  refine sw_bipush (v := 6) (pc' := 15) ok dX0_init_13 rfl cc_bipush_6 ?_
  refine sw_newA (pc' := 17) ok wd_3 dX0_init_15 rfl (fun o2 => ?_)
  refine sw_setR (pc' := 20) ok fr_X0_15 (fun _ => ⟨rfl, rfl⟩) dX0_init_17 (fun _ => rfl) rfl ?_
  refine sw_aload_n (z := a0) (pc' := 21) ok dX0_init_20 rfl rfl ?_
  refine sw_bipush (v := 6) (pc' := 23) ok dX0_init_21 rfl cc_bipush_6 ?_
  refine sw_newA (pc' := 25) ok wd_3 dX0_init_23 rfl (fun o3 => ?_)
  refine sw_setR (pc' := 28) ok fr_X0_18 (fun _ => ⟨rfl, rfl⟩) dX0_init_25 (fun _ => rfl) rfl ?_
  refine sw_aload_n (z := a0) (pc' := 29) ok dX0_init_28 rfl rfl ?_
  refine sw_bipush (v := 6) (pc' := 31) ok dX0_init_29 rfl cc_bipush_6 ?_
  refine sw_newA (pc' := 33) ok wd_3 dX0_init_31 rfl (fun o4 => ?_)
  refine sw_setR (pc' := 36) ok fr_X0_21 (fun _ => ⟨rfl, rfl⟩) dX0_init_33 (fun _ => rfl) rfl ?_
  refine sw_aload_n (z := a0) (pc' := 37) ok dX0_init_36 rfl rfl ?_
  refine sw_iconst (v := 0) (pc' := 38) ok dX0_init_37 rfl cc_iconst_0 ?_
  refine sw_setI (pc' := 41) ok fr_X0_24 dX0_init_38 (fun h => by cases h) rfl ?_
  refine sw_aload_n (z := a0) (pc' := 42) ok dX0_init_41 rfl rfl ?_
  refine sw_iconst (v := 0) (pc' := 43) ok dX0_init_42 rfl cc_iconst_0 ?_
  refine sw_setI (pc' := 46) ok fr_X0_28 dX0_init_43 (fun h => by cases h) rfl ?_
  refine sw_aload_n (z := a0) (pc' := 47) ok dX0_init_46 rfl rfl ?_
  refine sw_iconst (v := 0) (pc' := 48) ok dX0_init_47 rfl cc_iconst_0 ?_
  refine sw_setI (pc' := 51) ok fr_X0_31 dX0_init_48 (fun h => by cases h) rfl ?_
  exact sw_ret ok okr dX0_init_51 trivial rfl
theorem S_X0_init (a0 : Nat) : Sim 1 yX0_init cX0_init 1 (none) iU [.ref a0] (P_X0_init a0) := Sim.intro wd_920 (by decide) (by decide +kernel) (Nat.le_of_ble_eq_true rfl) (fun Γ ok okr => W_X0_init ok okr a0)
theorem dJ7_fill_53178_0 : decode cJ7_fill_53178 0 = .ok (.iconst 0, 1) := by decide +kernel
theorem dJ7_fill_53178_1 : decode cJ7_fill_53178 1 = .ok (.istore_n 2, 1) := by decide +kernel
theorem dJ7_fill_53178_2 : decode cJ7_fill_53178 2 = .ok (.aload_n 0, 1) := by decide +kernel
theorem dJ7_fill_53178_3 : decode cJ7_fill_53178 3 = .ok (.arraylength, 1) := by decide +kernel
theorem dJ7_fill_53178_4 : decode cJ7_fill_53178 4 = .ok (.istore_n 3, 1) := by decide +kernel
theorem dJ7_fill_53178_5 : decode cJ7_fill_53178 5 = .ok (.iload_n 2, 1) := by decide +kernel
theorem dJ7_fill_53178_6 : decode cJ7_fill_53178 6 = .ok (.iload_n 3, 1) := by decide +kernel
theorem dJ7_fill_53178_7 : decode cJ7_fill_53178 7 = .ok (.if_icmp .ge 13, 3) := by decide +kernel
theorem dJ7_fill_53178_10 : decode cJ7_fill_53178 10 = .ok (.aload_n 0, 1) := by decide +kernel
theorem dJ7_fill_53178_11 : decode cJ7_fill_53178 11 = .ok (.iload_n 2, 1) := by decide +kernel
theorem dJ7_fill_53178_12 : decode cJ7_fill_53178 12 = .ok (.iload_n 1, 1) := by decide +kernel
theorem dJ7_fill_53178_13 : decode cJ7_fill_53178 13 = .ok (.iastore, 1) := by decide +kernel
theorem dJ7_fill_53178_14 : decode cJ7_fill_53178 14 = .ok (.iinc 2 1, 3) := by decide +kernel
theorem dJ7_fill_53178_17 : decode cJ7_fill_53178 17 = .ok (.goto (-12), 3) := by decide +kernel
theorem dJ7_fill_53178_20 : decode cJ7_fill_53178 20 = .ok (.return_, 1) := by decide +kernel
def P_J7_fill_53178_5 (p0 : Nat) (p1 : Int32) (p3 : Int32) : Nat → Int32 → PM Unit
  | 0, _ => failM
  | n + 1, q2 =>
    ifB (decide (p3 ≤ q2)) (
    pureM ()) (
    ast p0 q2 p1 <|
    P_J7_fill_53178_5 p0 p1 p3 n (q2 + 1))
def P_J7_fill_53178 (a0 : Nat) (x1 : Int32) : PM Unit :=
alen a0 fun v1 =>
P_J7_fill_53178_5 a0 x1 v1 4000 0
set_option maxHeartbeats 4000000 in
set_option maxRecDepth 100000 in
theorem W_J7_fill_53178_5 {Γ : Cx} (ok : OKc Γ cJ7_fill_53178 RJ7 0 "fill") (okr : OKr Γ cJ7_fill_53178 (none)) (p0 : Nat) (p1 : Int32) (p3 : Int32) : ∀ (n : Nat) (q2 : Int32), SW Γ iU 5 [some (.ref p0), some (.int p1), some (.int q2), some (.int p3)] [] (P_J7_fill_53178_5 p0 p1 p3 n q2) := by
  intro n
  induction n with
  | zero =>
    intros
    exact sw_fail
  | succ n ih =>
    intro q2
    unfold P_J7_fill_53178_5
    refine sw_iload_n (z := q2) (pc' := 6) ok dJ7_fill_53178_5 rfl rfl ?_
    refine sw_iload_n (z := p3) (pc' := 7) ok dJ7_fill_53178_6 rfl rfl ?_
    refine sw_icmp_ge (tgt := 20) (pc' := 10) ok dJ7_fill_53178_7 (by decide) rfl ?_ ?_
    · exact sw_ret ok okr dJ7_fill_53178_20 trivial rfl
    refine sw_aload_n (z := p0) (pc' := 11) ok dJ7_fill_53178_10 rfl rfl ?_
    refine sw_iload_n (z := q2) (pc' := 12) ok dJ7_fill_53178_11 rfl rfl ?_
    refine sw_iload_n (z := p1) (pc' := 13) ok dJ7_fill_53178_12 rfl rfl ?_
    refine sw_ast (pc' := 14) ok dJ7_fill_53178_13 rfl ?_
    refine sw_iinc (z := q2) (v := q2 + 1) (pc' := 17) (l' := [some (.ref p0), some (.int p1), some (.int (q2 + 1)), some (.int p3)]) ok dJ7_fill_53178_14 rfl rfl (by rw [cc_iconst_1]) rfl ?_
    refine sw_goto (tgt := 5) ok dJ7_fill_53178_17 (by decide) ?_
    exact ih (q2 + 1)
set_option maxHeartbeats 4000000 in
set_option maxRecDepth 100000 in
theorem W_J7_fill_53178 {Γ : Cx} (ok : OKc Γ cJ7_fill_53178 RJ7 0 "fill") (okr : OKr Γ cJ7_fill_53178 (none)) (a0 : Nat) (x1 : Int32) : SW Γ iU 0 [some (.ref a0), some (.int x1), none, none] [] (P_J7_fill_53178 a0 x1) := by
  unfold P_J7_fill_53178
  refine sw_iconst (v := 0) (pc' := 1) ok dJ7_fill_53178_0 rfl cc_iconst_0 ?_
  refine sw_istore_n (pc' := 2) (l' := [some (.ref a0), some (.int x1), some (.int 0), none]) ok dJ7_fill_53178_1 rfl (Nat.le_of_ble_eq_true rfl) rfl ?_
  refine sw_aload_n (z := a0) (pc' := 3) ok dJ7_fill_53178_2 rfl rfl ?_
  refine sw_alen (pc' := 4) ok dJ7_fill_53178_3 rfl (fun v1 => ?_)
  refine sw_istore_n (pc' := 5) (l' := [some (.ref a0), some (.int x1), some (.int 0), some (.int v1)]) ok dJ7_fill_53178_4 rfl (Nat.le_of_ble_eq_true rfl) rfl ?_
  exact W_J7_fill_53178_5 ok okr a0 x1 v1 4000 0
theorem S_J7_fill_53178 (a0 : Nat) (x1 : Int32) : Sim 0 yJ7_fill_53178 cJ7_fill_53178 4 (none) iU [.ref a0, .int x1] (P_J7_fill_53178 a0 x1) := Sim.introF wd_921 (by decide) (by decide +kernel) (Nat.le_of_ble_eq_true rfl) (fun Γ ok okr => W_J7_fill_53178 ok okr a0 x1)
theorem dX0_clear_0 : decode cX0_clear 0 = .ok (.aload_n 0, 1) := by decide +kernel
theorem dX0_clear_1 : decode cX0_clear 1 = .ok (.iconst 0, 1) := by decide +kernel
theorem dX0_clear_2 : decode cX0_clear 2 = .ok (.putfield 24, 3) := by decide +kernel
theorem dX0_clear_5 : decode cX0_clear 5 = .ok (.aload_n 0, 1) := by decide +kernel
theorem dX0_clear_6 : decode cX0_clear 6 = .ok (.iconst 0, 1) := by decide +kernel
theorem dX0_clear_7 : decode cX0_clear 7 = .ok (.putfield 28, 3) := by decide +kernel
theorem dX0_clear_10 : decode cX0_clear 10 = .ok (.aload_n 0, 1) := by decide +kernel
theorem dX0_clear_11 : decode cX0_clear 11 = .ok (.iconst 0, 1) := by decide +kernel
theorem dX0_clear_12 : decode cX0_clear 12 = .ok (.putfield 31, 3) := by decide +kernel
theorem dX0_clear_15 : decode cX0_clear 15 = .ok (.aload_n 0, 1) := by decide +kernel
theorem dX0_clear_16 : decode cX0_clear 16 = .ok (.getfield 21, 3) := by decide +kernel
theorem dX0_clear_19 : decode cX0_clear 19 = .ok (.iconst 0, 1) := by decide +kernel
theorem dX0_clear_20 : decode cX0_clear 20 = .ok (.invokestatic 34, 3) := by decide +kernel
theorem dX0_clear_23 : decode cX0_clear 23 = .ok (.return_, 1) := by decide +kernel
def P_X0_clear (a0 : Nat) : PM Unit :=
setI 0 4 a0 0 <|
setI 0 5 a0 0 <|
setI 0 6 a0 0 <|
getR 0 3 a0 fun v1 =>
cll0 (P_J7_fill_53178 v1 0) fun _ =>
pureM ()
set_option maxHeartbeats 4000000 in
set_option maxRecDepth 100000 in
theorem W_X0_clear {Γ : Cx} (ok : OKc Γ cX0_clear RX0 1 "clear") (okr : OKr Γ cX0_clear (none)) (a0 : Nat) : SW Γ iU 0 [some (.ref a0)] [] (P_X0_clear a0) := by
  unfold P_X0_clear
  refine sw_aload_n (z := a0) (pc' := 1) ok dX0_clear_0 rfl rfl ?_
  refine sw_iconst (v := 0) (pc' := 2) ok dX0_clear_1 rfl cc_iconst_0 ?_
  refine sw_setI (pc' := 5) ok fr_X0_24 dX0_clear_2 (fun h => by cases h) rfl ?_
  refine sw_aload_n (z := a0) (pc' := 6) ok dX0_clear_5 rfl rfl ?_
  refine sw_iconst (v := 0) (pc' := 7) ok dX0_clear_6 rfl cc_iconst_0 ?_
  refine sw_setI (pc' := 10) ok fr_X0_28 dX0_clear_7 (fun h => by cases h) rfl ?_
  refine sw_aload_n (z := a0) (pc' := 11) ok dX0_clear_10 rfl rfl ?_
  refine sw_iconst (v := 0) (pc' := 12) ok dX0_clear_11 rfl cc_iconst_0 ?_
  refine sw_setI (pc' := 15) ok fr_X0_31 dX0_clear_12 (fun h => by cases h) rfl ?_
  refine sw_aload_n (z := a0) (pc' := 16) ok dX0_clear_15 rfl rfl ?_
  refine sw_getR (pc' := 19) ok (fr_X0_21.g) dX0_clear_16 rfl (fun v1 => ?_)
  refine sw_iconst (v := 0) (pc' := 20) ok dX0_clear_19 rfl cc_iconst_0 ?_
  refine sw_cll0_U (st := []) (as := [.ref v1, .int 0]) (pc' := 23) ok (S_J7_fill_53178 v1 0) (by decide) lk_X0_34 rfl dX0_clear_20 rfl (Nat.le_of_ble_eq_true rfl) rfl (fun _ => ?_)
  exact sw_ret ok okr dX0_clear_23 trivial rfl
theorem S_X0_clear (a0 : Nat) : Sim 1 yX0_clear cX0_clear 1 (none) iU [.ref a0] (P_X0_clear a0) := Sim.intro wd_922 (by decide) (by decide +kernel) (Nat.le_of_ble_eq_true rfl) (fun Γ ok okr => W_X0_clear ok okr a0)
theorem dX0_become_0 : decode cX0_become 0 = .ok (.aload_n 0, 1) := by decide +kernel
theorem dX0_become_1 : decode cX0_become 1 = .ok (.aload_n 1, 1) := by decide +kernel
theorem dX0_become_2 : decode cX0_become 2 = .ok (.getfield 24, 3) := by decide +kernel
theorem dX0_become_5 : decode cX0_become 5 = .ok (.putfield 24, 3) := by decide +kernel
theorem dX0_become_8 : decode cX0_become 8 = .ok (.aload_n 0, 1) := by decide +kernel
theorem dX0_become_9 : decode cX0_become 9 = .ok (.aload_n 1, 1) := by decide +kernel
theorem dX0_become_10 : decode cX0_become 10 = .ok (.getfield 28, 3) := by decide +kernel
theorem dX0_become_13 : decode cX0_become 13 = .ok (.putfield 28, 3) := by decide +kernel
theorem dX0_become_16 : decode cX0_become 16 = .ok (.aload_n 0, 1) := by decide +kernel
theorem dX0_become_17 : decode cX0_become 17 = .ok (.aload_n 1, 1) := by decide +kernel
theorem dX0_become_18 : decode cX0_become 18 = .ok (.getfield 31, 3) := by decide +kernel
theorem dX0_become_21 : decode cX0_become 21 = .ok (.putfield 31, 3) := by decide +kernel
theorem dX0_become_24 : decode cX0_become 24 = .ok (.iconst 0, 1) := by decide +kernel
theorem dX0_become_25 : decode cX0_become 25 = .ok (.istore_n 2, 1) := by decide +kernel
theorem dX0_become_26 : decode cX0_become 26 = .ok (.iload_n 2, 1) := by decide +kernel
theorem dX0_become_27 : decode cX0_become 27 = .ok (.bipush 6, 2) := by decide +kernel
theorem dX0_become_29 : decode cX0_become 29 = .ok (.if_icmp .ge 57, 3) := by decide +kernel
theorem dX0_become_32 : decode cX0_become 32 = .ok (.aload_n 0, 1) := by decide +kernel
theorem dX0_become_33 : decode cX0_become 33 = .ok (.getfield 11, 3) := by decide +kernel
theorem dX0_become_36 : decode cX0_become 36 = .ok (.iload_n 2, 1) := by decide +kernel
theorem dX0_become_37 : decode cX0_become 37 = .ok (.aload_n 1, 1) := by decide +kernel
theorem dX0_become_38 : decode cX0_become 38 = .ok (.getfield 11, 3) := by decide +kernel
theorem dX0_become_41 : decode cX0_become 41 = .ok (.iload_n 2, 1) := by decide +kernel
theorem dX0_become_42 : decode cX0_become 42 = .ok (.iaload, 1) := by decide +kernel
theorem dX0_become_43 : decode cX0_become 43 = .ok (.iastore, 1) := by decide +kernel
theorem dX0_become_44 : decode cX0_become 44 = .ok (.aload_n 0, 1) := by decide +kernel
theorem dX0_become_45 : decode cX0_become 45 = .ok (.getfield 15, 3) := by decide +kernel
theorem dX0_become_48 : decode cX0_become 48 = .ok (.iload_n 2, 1) := by decide +kernel
theorem dX0_become_49 : decode cX0_become 49 = .ok (.aload_n 1, 1) := by decide +kernel
theorem dX0_become_50 : decode cX0_become 50 = .ok (.getfield 15, 3) := by decide +kernel
theorem dX0_become_53 : decode cX0_become 53 = .ok (.iload_n 2, 1) := by decide +kernel
theorem dX0_become_54 : decode cX0_become 54 = .ok (.iaload, 1) := by decide +kernel
theorem dX0_become_55 : decode cX0_become 55 = .ok (.iastore, 1) := by decide +kernel
theorem dX0_become_56 : decode cX0_become 56 = .ok (.aload_n 0, 1) := by decide +kernel
theorem dX0_become_57 : decode cX0_become 57 = .ok (.getfield 18, 3) := by decide +kernel
theorem dX0_become_60 : decode cX0_become 60 = .ok (.iload_n 2, 1) := by decide +kernel
theorem dX0_become_61 : decode cX0_become 61 = .ok (.aload_n 1, 1) := by decide +kernel
theorem dX0_become_62 : decode cX0_become 62 = .ok (.getfield 18, 3) := by decide +kernel
theorem dX0_become_65 : decode cX0_become 65 = .ok (.iload_n 2, 1) := by decide +kernel
theorem dX0_become_66 : decode cX0_become 66 = .ok (.iaload, 1) := by decide +kernel
theorem dX0_become_67 : decode cX0_become 67 = .ok (.iastore, 1) := by decide +kernel
theorem dX0_become_68 : decode cX0_become 68 = .ok (.aload_n 0, 1) := by decide +kernel
theorem dX0_become_69 : decode cX0_become 69 = .ok (.getfield 21, 3) := by decide +kernel
theorem dX0_become_72 : decode cX0_become 72 = .ok (.iload_n 2, 1) := by decide +kernel
theorem dX0_become_73 : decode cX0_become 73 = .ok (.aload_n 1, 1) := by decide +kernel
theorem dX0_become_74 : decode cX0_become 74 = .ok (.getfield 21, 3) := by decide +kernel
theorem dX0_become_77 : decode cX0_become 77 = .ok (.iload_n 2, 1) := by decide +kernel
theorem dX0_become_78 : decode cX0_become 78 = .ok (.iaload, 1) := by decide +kernel
theorem dX0_become_79 : decode cX0_become 79 = .ok (.iastore, 1) := by decide +kernel
theorem dX0_become_80 : decode cX0_become 80 = .ok (.iinc 2 1, 3) := by decide +kernel
theorem dX0_become_83 : decode cX0_become 83 = .ok (.goto (-57), 3) := by decide +kernel
theorem dX0_become_86 : decode cX0_become 86 = .ok (.return_, 1) := by decide +kernel
def P_X0_become_26 (p0 : Nat) (p1 : Nat) : Nat → Int32 → PM Unit
  | 0, _ => failM
  | n + 1, q2 =>
    ifB (decide (6 ≤ q2)) (
    pureM ()) (
    getR 0 0 p0 fun v4 =>
    getR 0 0 p1 fun v5 =>
    ald v5 q2 fun v6 =>
    ast v4 q2 v6 <|
    getR 0 1 p0 fun v7 =>
    getR 0 1 p1 fun v8 =>
    ald v8 q2 fun v9 =>
    ast v7 q2 v9 <|
    getR 0 2 p0 fun v10 =>
    getR 0 2 p1 fun v11 =>
    ald v11 q2 fun v12 =>
    ast v10 q2 v12 <|
    getR 0 3 p0 fun v13 =>
    getR 0 3 p1 fun v14 =>
    ald v14 q2 fun v15 =>
    ast v13 q2 v15 <|
    P_X0_become_26 p0 p1 n (q2 + 1))
def P_X0_become (a0 : Nat) (a1 : Nat) : PM Unit :=
getI 0 4 a1 fun v1 =>
setI 0 4 a0 v1 <|
getI 0 5 a1 fun v2 =>
setI 0 5 a0 v2 <|
getI 0 6 a1 fun v3 =>
setI 0 6 a0 v3 <|
P_X0_become_26 a0 a1 4000 0
set_option maxHeartbeats 4000000 in
set_option maxRecDepth 100000 in
theorem W_X0_become_26 {Γ : Cx} (ok : OKc Γ cX0_become RX0 0 "become") (okr : OKr Γ cX0_become (none)) (p0 : Nat) (p1 : Nat) : ∀ (n : Nat) (q2 : Int32), SW Γ iU 26 [some (.ref p0), some (.ref p1), some (.int q2)] [] (P_X0_become_26 p0 p1 n q2) := by
  intro n
  induction n with
  | zero =>
    intros
    exact sw_fail
  | succ n ih =>
    intro q2
    unfold P_X0_become_26
    refine sw_iload_n (z := q2) (pc' := 27) ok dX0_become_26 rfl rfl ?_
    refine sw_bipush (v := 6) (pc' := 29) ok dX0_become_27 rfl cc_bipush_6 ?_
    refine sw_icmp_ge (tgt := 86) (pc' := 32) ok dX0_become_29 (by decide) rfl ?_ ?_
    · exact sw_ret ok okr dX0_become_86 trivial rfl
    refine sw_aload_n (z := p0) (pc' := 33) ok dX0_become_32 rfl rfl ?_
    refine sw_getR (pc' := 36) ok (fr_X0_11.g) dX0_become_33 rfl (fun v4 => ?_)
    refine sw_iload_n (z := q2) (pc' := 37) ok dX0_become_36 rfl rfl ?_
    refine sw_aload_n (z := p1) (pc' := 38) ok dX0_become_37 rfl rfl ?_
    refine sw_getR (pc' := 41) ok (fr_X0_11.g) dX0_become_38 rfl (fun v5 => ?_)
    refine sw_iload_n (z := q2) (pc' := 42) ok dX0_become_41 rfl rfl ?_
    refine sw_ald (pc' := 43) ok dX0_become_42 rfl (fun v6 => ?_)
    refine sw_ast (pc' := 44) ok dX0_become_43 rfl ?_
    refine sw_aload_n (z := p0) (pc' := 45) ok dX0_become_44 rfl rfl ?_
    refine sw_getR (pc' := 48) ok (fr_X0_15.g) dX0_become_45 rfl (fun v7 => ?_)
    refine sw_iload_n (z := q2) (pc' := 49) ok dX0_become_48 rfl rfl ?_
    refine sw_aload_n (z := p1) (pc' := 50) ok dX0_become_49 rfl rfl ?_
    refine sw_getR (pc' := 53) ok (fr_X0_15.g) dX0_become_50 rfl (fun v8 => ?_)
    refine sw_iload_n (z := q2) (pc' := 54) ok dX0_become_53 rfl rfl ?_
    refine sw_ald (pc' := 55) ok dX0_become_54 rfl (fun v9 => ?_)
    refine sw_ast (pc' := 56) ok dX0_become_55 rfl ?_
    refine sw_aload_n (z := p0) (pc' := 57) ok dX0_become_56 rfl rfl ?_
    refine sw_getR (pc' := 60) ok (fr_X0_18.g) dX0_become_57 rfl (fun v10 => ?_)
    refine sw_iload_n (z := q2) (pc' := 61) ok dX0_become_60 rfl rfl ?_
    refine sw_aload_n (z := p1) (pc' := 62) ok dX0_become_61 rfl rfl ?_
    refine sw_getR (pc' := 65) ok (fr_X0_18.g) dX0_become_62 rfl (fun v11 => ?_)
    refine sw_iload_n (z := q2) (pc' := 66) ok dX0_become_65 rfl rfl ?_
    refine sw_ald (pc' := 67) ok dX0_become_66 rfl (fun v12 => ?_)
    refine sw_ast (pc' := 68) ok dX0_become_67 rfl ?_
    refine sw_aload_n (z := p0) (pc' := 69) ok dX0_become_68 rfl rfl ?_
    refine sw_getR (pc' := 72) ok (fr_X0_21.g) dX0_become_69 rfl (fun v13 => ?_)
    refine sw_iload_n (z := q2) (pc' := 73) ok dX0_become_72 rfl rfl ?_
    refine sw_aload_n (z := p1) (pc' := 74) ok dX0_become_73 rfl rfl ?_
    refine sw_getR (pc' := 77) ok (fr_X0_21.g) dX0_become_74 rfl (fun v14 => ?_)
    refine sw_iload_n (z := q2) (pc' := 78) ok dX0_become_77 rfl rfl ?_
    refine sw_ald (pc' := 79) ok dX0_become_78 rfl (fun v15 => ?_)
    refine sw_ast (pc' := 80) ok dX0_become_79 rfl ?_
    refine sw_iinc (z := q2) (v := q2 + 1) (pc' := 83) (l' := [some (.ref p0), some (.ref p1), some (.int (q2 + 1))]) ok dX0_become_80 rfl rfl (by rw [cc_iconst_1]) rfl ?_
    refine sw_goto (tgt := 26) ok dX0_become_83 (by decide) ?_
    exact ih (q2 + 1)
set_option maxHeartbeats 4000000 in
set_option maxRecDepth 100000 in
theorem W_X0_become {Γ : Cx} (ok : OKc Γ cX0_become RX0 0 "become") (okr : OKr Γ cX0_become (none)) (a0 : Nat) (a1 : Nat) : SW Γ iU 0 [some (.ref a0), some (.ref a1), none] [] (P_X0_become a0 a1) := by
  unfold P_X0_become
  refine sw_aload_n (z := a0) (pc' := 1) ok dX0_become_0 rfl rfl ?_
  refine sw_aload_n (z := a1) (pc' := 2) ok dX0_become_1 rfl rfl ?_
  refine sw_getI (pc' := 5) ok (fr_X0_24.g) dX0_become_2 rfl (fun v1 => ?_)
  refine sw_setI (pc' := 8) ok fr_X0_24 dX0_become_5 (fun h => by cases h) rfl ?_
  refine sw_aload_n (z := a0) (pc' := 9) ok dX0_become_8 rfl rfl ?_
  refine sw_aload_n (z := a1) (pc' := 10) ok dX0_become_9 rfl rfl ?_
  refine sw_getI (pc' := 13) ok (fr_X0_28.g) dX0_become_10 rfl (fun v2 => ?_)
  refine sw_setI (pc' := 16) ok fr_X0_28 dX0_become_13 (fun h => by cases h) rfl ?_
  refine sw_aload_n (z := a0) (pc' := 17) ok dX0_become_16 rfl rfl ?_
  refine sw_aload_n (z := a1) (pc' := 18) ok dX0_become_17 rfl rfl ?_
  refine sw_getI (pc' := 21) ok (fr_X0_31.g) dX0_become_18 rfl (fun v3 => ?_)
  refine sw_setI (pc' := 24) ok fr_X0_31 dX0_become_21 (fun h => by cases h) rfl ?_
  refine sw_iconst (v := 0) (pc' := 25) ok dX0_become_24 rfl cc_iconst_0 ?_
  refine sw_istore_n (pc' := 26) (l' := [some (.ref a0), some (.ref a1), some (.int 0)]) ok dX0_become_25 rfl (Nat.le_of_ble_eq_true rfl) rfl ?_
  exact W_X0_become_26 ok okr a0 a1 4000 0
theorem S_X0_become (a0 : Nat) (a1 : Nat) : Sim 0 yX0_become cX0_become 3 (none) iU [.ref a0, .ref a1] (P_X0_become a0 a1) := Sim.intro wd_923 (by decide) (by decide +kernel) (Nat.le_of_ble_eq_true rfl) (fun Γ ok okr => W_X0_become ok okr a0 a1)
theorem dX0_add_0 : decode cX0_add 0 = .ok (.aload_n 0, 1) := by decide +kernel
theorem dX0_add_1 : decode cX0_add 1 = .ok (.getfield 24, 3) := by decide +kernel
theorem dX0_add_4 : decode cX0_add 4 = .ok (.ifCond .lt 52, 3) := by decide +kernel
theorem dX0_add_7 : decode cX0_add 7 = .ok (.aload_n 0, 1) := by decide +kernel
theorem dX0_add_8 : decode cX0_add 8 = .ok (.getfield 24, 3) := by decide +kernel
theorem dX0_add_11 : decode cX0_add 11 = .ok (.bipush 6, 2) := by decide +kernel
theorem dX0_add_13 : decode cX0_add 13 = .ok (.if_icmp .ge 43, 3) := by decide +kernel
theorem dX0_add_16 : decode cX0_add 16 = .ok (.aload_n 0, 1) := by decide +kernel
theorem dX0_add_17 : decode cX0_add 17 = .ok (.getfield 11, 3) := by decide +kernel
theorem dX0_add_20 : decode cX0_add 20 = .ok (.aload_n 0, 1) := by decide +kernel
theorem dX0_add_21 : decode cX0_add 21 = .ok (.getfield 24, 3) := by decide +kernel
theorem dX0_add_24 : decode cX0_add 24 = .ok (.iload_n 1, 1) := by decide +kernel
theorem dX0_add_25 : decode cX0_add 25 = .ok (.iastore, 1) := by decide +kernel
theorem dX0_add_26 : decode cX0_add 26 = .ok (.aload_n 0, 1) := by decide +kernel
theorem dX0_add_27 : decode cX0_add 27 = .ok (.getfield 15, 3) := by decide +kernel
theorem dX0_add_30 : decode cX0_add 30 = .ok (.aload_n 0, 1) := by decide +kernel
theorem dX0_add_31 : decode cX0_add 31 = .ok (.getfield 24, 3) := by decide +kernel
theorem dX0_add_34 : decode cX0_add 34 = .ok (.iload_n 2, 1) := by decide +kernel
theorem dX0_add_35 : decode cX0_add 35 = .ok (.iastore, 1) := by decide +kernel
theorem dX0_add_36 : decode cX0_add 36 = .ok (.aload_n 0, 1) := by decide +kernel
theorem dX0_add_37 : decode cX0_add 37 = .ok (.getfield 18, 3) := by decide +kernel
theorem dX0_add_40 : decode cX0_add 40 = .ok (.aload_n 0, 1) := by decide +kernel
theorem dX0_add_41 : decode cX0_add 41 = .ok (.getfield 24, 3) := by decide +kernel
theorem dX0_add_44 : decode cX0_add 44 = .ok (.iload_n 3, 1) := by decide +kernel
theorem dX0_add_45 : decode cX0_add 45 = .ok (.iastore, 1) := by decide +kernel
theorem dX0_add_46 : decode cX0_add 46 = .ok (.aload_n 0, 1) := by decide +kernel
theorem dX0_add_47 : decode cX0_add 47 = .ok (.dup, 1) := by decide +kernel
theorem dX0_add_48 : decode cX0_add 48 = .ok (.getfield 24, 3) := by decide +kernel
theorem dX0_add_51 : decode cX0_add 51 = .ok (.iconst 1, 1) := by decide +kernel
theorem dX0_add_52 : decode cX0_add 52 = .ok (.iadd, 1) := by decide +kernel
theorem dX0_add_53 : decode cX0_add 53 = .ok (.putfield 24, 3) := by decide +kernel
theorem dX0_add_56 : decode cX0_add 56 = .ok (.return_, 1) := by decide +kernel
def P_X0_add (a0 : Nat) (x1 : Int32) (x2 : Int32) (x3 : Int32) : PM Unit :=
getI 0 4 a0 fun v1 =>
ifB (decide (v1 < 0)) (
pureM ()) (
getI 0 4 a0 fun v2 =>
ifB (decide (6 ≤ v2)) (
pureM ()) (
getR 0 0 a0 fun v3 =>
getI 0 4 a0 fun v4 =>
ast v3 v4 x1 <|
getR 0 1 a0 fun v5 =>
getI 0 4 a0 fun v6 =>
ast v5 v6 x2 <|
getR 0 2 a0 fun v7 =>
getI 0 4 a0 fun v8 =>
ast v7 v8 x3 <|
getI 0 4 a0 fun v9 =>
setI 0 4 a0 (v9 + 1) <|
pureM ()))
set_option maxHeartbeats 4000000 in
set_option maxRecDepth 100000 in
theorem W_X0_add {Γ : Cx} (ok : OKc Γ cX0_add RX0 0 "add") (okr : OKr Γ cX0_add (none)) (a0 : Nat) (x1 : Int32) (x2 : Int32) (x3 : Int32) : SW Γ iU 0 [some (.ref a0), some (.int x1), some (.int x2), some (.int x3)] [] (P_X0_add a0 x1 x2 x3) := by
  unfold P_X0_add
  refine sw_aload_n (z := a0) (pc' := 1) ok dX0_add_0 rfl rfl ?_
  refine sw_getI (pc' := 4) ok (fr_X0_24.g) dX0_add_1 rfl (fun v1 => ?_)
  refine sw_if_lt (tgt := 56) (pc' := 7) ok dX0_add_4 (by decide) rfl ?_ ?_
  · exact sw_ret ok okr dX0_add_56 trivial rfl
  refine sw_aload_n (z := a0) (pc' := 8) ok dX0_add_7 rfl rfl ?_
  refine sw_getI (pc' := 11) ok (fr_X0_24.g) dX0_add_8 rfl (fun v2 => ?_)
  refine sw_bipush (v := 6) (pc' := 13) ok dX0_add_11 rfl cc_bipush_6 ?_
  refine sw_icmp_ge (tgt := 56) (pc' := 16) ok dX0_add_13 (by decide) rfl ?_ ?_
  · exact sw_ret ok okr dX0_add_56 trivial rfl
  refine sw_aload_n (z := a0) (pc' := 17) ok dX0_add_16 rfl rfl ?_
  refine sw_getR (pc' := 20) ok (fr_X0_11.g) dX0_add_17 rfl (fun v3 => ?_)
  refine sw_aload_n (z := a0) (pc' := 21) ok dX0_add_20 rfl rfl ?_
  refine sw_getI (pc' := 24) ok (fr_X0_24.g) dX0_add_21 rfl (fun v4 => ?_)
  refine sw_iload_n (z := x1) (pc' := 25) ok dX0_add_24 rfl rfl ?_
  refine sw_ast (pc' := 26) ok dX0_add_25 rfl ?_
  refine sw_aload_n (z := a0) (pc' := 27) ok dX0_add_26 rfl rfl ?_
  refine sw_getR (pc' := 30) ok (fr_X0_15.g) dX0_add_27 rfl (fun v5 => ?_)
  refine sw_aload_n (z := a0) (pc' := 31) ok dX0_add_30 rfl rfl ?_
  refine sw_getI (pc' := 34) ok (fr_X0_24.g) dX0_add_31 rfl (fun v6 => ?_)
  refine sw_iload_n (z := x2) (pc' := 35) ok dX0_add_34 rfl rfl ?_
  refine sw_ast (pc' := 36) ok dX0_add_35 rfl ?_
  refine sw_aload_n (z := a0) (pc' := 37) ok dX0_add_36 rfl rfl ?_
  refine sw_getR (pc' := 40) ok (fr_X0_18.g) dX0_add_37 rfl (fun v7 => ?_)
  refine sw_aload_n (z := a0) (pc' := 41) ok dX0_add_40 rfl rfl ?_
  refine sw_getI (pc' := 44) ok (fr_X0_24.g) dX0_add_41 rfl (fun v8 => ?_)
  refine sw_iload_n (z := x3) (pc' := 45) ok dX0_add_44 rfl rfl ?_
  refine sw_ast (pc' := 46) ok dX0_add_45 rfl ?_
  refine sw_aload_n (z := a0) (pc' := 47) ok dX0_add_46 rfl rfl ?_
  refine sw_dup (pc' := 48) ok dX0_add_47 rfl rfl ?_
  refine sw_getI (pc' := 51) ok (fr_X0_24.g) dX0_add_48 rfl (fun v9 => ?_)
  refine sw_iconst (v := 1) (pc' := 52) ok dX0_add_51 rfl cc_iconst_1 ?_
  refine sw_iadd (pc' := 53) ok dX0_add_52 rfl ?_
  refine sw_setI (pc' := 56) ok fr_X0_24 dX0_add_53 (fun h => by cases h) rfl ?_
  exact sw_ret ok okr dX0_add_56 trivial rfl
theorem S_X0_add (a0 : Nat) (x1 : Int32) (x2 : Int32) (x3 : Int32) : Sim 0 yX0_add cX0_add 4 (none) iU [.ref a0, .int x1, .int x2, .int x3] (P_X0_add a0 x1 x2 x3) := Sim.intro wd_924 (by decide) (by decide +kernel) (Nat.le_of_ble_eq_true rfl) (fun Γ ok okr => W_X0_add ok okr a0 x1 x2 x3)
theorem dX0_has_0 : decode cX0_has 0 = .ok (.iload_n 1, 1) := by decide +kernel
theorem dX0_has_1 : decode cX0_has 1 = .ok (.ifCond .lt 15, 3) := by decide +kernel
theorem dX0_has_4 : decode cX0_has 4 = .ok (.iload_n 1, 1) := by decide +kernel
theorem dX0_has_5 : decode cX0_has 5 = .ok (.aload_n 0, 1) := by decide +kernel
theorem dX0_has_6 : decode cX0_has 6 = .ok (.getfield 24, 3) := by decide +kernel
theorem dX0_has_9 : decode cX0_has 9 = .ok (.if_icmp .ge 7, 3) := by decide +kernel
theorem dX0_has_12 : decode cX0_has 12 = .ok (.iconst 1, 1) := by decide +kernel
theorem dX0_has_13 : decode cX0_has 13 = .ok (.goto 4, 3) := by decide +kernel
theorem dX0_has_16 : decode cX0_has 16 = .ok (.iconst 0, 1) := by decide +kernel
theorem dX0_has_17 : decode cX0_has 17 = .ok (.ireturn, 1) := by decide +kernel
def P_X0_has (a0 : Nat) (x1 : Int32) : PM Int32 :=
jn (
retZ 0) fun k1 =>
ifB (decide (x1 < 0)) (
k1) (
getI 0 4 a0 fun v2 =>
ifB (decide (v2 ≤ x1)) (
k1) (
retZ 1))
set_option maxHeartbeats 4000000 in
set_option maxRecDepth 100000 in
theorem W_X0_has {Γ : Cx} (ok : OKc Γ cX0_has RX0 0 "has") (okr : OKr Γ cX0_has (some .boolean)) (a0 : Nat) (x1 : Int32) : SW Γ iI 0 [some (.ref a0), some (.int x1)] [] (P_X0_has a0 x1) := by
  unfold P_X0_has
  refine sw_iload_n (z := x1) (pc' := 1) ok dX0_has_0 rfl rfl ?_
  refine sw_jn (fun k1 : PM Int32 => SW Γ iI 16 [none, none] [] (k1)) ?_ (fun k1 hk1 => ?_)
  · refine sw_iconst (v := 0) (pc' := 17) ok dX0_has_16 rfl cc_iconst_0 ?_
    exact sw_retZ ok okr dX0_has_17
  refine sw_if_lt (tgt := 16) (pc' := 4) ok dX0_has_1 (by decide) rfl ?_ ?_
  · refine sw_fg (l' := [none, none]) [false, false] rfl ?_
    exact hk1
  refine sw_iload_n (z := x1) (pc' := 5) ok dX0_has_4 rfl rfl ?_
  refine sw_aload_n (z := a0) (pc' := 6) ok dX0_has_5 rfl rfl ?_
  refine sw_getI (pc' := 9) ok (fr_X0_24.g) dX0_has_6 rfl (fun v2 => ?_)
  refine sw_icmp_ge (tgt := 16) (pc' := 12) ok dX0_has_9 (by decide) rfl ?_ ?_
  · refine sw_fg (l' := [none, none]) [false, false] rfl ?_
    exact hk1
  refine sw_iconst (v := 1) (pc' := 13) ok dX0_has_12 rfl cc_iconst_1 ?_
  refine sw_goto (tgt := 17) ok dX0_has_13 (by decide) ?_
  exact sw_retZ ok okr dX0_has_17
theorem S_X0_has (a0 : Nat) (x1 : Int32) : Sim 0 yX0_has cX0_has 2 (some .boolean) iI [.ref a0, .int x1] (P_X0_has a0 x1) := Sim.intro wd_925 (by decide) (by decide +kernel) (Nat.le_of_ble_eq_true rfl) (fun Γ ok okr => W_X0_has ok okr a0 x1)
theorem dX0_isPair_0 : decode cX0_isPair 0 = .ok (.aload_n 0, 1) := by decide +kernel
theorem dX0_isPair_1 : decode cX0_isPair 1 = .ok (.iload_n 1, 1) := by decide +kernel
theorem dX0_isPair_2 : decode cX0_isPair 2 = .ok (.invokevirtual 44, 3) := by decide +kernel
theorem dX0_isPair_5 : decode cX0_isPair 5 = .ok (.ifCond .eq 20, 3) := by decide +kernel
theorem dX0_isPair_8 : decode cX0_isPair 8 = .ok (.aload_n 0, 1) := by decide +kernel
theorem dX0_isPair_9 : decode cX0_isPair 9 = .ok (.iload_n 2, 1) := by decide +kernel
theorem dX0_isPair_10 : decode cX0_isPair 10 = .ok (.invokevirtual 44, 3) := by decide +kernel
theorem dX0_isPair_13 : decode cX0_isPair 13 = .ok (.ifCond .eq 12, 3) := by decide +kernel
theorem dX0_isPair_16 : decode cX0_isPair 16 = .ok (.iload_n 1, 1) := by decide +kernel
theorem dX0_isPair_17 : decode cX0_isPair 17 = .ok (.iload_n 2, 1) := by decide +kernel
theorem dX0_isPair_18 : decode cX0_isPair 18 = .ok (.if_icmp .eq 7, 3) := by decide +kernel
theorem dX0_isPair_21 : decode cX0_isPair 21 = .ok (.iconst 1, 1) := by decide +kernel
theorem dX0_isPair_22 : decode cX0_isPair 22 = .ok (.goto 4, 3) := by decide +kernel
theorem dX0_isPair_25 : decode cX0_isPair 25 = .ok (.iconst 0, 1) := by decide +kernel
theorem dX0_isPair_26 : decode cX0_isPair 26 = .ok (.ireturn, 1) := by decide +kernel
def P_X0_isPair (a0 : Nat) (x1 : Int32) (x2 : Int32) : PM Int32 :=
cllV 0 a0 (P_X0_has a0 x1) fun v1 =>
jn (
retZ 0) fun k2 =>
ifB (decide (v1 = 0)) (
k2) (
cllV 0 a0 (P_X0_has a0 x2) fun v3 =>
ifB (decide (v3 = 0)) (
k2) (
ifB (decide (x1 = x2)) (
k2) (
retZ 1)))
set_option maxHeartbeats 4000000 in
set_option maxRecDepth 100000 in
theorem W_X0_isPair {Γ : Cx} (ok : OKc Γ cX0_isPair RX0 1 "isPair") (okr : OKr Γ cX0_isPair (some .boolean)) (a0 : Nat) (x1 : Int32) (x2 : Int32) : SW Γ iI 0 [some (.ref a0), some (.int x1), some (.int x2)] [] (P_X0_isPair a0 x1 x2) := by
  unfold P_X0_isPair
  refine sw_aload_n (z := a0) (pc' := 1) ok dX0_isPair_0 rfl rfl ?_
  refine sw_iload_n (z := x1) (pc' := 2) ok dX0_isPair_1 rfl rfl ?_
  refine sw_cllV_I (st := []) (as := [.int x1]) (pc' := 5) ok (S_X0_has a0 x1) (by decide) lk_X0_44 rfl dX0_isPair_2 rfl (Nat.le_of_ble_eq_true rfl) rfl (fun v1 => ?_)
  refine sw_jn (fun k2 : PM Int32 => SW Γ iI 25 [none, none, none] [] (k2)) ?_ (fun k2 hk2 => ?_)
  · refine sw_iconst (v := 0) (pc' := 26) ok dX0_isPair_25 rfl cc_iconst_0 ?_
    exact sw_retZ ok okr dX0_isPair_26
  refine sw_if_eq (tgt := 25) (pc' := 8) ok dX0_isPair_5 (by decide) rfl ?_ ?_
  · refine sw_fg (l' := [none, none, none]) [false, false, false] rfl ?_
    exact hk2
  refine sw_aload_n (z := a0) (pc' := 9) ok dX0_isPair_8 rfl rfl ?_
  refine sw_iload_n (z := x2) (pc' := 10) ok dX0_isPair_9 rfl rfl ?_
  refine sw_cllV_I (st := []) (as := [.int x2]) (pc' := 13) ok (S_X0_has a0 x2) (by decide) lk_X0_44 rfl dX0_isPair_10 rfl (Nat.le_of_ble_eq_true rfl) rfl (fun v3 => ?_)
  refine sw_if_eq (tgt := 25) (pc' := 16) ok dX0_isPair_13 (by decide) rfl ?_ ?_
  · refine sw_fg (l' := [none, none, none]) [false, false, false] rfl ?_
    exact hk2
  refine sw_iload_n (z := x1) (pc' := 17) ok dX0_isPair_16 rfl rfl ?_
  refine sw_iload_n (z := x2) (pc' := 18) ok dX0_isPair_17 rfl rfl ?_
  refine sw_icmp_eq (tgt := 25) (pc' := 21) ok dX0_isPair_18 (by decide) rfl ?_ ?_
  · refine sw_fg (l' := [none, none, none]) [false, false, false] rfl ?_
    exact hk2
  refine sw_iconst (v := 1) (pc' := 22) ok dX0_isPair_21 rfl cc_iconst_1 ?_
  refine sw_goto (tgt := 26) ok dX0_isPair_22 (by decide) ?_
  exact sw_retZ ok okr dX0_isPair_26
theorem S_X0_isPair (a0 : Nat) (x1 : Int32) (x2 : Int32) : Sim 1 yX0_isPair cX0_isPair 3 (some .boolean) iI [.ref a0, .int x1, .int x2] (P_X0_isPair a0 x1 x2) := Sim.intro wd_926 (by decide) (by decide +kernel) (Nat.le_of_ble_eq_true rfl) (fun Γ ok okr => W_X0_isPair ok okr a0 x1 x2)
theorem dX0_letQuarrel_0 : decode cX0_letQuarrel 0 = .ok (.aload_n 0, 1) := by decide +kernel
theorem dX0_letQuarrel_1 : decode cX0_letQuarrel 1 = .ok (.iload_n 1, 1) := by decide +kernel
theorem dX0_letQuarrel_2 : decode cX0_letQuarrel 2 = .ok (.iload_n 2, 1) := by decide +kernel
theorem dX0_letQuarrel_3 : decode cX0_letQuarrel 3 = .ok (.invokevirtual 40, 3) := by decide +kernel
theorem dX0_letQuarrel_6 : decode cX0_letQuarrel 6 = .ok (.ifCond .eq 27, 3) := by decide +kernel
theorem dX0_letQuarrel_9 : decode cX0_letQuarrel 9 = .ok (.aload_n 0, 1) := by decide +kernel
theorem dX0_letQuarrel_10 : decode cX0_letQuarrel 10 = .ok (.getfield 21, 3) := by decide +kernel
theorem dX0_letQuarrel_13 : decode cX0_letQuarrel 13 = .ok (.iload_n 1, 1) := by decide +kernel
theorem dX0_letQuarrel_14 : decode cX0_letQuarrel 14 = .ok (.dup2, 1) := by decide +kernel
theorem dX0_letQuarrel_15 : decode cX0_letQuarrel 15 = .ok (.iaload, 1) := by decide +kernel
theorem dX0_letQuarrel_16 : decode cX0_letQuarrel 16 = .ok (.iconst 1, 1) := by decide +kernel
theorem dX0_letQuarrel_17 : decode cX0_letQuarrel 17 = .ok (.iload_n 2, 1) := by decide +kernel
theorem dX0_letQuarrel_18 : decode cX0_letQuarrel 18 = .ok (.ishl, 1) := by decide +kernel
theorem dX0_letQuarrel_19 : decode cX0_letQuarrel 19 = .ok (.ior, 1) := by decide +kernel
theorem dX0_letQuarrel_20 : decode cX0_letQuarrel 20 = .ok (.iastore, 1) := by decide +kernel
theorem dX0_letQuarrel_21 : decode cX0_letQuarrel 21 = .ok (.aload_n 0, 1) := by decide +kernel
theorem dX0_letQuarrel_22 : decode cX0_letQuarrel 22 = .ok (.getfield 21, 3) := by decide +kernel
theorem dX0_letQuarrel_25 : decode cX0_letQuarrel 25 = .ok (.iload_n 2, 1) := by decide +kernel
theorem dX0_letQuarrel_26 : decode cX0_letQuarrel 26 = .ok (.dup2, 1) := by decide +kernel
theorem dX0_letQuarrel_27 : decode cX0_letQuarrel 27 = .ok (.iaload, 1) := by decide +kernel
theorem dX0_letQuarrel_28 : decode cX0_letQuarrel 28 = .ok (.iconst 1, 1) := by decide +kernel
theorem dX0_letQuarrel_29 : decode cX0_letQuarrel 29 = .ok (.iload_n 1, 1) := by decide +kernel
theorem dX0_letQuarrel_30 : decode cX0_letQuarrel 30 = .ok (.ishl, 1) := by decide +kernel
theorem dX0_letQuarrel_31 : decode cX0_letQuarrel 31 = .ok (.ior, 1) := by decide +kernel
theorem dX0_letQuarrel_32 : decode cX0_letQuarrel 32 = .ok (.iastore, 1) := by decide +kernel
theorem dX0_letQuarrel_33 : decode cX0_letQuarrel 33 = .ok (.return_, 1) := by decide +kernel
def P_X0_letQuarrel (a0 : Nat) (x1 : Int32) (x2 : Int32) : PM Unit :=
cllV 0 a0 (P_X0_isPair a0 x1 x2) fun v1 =>
ifB (decide (v1 = 0)) (
pureM ()) (
getR 0 3 a0 fun v2 =>
ald v2 x1 fun v3 =>
ast v2 x1 (v3 ||| (1 <<< (x2 &&& 31))) <|
getR 0 3 a0 fun v4 =>
ald v4 x2 fun v5 =>
ast v4 x2 (v5 ||| (1 <<< (x1 &&& 31))) <|
pureM ())
set_option maxHeartbeats 4000000 in
set_option maxRecDepth 100000 in
theorem W_X0_letQuarrel {Γ : Cx} (ok : OKc Γ cX0_letQuarrel RX0 2 "letQuarrel") (okr : OKr Γ cX0_letQuarrel (none)) (a0 : Nat) (x1 : Int32) (x2 : Int32) : SW Γ iU 0 [some (.ref a0), some (.int x1), some (.int x2)] [] (P_X0_letQuarrel a0 x1 x2) := by
  unfold P_X0_letQuarrel
  refine sw_aload_n (z := a0) (pc' := 1) ok dX0_letQuarrel_0 rfl rfl ?_
  refine sw_iload_n (z := x1) (pc' := 2) ok dX0_letQuarrel_1 rfl rfl ?_
  refine sw_iload_n (z := x2) (pc' := 3) ok dX0_letQuarrel_2 rfl rfl ?_
  refine sw_cllV_I (st := []) (as := [.int x1, .int x2]) (pc' := 6) ok (S_X0_isPair a0 x1 x2) (by decide) lk_X0_40 rfl dX0_letQuarrel_3 rfl (Nat.le_of_ble_eq_true rfl) rfl (fun v1 => ?_)
  refine sw_if_eq (tgt := 33) (pc' := 9) ok dX0_letQuarrel_6 (by decide) rfl ?_ ?_
  · exact sw_ret ok okr dX0_letQuarrel_33 trivial rfl
  refine sw_aload_n (z := a0) (pc' := 10) ok dX0_letQuarrel_9 rfl rfl ?_
  refine sw_getR (pc' := 13) ok (fr_X0_21.g) dX0_letQuarrel_10 rfl (fun v2 => ?_)
  refine sw_iload_n (z := x1) (pc' := 14) ok dX0_letQuarrel_13 rfl rfl ?_
  refine sw_dup2 (pc' := 15) ok dX0_letQuarrel_14 rfl rfl rfl ?_
  refine sw_ald (pc' := 16) ok dX0_letQuarrel_15 rfl (fun v3 => ?_)
  refine sw_iconst (v := 1) (pc' := 17) ok dX0_letQuarrel_16 rfl cc_iconst_1 ?_
  refine sw_iload_n (z := x2) (pc' := 18) ok dX0_letQuarrel_17 rfl rfl ?_
  refine sw_ishl (pc' := 19) ok dX0_letQuarrel_18 rfl ?_
  refine sw_ior (pc' := 20) ok dX0_letQuarrel_19 rfl ?_
  refine sw_ast (pc' := 21) ok dX0_letQuarrel_20 rfl ?_
  refine sw_aload_n (z := a0) (pc' := 22) ok dX0_letQuarrel_21 rfl rfl ?_
  refine sw_getR (pc' := 25) ok (fr_X0_21.g) dX0_letQuarrel_22 rfl (fun v4 => ?_)
  refine sw_iload_n (z := x2) (pc' := 26) ok dX0_letQuarrel_25 rfl rfl ?_
  refine sw_dup2 (pc' := 27) ok dX0_letQuarrel_26 rfl rfl rfl ?_
  refine sw_ald (pc' := 28) ok dX0_letQuarrel_27 rfl (fun v5 => ?_)
  refine sw_iconst (v := 1) (pc' := 29) ok dX0_letQuarrel_28 rfl cc_iconst_1 ?_
  refine sw_iload_n (z := x1) (pc' := 30) ok dX0_letQuarrel_29 rfl rfl ?_
  refine sw_ishl (pc' := 31) ok dX0_letQuarrel_30 rfl ?_
  refine sw_ior (pc' := 32) ok dX0_letQuarrel_31 rfl ?_
  refine sw_ast (pc' := 33) ok dX0_letQuarrel_32 rfl ?_
  exact sw_ret ok okr dX0_letQuarrel_33 trivial rfl
theorem S_X0_letQuarrel (a0 : Nat) (x1 : Int32) (x2 : Int32) : Sim 2 yX0_letQuarrel cX0_letQuarrel 3 (none) iU [.ref a0, .int x1, .int x2] (P_X0_letQuarrel a0 x1 x2) := Sim.intro wd_927 (by decide) (by decide +kernel) (Nat.le_of_ble_eq_true rfl) (fun Γ ok okr => W_X0_letQuarrel ok okr a0 x1 x2)
theorem dX0_isNobody_0 : decode cX0_isNobody 0 = .ok (.aload_n 0, 1) := by decide +kernel
theorem dX0_isNobody_1 : decode cX0_isNobody 1 = .ok (.getfield 24, 3) := by decide +kernel
theorem dX0_isNobody_4 : decode cX0_isNobody 4 = .ok (.ifCond .ne 7, 3) := by decide +kernel
theorem dX0_isNobody_7 : decode cX0_isNobody 7 = .ok (.iconst 1, 1) := by decide +kernel
theorem dX0_isNobody_8 : decode cX0_isNobody 8 = .ok (.goto 4, 3) := by decide +kernel
theorem dX0_isNobody_11 : decode cX0_isNobody 11 = .ok (.iconst 0, 1) := by decide +kernel
theorem dX0_isNobody_12 : decode cX0_isNobody 12 = .ok (.ireturn, 1) := by decide +kernel
def P_X0_isNobody (a0 : Nat) : PM Int32 :=
getI 0 4 a0 fun v1 =>
ifB (decide (¬ v1 = 0)) (
retZ 0) (
retZ 1)
set_option maxHeartbeats 4000000 in
set_option maxRecDepth 100000 in
theorem W_X0_isNobody {Γ : Cx} (ok : OKc Γ cX0_isNobody RX0 0 "isNobody") (okr : OKr Γ cX0_isNobody (some .boolean)) (a0 : Nat) : SW Γ iI 0 [some (.ref a0)] [] (P_X0_isNobody a0) := by
  unfold P_X0_isNobody
  refine sw_aload_n (z := a0) (pc' := 1) ok dX0_isNobody_0 rfl rfl ?_
  refine sw_getI (pc' := 4) ok (fr_X0_24.g) dX0_isNobody_1 rfl (fun v1 => ?_)
  refine sw_if_ne (tgt := 11) (pc' := 7) ok dX0_isNobody_4 (by decide) rfl ?_ ?_
  · refine sw_iconst (v := 0) (pc' := 12) ok dX0_isNobody_11 rfl cc_iconst_0 ?_
    exact sw_retZ ok okr dX0_isNobody_12
  refine sw_iconst (v := 1) (pc' := 8) ok dX0_isNobody_7 rfl cc_iconst_1 ?_
  refine sw_goto (tgt := 12) ok dX0_isNobody_8 (by decide) ?_
  exact sw_retZ ok okr dX0_isNobody_12
theorem S_X0_isNobody (a0 : Nat) : Sim 0 yX0_isNobody cX0_isNobody 1 (some .boolean) iI [.ref a0] (P_X0_isNobody a0) := Sim.intro wd_928 (by decide) (by decide +kernel) (Nat.le_of_ble_eq_true rfl) (fun Γ ok okr => W_X0_isNobody ok okr a0)
theorem dX0_isWatch_0 : decode cX0_isWatch 0 = .ok (.iload_n 1, 1) := by decide +kernel
theorem dX0_isWatch_1 : decode cX0_isWatch 1 = .ok (.ifCond .lt 29, 3) := by decide +kernel
theorem dX0_isWatch_4 : decode cX0_isWatch 4 = .ok (.iload_n 1, 1) := by decide +kernel
theorem dX0_isWatch_5 : decode cX0_isWatch 5 = .ok (.bipush 10, 2) := by decide +kernel
theorem dX0_isWatch_7 : decode cX0_isWatch 7 = .ok (.idiv, 1) := by decide +kernel
theorem dX0_isWatch_8 : decode cX0_isWatch 8 = .ok (.iload_n 1, 1) := by decide +kernel
theorem dX0_isWatch_9 : decode cX0_isWatch 9 = .ok (.bipush 10, 2) := by decide +kernel
theorem dX0_isWatch_11 : decode cX0_isWatch 11 = .ok (.irem, 1) := by decide +kernel
theorem dX0_isWatch_12 : decode cX0_isWatch 12 = .ok (.if_icmp .ge 18, 3) := by decide +kernel
theorem dX0_isWatch_15 : decode cX0_isWatch 15 = .ok (.aload_n 0, 1) := by decide +kernel
theorem dX0_isWatch_16 : decode cX0_isWatch 16 = .ok (.iload_n 1, 1) := by decide +kernel
theorem dX0_isWatch_17 : decode cX0_isWatch 17 = .ok (.bipush 10, 2) := by decide +kernel
theorem dX0_isWatch_19 : decode cX0_isWatch 19 = .ok (.irem, 1) := by decide +kernel
theorem dX0_isWatch_20 : decode cX0_isWatch 20 = .ok (.invokevirtual 44, 3) := by decide +kernel
theorem dX0_isWatch_23 : decode cX0_isWatch 23 = .ok (.ifCond .eq 7, 3) := by decide +kernel
theorem dX0_isWatch_26 : decode cX0_isWatch 26 = .ok (.iconst 1, 1) := by decide +kernel
theorem dX0_isWatch_27 : decode cX0_isWatch 27 = .ok (.goto 4, 3) := by decide +kernel
theorem dX0_isWatch_30 : decode cX0_isWatch 30 = .ok (.iconst 0, 1) := by decide +kernel
theorem dX0_isWatch_31 : decode cX0_isWatch 31 = .ok (.ireturn, 1) := by decide +kernel
def P_X0_isWatch (a0 : Nat) (x1 : Int32) : PM Int32 :=
jn (
retZ 0) fun k1 =>
ifB (decide (x1 < 0)) (
k1) (
divI x1 10 fun v2 =>
remI x1 10 fun v3 =>
ifB (decide (v3 ≤ v2)) (
k1) (
remI x1 10 fun v4 =>
cllV 0 a0 (P_X0_has a0 v4) fun v5 =>
ifB (decide (v5 = 0)) (
k1) (
retZ 1)))
set_option maxHeartbeats 4000000 in
set_option maxRecDepth 100000 in
theorem W_X0_isWatch {Γ : Cx} (ok : OKc Γ cX0_isWatch RX0 1 "isWatch") (okr : OKr Γ cX0_isWatch (some .boolean)) (a0 : Nat) (x1 : Int32) : SW Γ iI 0 [some (.ref a0), some (.int x1)] [] (P_X0_isWatch a0 x1) := by
  unfold P_X0_isWatch
  refine sw_iload_n (z := x1) (pc' := 1) ok dX0_isWatch_0 rfl rfl ?_
  refine sw_jn (fun k1 : PM Int32 => SW Γ iI 30 [none, none] [] (k1)) ?_ (fun k1 hk1 => ?_)
  · refine sw_iconst (v := 0) (pc' := 31) ok dX0_isWatch_30 rfl cc_iconst_0 ?_
    exact sw_retZ ok okr dX0_isWatch_31
  refine sw_if_lt (tgt := 30) (pc' := 4) ok dX0_isWatch_1 (by decide) rfl ?_ ?_
  · refine sw_fg (l' := [none, none]) [false, false] rfl ?_
    exact hk1
  refine sw_iload_n (z := x1) (pc' := 5) ok dX0_isWatch_4 rfl rfl ?_
  refine sw_bipush (v := 10) (pc' := 7) ok dX0_isWatch_5 rfl cc_bipush_10 ?_
  refine sw_divI (pc' := 8) ok dX0_isWatch_7 rfl (fun v2 => ?_)
  refine sw_iload_n (z := x1) (pc' := 9) ok dX0_isWatch_8 rfl rfl ?_
  refine sw_bipush (v := 10) (pc' := 11) ok dX0_isWatch_9 rfl cc_bipush_10 ?_
  refine sw_remI (pc' := 12) ok dX0_isWatch_11 rfl (fun v3 => ?_)
  refine sw_icmp_ge (tgt := 30) (pc' := 15) ok dX0_isWatch_12 (by decide) rfl ?_ ?_
  · refine sw_fg (l' := [none, none]) [false, false] rfl ?_
    exact hk1
  refine sw_aload_n (z := a0) (pc' := 16) ok dX0_isWatch_15 rfl rfl ?_
  refine sw_iload_n (z := x1) (pc' := 17) ok dX0_isWatch_16 rfl rfl ?_
  refine sw_bipush (v := 10) (pc' := 19) ok dX0_isWatch_17 rfl cc_bipush_10 ?_
  refine sw_remI (pc' := 20) ok dX0_isWatch_19 rfl (fun v4 => ?_)
  refine sw_cllV_I (st := []) (as := [.int v4]) (pc' := 23) ok (S_X0_has a0 v4) (by decide) lk_X0_44 rfl dX0_isWatch_20 rfl (Nat.le_of_ble_eq_true rfl) rfl (fun v5 => ?_)
  refine sw_if_eq (tgt := 30) (pc' := 26) ok dX0_isWatch_23 (by decide) rfl ?_ ?_
  · refine sw_fg (l' := [none, none]) [false, false] rfl ?_
    exact hk1
  refine sw_iconst (v := 1) (pc' := 27) ok dX0_isWatch_26 rfl cc_iconst_1 ?_
  refine sw_goto (tgt := 31) ok dX0_isWatch_27 (by decide) ?_
  exact sw_retZ ok okr dX0_isWatch_31
theorem S_X0_isWatch (a0 : Nat) (x1 : Int32) : Sim 1 yX0_isWatch cX0_isWatch 2 (some .boolean) iI [.ref a0, .int x1] (P_X0_isWatch a0 x1) := Sim.intro wd_929 (by decide) (by decide +kernel) (Nat.le_of_ble_eq_true rfl) (fun Γ ok okr => W_X0_isWatch ok okr a0 x1)
theorem dX0_everybody_0 : decode cX0_everybody 0 = .ok (.iconst 1, 1) := by decide +kernel
theorem dX0_everybody_1 : decode cX0_everybody 1 = .ok (.aload_n 0, 1) := by decide +kernel
theorem dX0_everybody_2 : decode cX0_everybody 2 = .ok (.getfield 24, 3) := by decide +kernel
theorem dX0_everybody_5 : decode cX0_everybody 5 = .ok (.ishl, 1) := by decide +kernel
theorem dX0_everybody_6 : decode cX0_everybody 6 = .ok (.iconst 1, 1) := by decide +kernel
theorem dX0_everybody_7 : decode cX0_everybody 7 = .ok (.isub, 1) := by decide +kernel
theorem dX0_everybody_8 : decode cX0_everybody 8 = .ok (.ireturn, 1) := by decide +kernel
def P_X0_everybody (a0 : Nat) : PM Int32 :=
getI 0 4 a0 fun v1 =>
pureM ((1 <<< (v1 &&& 31)) - 1)
set_option maxHeartbeats 4000000 in
set_option maxRecDepth 100000 in
theorem W_X0_everybody {Γ : Cx} (ok : OKc Γ cX0_everybody RX0 0 "everybody") (okr : OKr Γ cX0_everybody (some .int)) (a0 : Nat) : SW Γ iI 0 [some (.ref a0)] [] (P_X0_everybody a0) := by
  unfold P_X0_everybody
  refine sw_iconst (v := 1) (pc' := 1) ok dX0_everybody_0 rfl cc_iconst_1 ?_
  refine sw_aload_n (z := a0) (pc' := 2) ok dX0_everybody_1 rfl rfl ?_
  refine sw_getI (pc' := 5) ok (fr_X0_24.g) dX0_everybody_2 rfl (fun v1 => ?_)
  refine sw_ishl (pc' := 6) ok dX0_everybody_5 rfl ?_
  refine sw_iconst (v := 1) (pc' := 7) ok dX0_everybody_6 rfl cc_iconst_1 ?_
  refine sw_isub (pc' := 8) ok dX0_everybody_7 rfl ?_
  exact sw_ret ok okr dX0_everybody_8 trivial rfl
theorem S_X0_everybody (a0 : Nat) : Sim 0 yX0_everybody cX0_everybody 1 (some .int) iI [.ref a0] (P_X0_everybody a0) := Sim.intro wd_930 (by decide) (by decide +kernel) (Nat.le_of_ble_eq_true rfl) (fun Γ ok okr => W_X0_everybody ok okr a0)
theorem dX0_isOfKind_0 : decode cX0_isOfKind 0 = .ok (.iload_n 0, 1) := by decide +kernel
theorem dX0_isOfKind_1 : decode cX0_isOfKind 1 = .ok (.iload_n 1, 1) := by decide +kernel
theorem dX0_isOfKind_2 : decode cX0_isOfKind 2 = .ok (.if_icmp .eq 27, 3) := by decide +kernel
theorem dX0_isOfKind_5 : decode cX0_isOfKind 5 = .ok (.iload_n 1, 1) := by decide +kernel
theorem dX0_isOfKind_6 : decode cX0_isOfKind 6 = .ok (.ifCond .eq 23, 3) := by decide +kernel
theorem dX0_isOfKind_9 : decode cX0_isOfKind 9 = .ok (.iload_n 0, 1) := by decide +kernel
theorem dX0_isOfKind_10 : decode cX0_isOfKind 10 = .ok (.iconst 4, 1) := by decide +kernel
theorem dX0_isOfKind_11 : decode cX0_isOfKind 11 = .ok (.if_icmp .ne 8, 3) := by decide +kernel
theorem dX0_isOfKind_14 : decode cX0_isOfKind 14 = .ok (.iload_n 1, 1) := by decide +kernel
theorem dX0_isOfKind_15 : decode cX0_isOfKind 15 = .ok (.iconst 1, 1) := by decide +kernel
theorem dX0_isOfKind_16 : decode cX0_isOfKind 16 = .ok (.if_icmp .eq 13, 3) := by decide +kernel
theorem dX0_isOfKind_19 : decode cX0_isOfKind 19 = .ok (.iload_n 0, 1) := by decide +kernel
theorem dX0_isOfKind_20 : decode cX0_isOfKind 20 = .ok (.iconst 5, 1) := by decide +kernel
theorem dX0_isOfKind_21 : decode cX0_isOfKind 21 = .ok (.if_icmp .ne 12, 3) := by decide +kernel
theorem dX0_isOfKind_24 : decode cX0_isOfKind 24 = .ok (.iload_n 1, 1) := by decide +kernel
theorem dX0_isOfKind_25 : decode cX0_isOfKind 25 = .ok (.iconst 2, 1) := by decide +kernel
theorem dX0_isOfKind_26 : decode cX0_isOfKind 26 = .ok (.if_icmp .ne 7, 3) := by decide +kernel
theorem dX0_isOfKind_29 : decode cX0_isOfKind 29 = .ok (.iconst 1, 1) := by decide +kernel
theorem dX0_isOfKind_30 : decode cX0_isOfKind 30 = .ok (.goto 4, 3) := by decide +kernel
theorem dX0_isOfKind_33 : decode cX0_isOfKind 33 = .ok (.iconst 0, 1) := by decide +kernel
theorem dX0_isOfKind_34 : decode cX0_isOfKind 34 = .ok (.ireturn, 1) := by decide +kernel
def P_X0_isOfKind (x0 : Int32) (x1 : Int32) : PM Int32 :=
jn (
retZ 1) fun k1 =>
ifB (decide (x0 = x1)) (
k1) (
ifB (decide (x1 = 0)) (
k1) (
jn (
jn (
retZ 0) fun k2 =>
ifB (decide (¬ x0 = 5)) (
k2) (
ifB (decide (¬ x1 = 2)) (
k2) (
k1))) fun k3 =>
ifB (decide (¬ x0 = 4)) (
k3) (
ifB (decide (x1 = 1)) (
k1) (
k3))))
set_option maxHeartbeats 4000000 in
set_option maxRecDepth 100000 in
theorem W_X0_isOfKind {Γ : Cx} (ok : OKc Γ cX0_isOfKind RX0 0 "isOfKind") (okr : OKr Γ cX0_isOfKind (some .boolean)) (x0 : Int32) (x1 : Int32) : SW Γ iI 0 [some (.int x0), some (.int x1)] [] (P_X0_isOfKind x0 x1) := by
  unfold P_X0_isOfKind
  refine sw_iload_n (z := x0) (pc' := 1) ok dX0_isOfKind_0 rfl rfl ?_
  refine sw_iload_n (z := x1) (pc' := 2) ok dX0_isOfKind_1 rfl rfl ?_
  refine sw_jn (fun k1 : PM Int32 => SW Γ iI 29 [none, none] [] (k1)) ?_ (fun k1 hk1 => ?_)
  · refine sw_iconst (v := 1) (pc' := 30) ok dX0_isOfKind_29 rfl cc_iconst_1 ?_
    refine sw_goto (tgt := 34) ok dX0_isOfKind_30 (by decide) ?_
    exact sw_retZ ok okr dX0_isOfKind_34
  refine sw_icmp_eq (tgt := 29) (pc' := 5) ok dX0_isOfKind_2 (by decide) rfl ?_ ?_
  · refine sw_fg (l' := [none, none]) [false, false] rfl ?_
    exact hk1
  refine sw_iload_n (z := x1) (pc' := 6) ok dX0_isOfKind_5 rfl rfl ?_
  refine sw_if_eq (tgt := 29) (pc' := 9) ok dX0_isOfKind_6 (by decide) rfl ?_ ?_
  · refine sw_fg (l' := [none, none]) [false, false] rfl ?_
    exact hk1
  refine sw_iload_n (z := x0) (pc' := 10) ok dX0_isOfKind_9 rfl rfl ?_
  refine sw_iconst (v := 4) (pc' := 11) ok dX0_isOfKind_10 rfl cc_iconst_4 ?_
  refine sw_jn (fun k3 : PM Int32 => SW Γ iI 19 [some (.int x0), some (.int x1)] [] (k3)) ?_ (fun k3 hk3 => ?_)
  · refine sw_iload_n (z := x0) (pc' := 20) ok dX0_isOfKind_19 rfl rfl ?_
    refine sw_iconst (v := 5) (pc' := 21) ok dX0_isOfKind_20 rfl cc_iconst_5 ?_
    refine sw_jn (fun k2 : PM Int32 => SW Γ iI 33 [none, none] [] (k2)) ?_ (fun k2 hk2 => ?_)
    · refine sw_iconst (v := 0) (pc' := 34) ok dX0_isOfKind_33 rfl cc_iconst_0 ?_
      exact sw_retZ ok okr dX0_isOfKind_34
    refine sw_icmp_ne (tgt := 33) (pc' := 24) ok dX0_isOfKind_21 (by decide) rfl ?_ ?_
    · refine sw_fg (l' := [none, none]) [false, false] rfl ?_
      exact hk2
    refine sw_iload_n (z := x1) (pc' := 25) ok dX0_isOfKind_24 rfl rfl ?_
    refine sw_iconst (v := 2) (pc' := 26) ok dX0_isOfKind_25 rfl cc_iconst_2 ?_
    refine sw_icmp_ne (tgt := 33) (pc' := 29) ok dX0_isOfKind_26 (by decide) rfl ?_ ?_
    · refine sw_fg (l' := [none, none]) [false, false] rfl ?_
      exact hk2
    refine sw_fg (l' := [none, none]) [false, false] rfl ?_
    exact hk1
  refine sw_icmp_ne (tgt := 19) (pc' := 14) ok dX0_isOfKind_11 (by decide) rfl ?_ ?_
  · exact hk3
  refine sw_iload_n (z := x1) (pc' := 15) ok dX0_isOfKind_14 rfl rfl ?_
  refine sw_iconst (v := 1) (pc' := 16) ok dX0_isOfKind_15 rfl cc_iconst_1 ?_
  refine sw_icmp_eq (tgt := 29) (pc' := 19) ok dX0_isOfKind_16 (by decide) rfl ?_ ?_
  · refine sw_fg (l' := [none, none]) [false, false] rfl ?_
    exact hk1
  exact hk3
theorem S_X0_isOfKind (x0 : Int32) (x1 : Int32) : Sim 0 yX0_isOfKind cX0_isOfKind 2 (some .boolean) iI [.int x0, .int x1] (P_X0_isOfKind x0 x1) := Sim.intro wd_931 (by decide) (by decide +kernel) (Nat.le_of_ble_eq_true rfl) (fun Γ ok okr => W_X0_isOfKind ok okr x0 x1)
theorem dX0_lovers_0 : decode cX0_lovers 0 = .ok (.iconst 0, 1) := by decide +kernel
theorem dX0_lovers_1 : decode cX0_lovers 1 = .ok (.istore_n 1, 1) := by decide +kernel
theorem dX0_lovers_2 : decode cX0_lovers 2 = .ok (.iconst 0, 1) := by decide +kernel
theorem dX0_lovers_3 : decode cX0_lovers 3 = .ok (.istore_n 2, 1) := by decide +kernel
theorem dX0_lovers_4 : decode cX0_lovers 4 = .ok (.iload_n 2, 1) := by decide +kernel
theorem dX0_lovers_5 : decode cX0_lovers 5 = .ok (.aload_n 0, 1) := by decide +kernel
theorem dX0_lovers_6 : decode cX0_lovers 6 = .ok (.getfield 24, 3) := by decide +kernel
theorem dX0_lovers_9 : decode cX0_lovers 9 = .ok (.if_icmp .ge 25, 3) := by decide +kernel
theorem dX0_lovers_12 : decode cX0_lovers 12 = .ok (.aload_n 0, 1) := by decide +kernel
theorem dX0_lovers_13 : decode cX0_lovers 13 = .ok (.getfield 11, 3) := by decide +kernel
theorem dX0_lovers_16 : decode cX0_lovers 16 = .ok (.iload_n 2, 1) := by decide +kernel
theorem dX0_lovers_17 : decode cX0_lovers 17 = .ok (.iaload, 1) := by decide +kernel
theorem dX0_lovers_18 : decode cX0_lovers 18 = .ok (.iconst 2, 1) := by decide +kernel
theorem dX0_lovers_19 : decode cX0_lovers 19 = .ok (.invokestatic 48, 3) := by decide +kernel
theorem dX0_lovers_22 : decode cX0_lovers 22 = .ok (.ifCond .eq 6, 3) := by decide +kernel
theorem dX0_lovers_25 : decode cX0_lovers 25 = .ok (.iinc 1 1, 3) := by decide +kernel
theorem dX0_lovers_28 : decode cX0_lovers 28 = .ok (.iinc 2 1, 3) := by decide +kernel
theorem dX0_lovers_31 : decode cX0_lovers 31 = .ok (.goto (-27), 3) := by decide +kernel
theorem dX0_lovers_34 : decode cX0_lovers 34 = .ok (.iload_n 1, 1) := by decide +kernel
theorem dX0_lovers_35 : decode cX0_lovers 35 = .ok (.ireturn, 1) := by decide +kernel
def P_X0_lovers_4 (p0 : Nat) : Nat → Int32 → Int32 → PM Int32
  | 0, _, _ => failM
  | n + 1, q1, q2 =>
    getI 0 4 p0 fun v1 =>
    ifB (decide (v1 ≤ q2)) (
    pureM q1) (
    getR 0 0 p0 fun v2 =>
    ald v2 q2 fun v3 =>
    cll0 (P_X0_isOfKind v3 2) fun v4 =>
    jn (fun (j5 : Int32) =>
    P_X0_lovers_4 p0 n j5 (q2 + 1)) fun k6 =>
    ifB (decide (v4 = 0)) (
    k6 q1) (
    k6 (q1 + 1)))
def P_X0_lovers (a0 : Nat) : PM Int32 :=
P_X0_lovers_4 a0 4000 0 0
set_option maxHeartbeats 4000000 in
set_option maxRecDepth 100000 in
theorem W_X0_lovers_4 {Γ : Cx} (ok : OKc Γ cX0_lovers RX0 1 "lovers") (okr : OKr Γ cX0_lovers (some .int)) (p0 : Nat) : ∀ (n : Nat) (q1 : Int32) (q2 : Int32), SW Γ iI 4 [some (.ref p0), some (.int q1), some (.int q2)] [] (P_X0_lovers_4 p0 n q1 q2) := by
  intro n
  induction n with
  | zero =>
    intros
    exact sw_fail
  | succ n ih =>
    intro q1 q2
    unfold P_X0_lovers_4
    refine sw_iload_n (z := q2) (pc' := 5) ok dX0_lovers_4 rfl rfl ?_
    refine sw_aload_n (z := p0) (pc' := 6) ok dX0_lovers_5 rfl rfl ?_
    refine sw_getI (pc' := 9) ok (fr_X0_24.g) dX0_lovers_6 rfl (fun v1 => ?_)
    refine sw_icmp_ge (tgt := 34) (pc' := 12) ok dX0_lovers_9 (by decide) rfl ?_ ?_
    · refine sw_iload_n (z := q1) (pc' := 35) ok dX0_lovers_34 rfl rfl ?_
      exact sw_ret ok okr dX0_lovers_35 trivial rfl
    refine sw_aload_n (z := p0) (pc' := 13) ok dX0_lovers_12 rfl rfl ?_
    refine sw_getR (pc' := 16) ok (fr_X0_11.g) dX0_lovers_13 rfl (fun v2 => ?_)
    refine sw_iload_n (z := q2) (pc' := 17) ok dX0_lovers_16 rfl rfl ?_
    refine sw_ald (pc' := 18) ok dX0_lovers_17 rfl (fun v3 => ?_)
    refine sw_iconst (v := 2) (pc' := 19) ok dX0_lovers_18 rfl cc_iconst_2 ?_
    refine sw_cll0_I (st := []) (as := [.int v3, .int 2]) (pc' := 22) ok (S_X0_isOfKind v3 2) (by decide) lk_X0_48 rfl dX0_lovers_19 rfl (Nat.le_of_ble_eq_true rfl) rfl (fun v4 => ?_)
    refine sw_jn (fun k6 : Int32 → PM Int32 => ∀ (j5 : Int32), SW Γ iI 28 [some (.ref p0), some (.int j5), some (.int q2)] [] (k6 j5)) ?_ (fun k6 hk6 => ?_)
    · intro j5
      refine sw_iinc (z := q2) (v := q2 + 1) (pc' := 31) (l' := [some (.ref p0), some (.int j5), some (.int (q2 + 1))]) ok dX0_lovers_28 rfl rfl (by rw [cc_iconst_1]) rfl ?_
      refine sw_goto (tgt := 4) ok dX0_lovers_31 (by decide) ?_
      exact ih j5 (q2 + 1)
    refine sw_if_eq (tgt := 28) (pc' := 25) ok dX0_lovers_22 (by decide) rfl ?_ ?_
    · exact hk6 q1
    refine sw_iinc (z := q1) (v := q1 + 1) (pc' := 28) (l' := [some (.ref p0), some (.int (q1 + 1)), some (.int q2)]) ok dX0_lovers_25 rfl rfl (by rw [cc_iconst_1]) rfl ?_
    exact hk6 (q1 + 1)
set_option maxHeartbeats 4000000 in
set_option maxRecDepth 100000 in
theorem W_X0_lovers {Γ : Cx} (ok : OKc Γ cX0_lovers RX0 1 "lovers") (okr : OKr Γ cX0_lovers (some .int)) (a0 : Nat) : SW Γ iI 0 [some (.ref a0), none, none] [] (P_X0_lovers a0) := by
  unfold P_X0_lovers
  refine sw_iconst (v := 0) (pc' := 1) ok dX0_lovers_0 rfl cc_iconst_0 ?_
  refine sw_istore_n (pc' := 2) (l' := [some (.ref a0), some (.int 0), none]) ok dX0_lovers_1 rfl (Nat.le_of_ble_eq_true rfl) rfl ?_
  refine sw_iconst (v := 0) (pc' := 3) ok dX0_lovers_2 rfl cc_iconst_0 ?_
  refine sw_istore_n (pc' := 4) (l' := [some (.ref a0), some (.int 0), some (.int 0)]) ok dX0_lovers_3 rfl (Nat.le_of_ble_eq_true rfl) rfl ?_
  exact W_X0_lovers_4 ok okr a0 4000 0 0
theorem S_X0_lovers (a0 : Nat) : Sim 1 yX0_lovers cX0_lovers 3 (some .int) iI [.ref a0] (P_X0_lovers a0) := Sim.intro wd_932 (by decide) (by decide +kernel) (Nat.le_of_ble_eq_true rfl) (fun Γ ok okr => W_X0_lovers ok okr a0)
theorem dJ9_max_7cf53_0 : decode cJ9_max_7cf53 0 = .ok (.iload_n 0, 1) := by decide +kernel
theorem dJ9_max_7cf53_1 : decode cJ9_max_7cf53 1 = .ok (.iload_n 1, 1) := by decide +kernel
theorem dJ9_max_7cf53_2 : decode cJ9_max_7cf53 2 = .ok (.if_icmp .lt 7, 3) := by decide +kernel
theorem dJ9_max_7cf53_5 : decode cJ9_max_7cf53 5 = .ok (.iload_n 0, 1) := by decide +kernel
theorem dJ9_max_7cf53_6 : decode cJ9_max_7cf53 6 = .ok (.goto 4, 3) := by decide +kernel
theorem dJ9_max_7cf53_9 : decode cJ9_max_7cf53 9 = .ok (.iload_n 1, 1) := by decide +kernel
theorem dJ9_max_7cf53_10 : decode cJ9_max_7cf53 10 = .ok (.ireturn, 1) := by decide +kernel
def P_J9_max_7cf53 (x0 : Int32) (x1 : Int32) : PM Int32 :=
ifB (decide (x0 < x1)) (
pureM x1) (
pureM x0)
set_option maxHeartbeats 4000000 in
set_option maxRecDepth 100000 in
theorem W_J9_max_7cf53 {Γ : Cx} (ok : OKc Γ cJ9_max_7cf53 RJ9 0 "max") (okr : OKr Γ cJ9_max_7cf53 (some .int)) (x0 : Int32) (x1 : Int32) : SW Γ iI 0 [some (.int x0), some (.int x1)] [] (P_J9_max_7cf53 x0 x1) := by
  unfold P_J9_max_7cf53
  refine sw_iload_n (z := x0) (pc' := 1) ok dJ9_max_7cf53_0 rfl rfl ?_
  refine sw_iload_n (z := x1) (pc' := 2) ok dJ9_max_7cf53_1 rfl rfl ?_
  refine sw_icmp_lt (tgt := 9) (pc' := 5) ok dJ9_max_7cf53_2 (by decide) rfl ?_ ?_
  · refine sw_iload_n (z := x1) (pc' := 10) ok dJ9_max_7cf53_9 rfl rfl ?_
    exact sw_ret ok okr dJ9_max_7cf53_10 trivial rfl
  refine sw_iload_n (z := x0) (pc' := 6) ok dJ9_max_7cf53_5 rfl rfl ?_
  refine sw_goto (tgt := 10) ok dJ9_max_7cf53_6 (by decide) ?_
  exact sw_ret ok okr dJ9_max_7cf53_10 trivial rfl
theorem S_J9_max_7cf53 (x0 : Int32) (x1 : Int32) : Sim 0 yJ9_max_7cf53 cJ9_max_7cf53 2 (some .int) iI [.int x0, .int x1] (P_J9_max_7cf53 x0 x1) := Sim.introF wd_933 (by decide) (by decide +kernel) (Nat.le_of_ble_eq_true rfl) (fun Γ ok okr => W_J9_max_7cf53 ok okr x0 x1)
theorem dX0_tells_0 : decode cX0_tells 0 = .ok (.iload_n 0, 1) := by decide +kernel
theorem dX0_tells_1 : decode cX0_tells 1 = .ok (.iconst 5, 1) := by decide +kernel
theorem dX0_tells_2 : decode cX0_tells 2 = .ok (.if_icmp .ne 7, 3) := by decide +kernel
theorem dX0_tells_5 : decode cX0_tells 5 = .ok (.iconst 0, 1) := by decide +kernel
theorem dX0_tells_6 : decode cX0_tells 6 = .ok (.goto 10, 3) := by decide +kernel
theorem dX0_tells_9 : decode cX0_tells 9 = .ok (.iconst 0, 1) := by decide +kernel
theorem dX0_tells_10 : decode cX0_tells 10 = .ok (.iload_n 3, 1) := by decide +kernel
theorem dX0_tells_11 : decode cX0_tells 11 = .ok (.iload_n 2, 1) := by decide +kernel
theorem dX0_tells_12 : decode cX0_tells 12 = .ok (.isub, 1) := by decide +kernel
theorem dX0_tells_13 : decode cX0_tells 13 = .ok (.invokestatic 55, 3) := by decide +kernel
theorem dX0_tells_16 : decode cX0_tells 16 = .ok (.istore 5, 2) := by decide +kernel
theorem dX0_tells_18 : decode cX0_tells 18 = .ok (.iconst 0, 1) := by decide +kernel
theorem dX0_tells_19 : decode cX0_tells 19 = .ok (.iload_n 1, 1) := by decide +kernel
theorem dX0_tells_20 : decode cX0_tells 20 = .ok (.iconst 2, 1) := by decide +kernel
theorem dX0_tells_21 : decode cX0_tells 21 = .ok (.iload 5, 2) := by decide +kernel
theorem dX0_tells_23 : decode cX0_tells 23 = .ok (.imul, 1) := by decide +kernel
theorem dX0_tells_24 : decode cX0_tells 24 = .ok (.isub, 1) := by decide +kernel
theorem dX0_tells_25 : decode cX0_tells 25 = .ok (.invokestatic 55, 3) := by decide +kernel
theorem dX0_tells_28 : decode cX0_tells 28 = .ok (.istore 6, 2) := by decide +kernel
theorem dX0_tells_30 : decode cX0_tells 30 = .ok (.iload_n 0, 1) := by decide +kernel
theorem dX0_tells_31 : decode cX0_tells 31 = .ok (.tableswitch 80 1 5 #[33, 38, 54, 69, 38], 33) := by decide +kernel
theorem dX0_tells_64 : decode cX0_tells 64 = .ok (.iload 6, 2) := by decide +kernel
theorem dX0_tells_66 : decode cX0_tells 66 = .ok (.iconst 2, 1) := by decide +kernel
theorem dX0_tells_67 : decode cX0_tells 67 = .ok (.idiv, 1) := by decide +kernel
theorem dX0_tells_68 : decode cX0_tells 68 = .ok (.ireturn, 1) := by decide +kernel
theorem dX0_tells_69 : decode cX0_tells 69 = .ok (.iload 4, 2) := by decide +kernel
theorem dX0_tells_71 : decode cX0_tells 71 = .ok (.iconst 4, 1) := by decide +kernel
theorem dX0_tells_72 : decode cX0_tells 72 = .ok (.if_icmp .ge 10, 3) := by decide +kernel
theorem dX0_tells_75 : decode cX0_tells 75 = .ok (.iload 6, 2) := by decide +kernel
theorem dX0_tells_77 : decode cX0_tells 77 = .ok (.iconst 2, 1) := by decide +kernel
theorem dX0_tells_78 : decode cX0_tells 78 = .ok (.iadd, 1) := by decide +kernel
theorem dX0_tells_79 : decode cX0_tells 79 = .ok (.goto 5, 3) := by decide +kernel
theorem dX0_tells_82 : decode cX0_tells 82 = .ok (.iload 6, 2) := by decide +kernel
theorem dX0_tells_84 : decode cX0_tells 84 = .ok (.ireturn, 1) := by decide +kernel
theorem dX0_tells_85 : decode cX0_tells 85 = .ok (.iload 4, 2) := by decide +kernel
theorem dX0_tells_87 : decode cX0_tells 87 = .ok (.iconst 3, 1) := by decide +kernel
theorem dX0_tells_88 : decode cX0_tells 88 = .ok (.if_icmp .ge 10, 3) := by decide +kernel
theorem dX0_tells_91 : decode cX0_tells 91 = .ok (.iload 6, 2) := by decide +kernel
theorem dX0_tells_93 : decode cX0_tells 93 = .ok (.iconst 3, 1) := by decide +kernel
theorem dX0_tells_94 : decode cX0_tells 94 = .ok (.iadd, 1) := by decide +kernel
theorem dX0_tells_95 : decode cX0_tells 95 = .ok (.goto 4, 3) := by decide +kernel
theorem dX0_tells_98 : decode cX0_tells 98 = .ok (.iconst 0, 1) := by decide +kernel
theorem dX0_tells_99 : decode cX0_tells 99 = .ok (.ireturn, 1) := by decide +kernel
theorem dX0_tells_100 : decode cX0_tells 100 = .ok (.iconst 0, 1) := by decide +kernel
theorem dX0_tells_101 : decode cX0_tells 101 = .ok (.iload 6, 2) := by decide +kernel
theorem dX0_tells_103 : decode cX0_tells 103 = .ok (.iconst 2, 1) := by decide +kernel
theorem dX0_tells_104 : decode cX0_tells 104 = .ok (.idiv, 1) := by decide +kernel
theorem dX0_tells_105 : decode cX0_tells 105 = .ok (.iconst 1, 1) := by decide +kernel
theorem dX0_tells_106 : decode cX0_tells 106 = .ok (.isub, 1) := by decide +kernel
theorem dX0_tells_107 : decode cX0_tells 107 = .ok (.invokestatic 55, 3) := by decide +kernel
theorem dX0_tells_110 : decode cX0_tells 110 = .ok (.ireturn, 1) := by decide +kernel
theorem dX0_tells_111 : decode cX0_tells 111 = .ok (.iload 6, 2) := by decide +kernel
theorem dX0_tells_113 : decode cX0_tells 113 = .ok (.ireturn, 1) := by decide +kernel
def P_X0_tells (x0 : Int32) (x1 : Int32) (x2 : Int32) (x3 : Int32) (x4 : Int32) : PM Int32 :=
jn (fun (j1 : Int32) =>
cll0 (P_J9_max_7cf53 0 (x1 - (2 * j1))) fun v2 =>
swT x0 1 [
divI v2 2 fun v3 =>
pureM v3,
ifB (decide (4 ≤ x4)) (
pureM v2) (
pureM (v2 + 2)),
ifB (decide (3 ≤ x4)) (
pureM 0) (
pureM (v2 + 3)),
divI v2 2 fun v4 =>
cll0 (P_J9_max_7cf53 0 (v4 - 1)) fun v5 =>
pureM v5,
ifB (decide (4 ≤ x4)) (
pureM v2) (
pureM (v2 + 2))] (
pureM v2)) fun k6 =>
ifB (decide (¬ x0 = 5)) (
cll0 (P_J9_max_7cf53 0 (x3 - x2)) fun v7 =>
k6 v7) (
k6 0)
set_option maxHeartbeats 4000000 in
set_option maxRecDepth 100000 in
theorem W_X0_tells {Γ : Cx} (ok : OKc Γ cX0_tells RX0 1 "tells") (okr : OKr Γ cX0_tells (some .int)) (x0 : Int32) (x1 : Int32) (x2 : Int32) (x3 : Int32) (x4 : Int32) : SW Γ iI 0 [some (.int x0), some (.int x1), some (.int x2), some (.int x3), some (.int x4), none, none] [] (P_X0_tells x0 x1 x2 x3 x4) := by
  unfold P_X0_tells
  refine sw_iload_n (z := x0) (pc' := 1) ok dX0_tells_0 rfl rfl ?_
  refine sw_iconst (v := 5) (pc' := 2) ok dX0_tells_1 rfl cc_iconst_5 ?_
  refine sw_jn (fun k6 : Int32 → PM Int32 => ∀ (j1 : Int32), SW Γ iI 16 [some (.int x0), some (.int x1), none, none, some (.int x4), none, none] [.int j1] (k6 j1)) ?_ (fun k6 hk6 => ?_)
  · intro j1
    refine sw_istore (pc' := 18) (l' := [some (.int x0), some (.int x1), none, none, some (.int x4), some (.int j1), none]) ok dX0_tells_16 rfl (Nat.le_of_ble_eq_true rfl) rfl ?_
    refine sw_iconst (v := 0) (pc' := 19) ok dX0_tells_18 rfl cc_iconst_0 ?_
    refine sw_iload_n (z := x1) (pc' := 20) ok dX0_tells_19 rfl rfl ?_
    refine sw_iconst (v := 2) (pc' := 21) ok dX0_tells_20 rfl cc_iconst_2 ?_
    refine sw_iload (z := j1) (pc' := 23) ok dX0_tells_21 rfl rfl ?_
    refine sw_imul (pc' := 24) ok dX0_tells_23 rfl ?_
    refine sw_isub (pc' := 25) ok dX0_tells_24 rfl ?_
    refine sw_cll0_I (st := []) (as := [.int 0, .int (x1 - (2 * j1))]) (pc' := 28) ok (S_J9_max_7cf53 0 (x1 - (2 * j1))) (by decide) lk_X0_55 rfl dX0_tells_25 rfl (Nat.le_of_ble_eq_true rfl) rfl (fun v2 => ?_)
    refine sw_istore (pc' := 30) (l' := [some (.int x0), some (.int x1), none, none, some (.int x4), some (.int j1), some (.int v2)]) ok dX0_tells_28 rfl (Nat.le_of_ble_eq_true rfl) rfl ?_
    refine sw_iload_n (z := x0) (pc' := 31) ok dX0_tells_30 rfl rfl ?_
    refine sw_tsw (tgt := 111) ok dX0_tells_31 (by decide) (by rfl) ⟨⟨64, by decide, ?_⟩, ⟨69, by decide, ?_⟩, ⟨85, by decide, ?_⟩, ⟨100, by decide, ?_⟩, ⟨69, by decide, ?_⟩, trivial⟩ ?_
    · refine sw_iload (z := v2) (pc' := 66) ok dX0_tells_64 rfl rfl ?_
      refine sw_iconst (v := 2) (pc' := 67) ok dX0_tells_66 rfl cc_iconst_2 ?_
      refine sw_divI (pc' := 68) ok dX0_tells_67 rfl (fun v3 => ?_)
      exact sw_ret ok okr dX0_tells_68 trivial rfl
    · refine sw_iload (z := x4) (pc' := 71) ok dX0_tells_69 rfl rfl ?_
      refine sw_iconst (v := 4) (pc' := 72) ok dX0_tells_71 rfl cc_iconst_4 ?_
      refine sw_icmp_ge (tgt := 82) (pc' := 75) ok dX0_tells_72 (by decide) rfl ?_ ?_
      · refine sw_iload (z := v2) (pc' := 84) ok dX0_tells_82 rfl rfl ?_
        exact sw_ret ok okr dX0_tells_84 trivial rfl
      refine sw_iload (z := v2) (pc' := 77) ok dX0_tells_75 rfl rfl ?_
      refine sw_iconst (v := 2) (pc' := 78) ok dX0_tells_77 rfl cc_iconst_2 ?_
      refine sw_iadd (pc' := 79) ok dX0_tells_78 rfl ?_
      refine sw_goto (tgt := 84) ok dX0_tells_79 (by decide) ?_
      exact sw_ret ok okr dX0_tells_84 trivial rfl
    · refine sw_iload (z := x4) (pc' := 87) ok dX0_tells_85 rfl rfl ?_
      refine sw_iconst (v := 3) (pc' := 88) ok dX0_tells_87 rfl cc_iconst_3 ?_
      refine sw_icmp_ge (tgt := 98) (pc' := 91) ok dX0_tells_88 (by decide) rfl ?_ ?_
      · refine sw_iconst (v := 0) (pc' := 99) ok dX0_tells_98 rfl cc_iconst_0 ?_
        exact sw_ret ok okr dX0_tells_99 trivial rfl
      refine sw_iload (z := v2) (pc' := 93) ok dX0_tells_91 rfl rfl ?_
      refine sw_iconst (v := 3) (pc' := 94) ok dX0_tells_93 rfl cc_iconst_3 ?_
      refine sw_iadd (pc' := 95) ok dX0_tells_94 rfl ?_
      refine sw_goto (tgt := 99) ok dX0_tells_95 (by decide) ?_
      exact sw_ret ok okr dX0_tells_99 trivial rfl
    · refine sw_iconst (v := 0) (pc' := 101) ok dX0_tells_100 rfl cc_iconst_0 ?_
      refine sw_iload (z := v2) (pc' := 103) ok dX0_tells_101 rfl rfl ?_
      refine sw_iconst (v := 2) (pc' := 104) ok dX0_tells_103 rfl cc_iconst_2 ?_
      refine sw_divI (pc' := 105) ok dX0_tells_104 rfl (fun v4 => ?_)
      refine sw_iconst (v := 1) (pc' := 106) ok dX0_tells_105 rfl cc_iconst_1 ?_
      refine sw_isub (pc' := 107) ok dX0_tells_106 rfl ?_
      refine sw_cll0_I (st := []) (as := [.int 0, .int (v4 - 1)]) (pc' := 110) ok (S_J9_max_7cf53 0 (v4 - 1)) (by decide) lk_X0_55 rfl dX0_tells_107 rfl (Nat.le_of_ble_eq_true rfl) rfl (fun v5 => ?_)
      exact sw_ret ok okr dX0_tells_110 trivial rfl
    · refine sw_iload (z := x4) (pc' := 71) ok dX0_tells_69 rfl rfl ?_
      refine sw_iconst (v := 4) (pc' := 72) ok dX0_tells_71 rfl cc_iconst_4 ?_
      refine sw_icmp_ge (tgt := 82) (pc' := 75) ok dX0_tells_72 (by decide) rfl ?_ ?_
      · refine sw_iload (z := v2) (pc' := 84) ok dX0_tells_82 rfl rfl ?_
        exact sw_ret ok okr dX0_tells_84 trivial rfl
      refine sw_iload (z := v2) (pc' := 77) ok dX0_tells_75 rfl rfl ?_
      refine sw_iconst (v := 2) (pc' := 78) ok dX0_tells_77 rfl cc_iconst_2 ?_
      refine sw_iadd (pc' := 79) ok dX0_tells_78 rfl ?_
      refine sw_goto (tgt := 84) ok dX0_tells_79 (by decide) ?_
      exact sw_ret ok okr dX0_tells_84 trivial rfl
    refine sw_iload (z := v2) (pc' := 113) ok dX0_tells_111 rfl rfl ?_
    exact sw_ret ok okr dX0_tells_113 trivial rfl
  refine sw_icmp_ne (tgt := 9) (pc' := 5) ok dX0_tells_2 (by decide) rfl ?_ ?_
  · refine sw_iconst (v := 0) (pc' := 10) ok dX0_tells_9 rfl cc_iconst_0 ?_
    refine sw_iload_n (z := x3) (pc' := 11) ok dX0_tells_10 rfl rfl ?_
    refine sw_iload_n (z := x2) (pc' := 12) ok dX0_tells_11 rfl rfl ?_
    refine sw_isub (pc' := 13) ok dX0_tells_12 rfl ?_
    refine sw_cll0_I (st := []) (as := [.int 0, .int (x3 - x2)]) (pc' := 16) ok (S_J9_max_7cf53 0 (x3 - x2)) (by decide) lk_X0_55 rfl dX0_tells_13 rfl (Nat.le_of_ble_eq_true rfl) rfl (fun v7 => ?_)
    refine sw_fg (l' := [some (.int x0), some (.int x1), none, none, some (.int x4), none, none]) [true, true, false, false, true, false, false] rfl ?_
    exact hk6 v7
  refine sw_iconst (v := 0) (pc' := 6) ok dX0_tells_5 rfl cc_iconst_0 ?_
  refine sw_goto (tgt := 16) ok dX0_tells_6 (by decide) ?_
  refine sw_fg (l' := [some (.int x0), some (.int x1), none, none, some (.int x4), none, none]) [true, true, false, false, true, false, false] rfl ?_
  exact hk6 0
theorem S_X0_tells (x0 : Int32) (x1 : Int32) (x2 : Int32) (x3 : Int32) (x4 : Int32) : Sim 1 yX0_tells cX0_tells 7 (some .int) iI [.int x0, .int x1, .int x2, .int x3, .int x4] (P_X0_tells x0 x1 x2 x3 x4) := Sim.intro wd_934 (by decide) (by decide +kernel) (Nat.le_of_ble_eq_true rfl) (fun Γ ok okr => W_X0_tells ok okr x0 x1 x2 x3 x4)
theorem dX0_tellsAs_0 : decode cX0_tellsAs 0 = .ok (.aload_n 0, 1) := by decide +kernel
theorem dX0_tellsAs_1 : decode cX0_tellsAs 1 = .ok (.iload_n 1, 1) := by decide +kernel
theorem dX0_tellsAs_2 : decode cX0_tellsAs 2 = .ok (.invokevirtual 44, 3) := by decide +kernel
theorem dX0_tellsAs_5 : decode cX0_tellsAs 5 = .ok (.ifCond .eq 25, 3) := by decide +kernel
theorem dX0_tellsAs_8 : decode cX0_tellsAs 8 = .ok (.iload_n 2, 1) := by decide +kernel
theorem dX0_tellsAs_9 : decode cX0_tellsAs 9 = .ok (.aload_n 0, 1) := by decide +kernel
theorem dX0_tellsAs_10 : decode cX0_tellsAs 10 = .ok (.getfield 15, 3) := by decide +kernel
theorem dX0_tellsAs_13 : decode cX0_tellsAs 13 = .ok (.iload_n 1, 1) := by decide +kernel
theorem dX0_tellsAs_14 : decode cX0_tellsAs 14 = .ok (.iaload, 1) := by decide +kernel
theorem dX0_tellsAs_15 : decode cX0_tellsAs 15 = .ok (.aload_n 0, 1) := by decide +kernel
theorem dX0_tellsAs_16 : decode cX0_tellsAs 16 = .ok (.getfield 18, 3) := by decide +kernel
theorem dX0_tellsAs_19 : decode cX0_tellsAs 19 = .ok (.iload_n 1, 1) := by decide +kernel
theorem dX0_tellsAs_20 : decode cX0_tellsAs 20 = .ok (.iaload, 1) := by decide +kernel
theorem dX0_tellsAs_21 : decode cX0_tellsAs 21 = .ok (.iload_n 3, 1) := by decide +kernel
theorem dX0_tellsAs_22 : decode cX0_tellsAs 22 = .ok (.iload 4, 2) := by decide +kernel
theorem dX0_tellsAs_24 : decode cX0_tellsAs 24 = .ok (.invokestatic 51, 3) := by decide +kernel
theorem dX0_tellsAs_27 : decode cX0_tellsAs 27 = .ok (.goto 4, 3) := by decide +kernel
theorem dX0_tellsAs_30 : decode cX0_tellsAs 30 = .ok (.iconst 0, 1) := by decide +kernel
theorem dX0_tellsAs_31 : decode cX0_tellsAs 31 = .ok (.ireturn, 1) := by decide +kernel
def P_X0_tellsAs (a0 : Nat) (x1 : Int32) (x2 : Int32) (x3 : Int32) (x4 : Int32) : PM Int32 :=
cllV 0 a0 (P_X0_has a0 x1) fun v1 =>
ifB (decide (v1 = 0)) (
pureM 0) (
getR 0 1 a0 fun v2 =>
ald v2 x1 fun v3 =>
getR 0 2 a0 fun v4 =>
ald v4 x1 fun v5 =>
cll0 (P_X0_tells x2 v3 v5 x3 x4) fun v6 =>
pureM v6)
set_option maxHeartbeats 4000000 in
set_option maxRecDepth 100000 in
theorem W_X0_tellsAs {Γ : Cx} (ok : OKc Γ cX0_tellsAs RX0 2 "tellsAs") (okr : OKr Γ cX0_tellsAs (some .int)) (a0 : Nat) (x1 : Int32) (x2 : Int32) (x3 : Int32) (x4 : Int32) : SW Γ iI 0 [some (.ref a0), some (.int x1), some (.int x2), some (.int x3), some (.int x4)] [] (P_X0_tellsAs a0 x1 x2 x3 x4) := by
  unfold P_X0_tellsAs
  refine sw_aload_n (z := a0) (pc' := 1) ok dX0_tellsAs_0 rfl rfl ?_
  refine sw_iload_n (z := x1) (pc' := 2) ok dX0_tellsAs_1 rfl rfl ?_
  refine sw_cllV_I (st := []) (as := [.int x1]) (pc' := 5) ok (S_X0_has a0 x1) (by decide) lk_X0_44 rfl dX0_tellsAs_2 rfl (Nat.le_of_ble_eq_true rfl) rfl (fun v1 => ?_)
  refine sw_if_eq (tgt := 30) (pc' := 8) ok dX0_tellsAs_5 (by decide) rfl ?_ ?_
  · refine sw_iconst (v := 0) (pc' := 31) ok dX0_tellsAs_30 rfl cc_iconst_0 ?_
    exact sw_ret ok okr dX0_tellsAs_31 trivial rfl
  refine sw_iload_n (z := x2) (pc' := 9) ok dX0_tellsAs_8 rfl rfl ?_
  refine sw_aload_n (z := a0) (pc' := 10) ok dX0_tellsAs_9 rfl rfl ?_
  refine sw_getR (pc' := 13) ok (fr_X0_15.g) dX0_tellsAs_10 rfl (fun v2 => ?_)
  refine sw_iload_n (z := x1) (pc' := 14) ok dX0_tellsAs_13 rfl rfl ?_
  refine sw_ald (pc' := 15) ok dX0_tellsAs_14 rfl (fun v3 => ?_)
  refine sw_aload_n (z := a0) (pc' := 16) ok dX0_tellsAs_15 rfl rfl ?_
  refine sw_getR (pc' := 19) ok (fr_X0_18.g) dX0_tellsAs_16 rfl (fun v4 => ?_)
  refine sw_iload_n (z := x1) (pc' := 20) ok dX0_tellsAs_19 rfl rfl ?_
  refine sw_ald (pc' := 21) ok dX0_tellsAs_20 rfl (fun v5 => ?_)
  refine sw_iload_n (z := x3) (pc' := 22) ok dX0_tellsAs_21 rfl rfl ?_
  refine sw_iload (z := x4) (pc' := 24) ok dX0_tellsAs_22 rfl rfl ?_
  refine sw_cll0_I (st := []) (as := [.int x2, .int v3, .int v5, .int x3, .int x4]) (pc' := 27) ok (S_X0_tells x2 v3 v5 x3 x4) (by decide) lk_X0_51 rfl dX0_tellsAs_24 rfl (Nat.le_of_ble_eq_true rfl) rfl (fun v6 => ?_)
  refine sw_goto (tgt := 31) ok dX0_tellsAs_27 (by decide) ?_
  exact sw_ret ok okr dX0_tellsAs_31 trivial rfl
theorem S_X0_tellsAs (a0 : Nat) (x1 : Int32) (x2 : Int32) (x3 : Int32) (x4 : Int32) : Sim 2 yX0_tellsAs cX0_tellsAs 5 (some .int) iI [.ref a0, .int x1, .int x2, .int x3, .int x4] (P_X0_tellsAs a0 x1 x2 x3 x4) := Sim.intro wd_935 (by decide) (by decide +kernel) (Nat.le_of_ble_eq_true rfl) (fun Γ ok okr => W_X0_tellsAs ok okr a0 x1 x2 x3 x4)
theorem dX1_init_0 : decode cX1_init 0 = .ok (.aload_n 0, 1) := by decide +kernel
theorem dX1_init_1 : decode cX1_init 1 = .ok (.invokespecial 3, 3) := by decide +kernel
theorem dX1_init_4 : decode cX1_init 4 = .ok (.aload_n 0, 1) := by decide +kernel
theorem dX1_init_5 : decode cX1_init 5 = .ok (.bipush 6, 2) := by decide +kernel
theorem dX1_init_7 : decode cX1_init 7 = .ok (.newarray .int, 2) := by decide +kernel
theorem dX1_init_9 : decode cX1_init 9 = .ok (.putfield 11, 3) := by decide +kernel
theorem dX1_init_12 : decode cX1_init 12 = .ok (.aload_n 0, 1) := by decide +kernel
theorem dX1_init_13 : decode cX1_init 13 = .ok (.bipush 6, 2) := by decide +kernel
theorem dX1_init_15 : decode cX1_init 15 = .ok (.newarray .int, 2) := by decide +kernel
theorem dX1_init_17 : decode cX1_init 17 = .ok (.putfield 17, 3) := by decide +kernel
theorem dX1_init_20 : decode cX1_init 20 = .ok (.aload_n 0, 1) := by decide +kernel
theorem dX1_init_21 : decode cX1_init 21 = .ok (.iconst 0, 1) := by decide +kernel
theorem dX1_init_22 : decode cX1_init 22 = .ok (.putfield 20, 3) := by decide +kernel
theorem dX1_init_25 : decode cX1_init 25 = .ok (.aload_n 0, 1) := by decide +kernel
theorem dX1_init_26 : decode cX1_init 26 = .ok (.iconst 0, 1) := by decide +kernel
theorem dX1_init_27 : decode cX1_init 27 = .ok (.putfield 24, 3) := by decide +kernel
theorem dX1_init_30 : decode cX1_init 30 = .ok (.return_, 1) := by decide +kernel
def P_X1_init (a0 : Nat) : PM Unit :=
newA 6 fun o1 =>
setR 1 0 a0 o1 <|
newA 6 fun o2 =>
setR 1 1 a0 o2 <|
setI 1 2 a0 0 <|
setI 1 3 a0 0 <|
pureM ()
set_option maxHeartbeats 4000000 in
set_option maxRecDepth 100000 in
theorem W_X1_init {Γ : Cx} (ok : OKc Γ cX1_init RX1 1 "<init>") (okr : OKr Γ cX1_init (none)) (a0 : Nat) : SW Γ iU 0 [some (.ref a0)] [] (P_X1_init a0) := by
  unfold P_X1_init
  refine sw_aload_n (z := a0) (pc' := 1) ok dX1_init_0 rfl rfl ?_
  refine sw_obj (pc' := 4) ok wd_28 wd_1 wd_2 (by decide) dX1_init_1 rfl (Nat.le_of_ble_eq_true rfl) ?_
  refine sw_aload_n (z := a0) (pc' := 5) ok dX1_init_4 rfl rfl ?_
  refine sw_bipush (v := 6) (pc' := 7) ok dX1_init_5 rfl cc_bipush_6 ?_
  refine sw_newA (pc' := 9) ok wd_3 dX1_init_7 rfl (fun o1 => ?_)
  refine sw_setR (pc' := 12) ok fr_X1_11 (fun _ => ⟨rfl, rfl⟩) dX1_init_9 (fun _ => rfl) rfl ?_
  refine sw_aload_n (z := a0) (pc' := 13) ok dX1_init_12 rfl rfl ?_
  refine sw_bipush (v := 6) (pc' := 15) ok dX1_init_13 rfl cc_bipush_6 ?_
  refine sw_newA (pc' := 17) ok wd_3 dX1_init_15 rfl (fun o2 => ?_)
  refine sw_setR (pc' := 20) ok fr_X1_17 (fun _ => ⟨rfl, rfl⟩) dX1_init_17 (fun _ => rfl) rfl ?_
  refine sw_aload_n (z := a0) (pc' := 21) ok dX1_init_20 rfl rfl ?_
  refine sw_iconst (v := 0) (pc' := 22) ok dX1_init_21 rfl cc_iconst_0 ?_
  refine sw_setI (pc' := 25) ok fr_X1_20 dX1_init_22 (fun h => by cases h) rfl ?_
  refine sw_aload_n (z := a0) (pc' := 26) ok dX1_init_25 rfl rfl ?_
  refine sw_iconst (v := 0) (pc' := 27) ok dX1_init_26 rfl cc_iconst_0 ?_
  refine sw_setI (pc' := 30) ok fr_X1_24 dX1_init_27 (fun h => by cases h) rfl ?_
  exact sw_ret ok okr dX1_init_30 trivial rfl
theorem S_X1_init (a0 : Nat) : Sim 1 yX1_init cX1_init 1 (none) iU [.ref a0] (P_X1_init a0) := Sim.intro wd_936 (by decide) (by decide +kernel) (Nat.le_of_ble_eq_true rfl) (fun Γ ok okr => W_X1_init ok okr a0)
theorem dJ9_floorMod_7cf53_0 : decode cJ9_floorMod_7cf53 0 = .ok (.iload_n 0, 1) := by decide +kernel
theorem dJ9_floorMod_7cf53_1 : decode cJ9_floorMod_7cf53 1 = .ok (.iload_n 1, 1) := by decide +kernel
theorem dJ9_floorMod_7cf53_2 : decode cJ9_floorMod_7cf53 2 = .ok (.irem, 1) := by decide +kernel
theorem dJ9_floorMod_7cf53_3 : decode cJ9_floorMod_7cf53 3 = .ok (.istore_n 2, 1) := by decide +kernel
theorem dJ9_floorMod_7cf53_4 : decode cJ9_floorMod_7cf53 4 = .ok (.iload_n 0, 1) := by decide +kernel
theorem dJ9_floorMod_7cf53_5 : decode cJ9_floorMod_7cf53 5 = .ok (.iload_n 1, 1) := by decide +kernel
theorem dJ9_floorMod_7cf53_6 : decode cJ9_floorMod_7cf53 6 = .ok (.ixor, 1) := by decide +kernel
theorem dJ9_floorMod_7cf53_7 : decode cJ9_floorMod_7cf53 7 = .ok (.ifCond .ge 11, 3) := by decide +kernel
theorem dJ9_floorMod_7cf53_10 : decode cJ9_floorMod_7cf53 10 = .ok (.iload_n 2, 1) := by decide +kernel
theorem dJ9_floorMod_7cf53_11 : decode cJ9_floorMod_7cf53 11 = .ok (.ifCond .eq 7, 3) := by decide +kernel
theorem dJ9_floorMod_7cf53_14 : decode cJ9_floorMod_7cf53 14 = .ok (.iload_n 2, 1) := by decide +kernel
theorem dJ9_floorMod_7cf53_15 : decode cJ9_floorMod_7cf53 15 = .ok (.iload_n 1, 1) := by decide +kernel
theorem dJ9_floorMod_7cf53_16 : decode cJ9_floorMod_7cf53 16 = .ok (.iadd, 1) := by decide +kernel
theorem dJ9_floorMod_7cf53_17 : decode cJ9_floorMod_7cf53 17 = .ok (.ireturn, 1) := by decide +kernel
theorem dJ9_floorMod_7cf53_18 : decode cJ9_floorMod_7cf53 18 = .ok (.iload_n 2, 1) := by decide +kernel
theorem dJ9_floorMod_7cf53_19 : decode cJ9_floorMod_7cf53 19 = .ok (.ireturn, 1) := by decide +kernel
def P_J9_floorMod_7cf53 (x0 : Int32) (x1 : Int32) : PM Int32 :=
remI x0 x1 fun v1 =>
ifB (decide (0 ≤ (x0 ^^^ x1))) (
pureM v1) (
ifB (decide (v1 = 0)) (
pureM v1) (
pureM (v1 + x1)))
set_option maxHeartbeats 4000000 in
set_option maxRecDepth 100000 in
theorem W_J9_floorMod_7cf53 {Γ : Cx} (ok : OKc Γ cJ9_floorMod_7cf53 RJ9 0 "floorMod") (okr : OKr Γ cJ9_floorMod_7cf53 (some .int)) (x0 : Int32) (x1 : Int32) : SW Γ iI 0 [some (.int x0), some (.int x1), none] [] (P_J9_floorMod_7cf53 x0 x1) := by
  unfold P_J9_floorMod_7cf53
  refine sw_iload_n (z := x0) (pc' := 1) ok dJ9_floorMod_7cf53_0 rfl rfl ?_
  refine sw_iload_n (z := x1) (pc' := 2) ok dJ9_floorMod_7cf53_1 rfl rfl ?_
  refine sw_remI (pc' := 3) ok dJ9_floorMod_7cf53_2 rfl (fun v1 => ?_)
  refine sw_istore_n (pc' := 4) (l' := [some (.int x0), some (.int x1), some (.int v1)]) ok dJ9_floorMod_7cf53_3 rfl (Nat.le_of_ble_eq_true rfl) rfl ?_
  refine sw_iload_n (z := x0) (pc' := 5) ok dJ9_floorMod_7cf53_4 rfl rfl ?_
  refine sw_iload_n (z := x1) (pc' := 6) ok dJ9_floorMod_7cf53_5 rfl rfl ?_
  refine sw_ixor (pc' := 7) ok dJ9_floorMod_7cf53_6 rfl ?_
  refine sw_if_ge (tgt := 18) (pc' := 10) ok dJ9_floorMod_7cf53_7 (by decide) rfl ?_ ?_
  · refine sw_iload_n (z := v1) (pc' := 19) ok dJ9_floorMod_7cf53_18 rfl rfl ?_
    exact sw_ret ok okr dJ9_floorMod_7cf53_19 trivial rfl
  refine sw_iload_n (z := v1) (pc' := 11) ok dJ9_floorMod_7cf53_10 rfl rfl ?_
  refine sw_if_eq (tgt := 18) (pc' := 14) ok dJ9_floorMod_7cf53_11 (by decide) rfl ?_ ?_
  · refine sw_iload_n (z := v1) (pc' := 19) ok dJ9_floorMod_7cf53_18 rfl rfl ?_
    exact sw_ret ok okr dJ9_floorMod_7cf53_19 trivial rfl
  refine sw_iload_n (z := v1) (pc' := 15) ok dJ9_floorMod_7cf53_14 rfl rfl ?_
  refine sw_iload_n (z := x1) (pc' := 16) ok dJ9_floorMod_7cf53_15 rfl rfl ?_
  refine sw_iadd (pc' := 17) ok dJ9_floorMod_7cf53_16 rfl ?_
  exact sw_ret ok okr dJ9_floorMod_7cf53_17 trivial rfl
theorem S_J9_floorMod_7cf53 (x0 : Int32) (x1 : Int32) : Sim 0 yJ9_floorMod_7cf53 cJ9_floorMod_7cf53 3 (some .int) iI [.int x0, .int x1] (P_J9_floorMod_7cf53 x0 x1) := Sim.introF wd_937 (by decide) (by decide +kernel) (Nat.le_of_ble_eq_true rfl) (fun Γ ok okr => W_J9_floorMod_7cf53 ok okr x0 x1)
theorem dX1_hour_0 : decode cX1_hour 0 = .ok (.aload_n 0, 1) := by decide +kernel
theorem dX1_hour_1 : decode cX1_hour 1 = .ok (.getfield 24, 3) := by decide +kernel
theorem dX1_hour_4 : decode cX1_hour 4 = .ok (.bipush 12, 2) := by decide +kernel
theorem dX1_hour_6 : decode cX1_hour 6 = .ok (.invokestatic 38, 3) := by decide +kernel
theorem dX1_hour_9 : decode cX1_hour 9 = .ok (.ireturn, 1) := by decide +kernel
def P_X1_hour (a0 : Nat) : PM Int32 :=
getI 1 3 a0 fun v1 =>
cll0 (P_J9_floorMod_7cf53 v1 12) fun v2 =>
pureM v2
set_option maxHeartbeats 4000000 in
set_option maxRecDepth 100000 in
theorem W_X1_hour {Γ : Cx} (ok : OKc Γ cX1_hour RX1 1 "hour") (okr : OKr Γ cX1_hour (some .int)) (a0 : Nat) : SW Γ iI 0 [some (.ref a0)] [] (P_X1_hour a0) := by
  unfold P_X1_hour
  refine sw_aload_n (z := a0) (pc' := 1) ok dX1_hour_0 rfl rfl ?_
  refine sw_getI (pc' := 4) ok (fr_X1_24.g) dX1_hour_1 rfl (fun v1 => ?_)
  refine sw_bipush (v := 12) (pc' := 6) ok dX1_hour_4 rfl cc_bipush_12 ?_
  refine sw_cll0_I (st := []) (as := [.int v1, .int 12]) (pc' := 9) ok (S_J9_floorMod_7cf53 v1 12) (by decide) lk_X1_38 rfl dX1_hour_6 rfl (Nat.le_of_ble_eq_true rfl) rfl (fun v2 => ?_)
  exact sw_ret ok okr dX1_hour_9 trivial rfl
theorem S_X1_hour (a0 : Nat) : Sim 1 yX1_hour cX1_hour 1 (some .int) iI [.ref a0] (P_X1_hour a0) := Sim.intro wd_938 (by decide) (by decide +kernel) (Nat.le_of_ble_eq_true rfl) (fun Γ ok okr => W_X1_hour ok okr a0)
theorem dX1_listen_0 : decode cX1_listen 0 = .ok (.aload_n 0, 1) := by decide +kernel
theorem dX1_listen_1 : decode cX1_listen 1 = .ok (.invokevirtual 78, 3) := by decide +kernel
theorem dX1_listen_4 : decode cX1_listen 4 = .ok (.istore_n 2, 1) := by decide +kernel
theorem dX1_listen_5 : decode cX1_listen 5 = .ok (.iconst 0, 1) := by decide +kernel
theorem dX1_listen_6 : decode cX1_listen 6 = .ok (.istore_n 3, 1) := by decide +kernel
theorem dX1_listen_7 : decode cX1_listen 7 = .ok (.iload_n 3, 1) := by decide +kernel
theorem dX1_listen_8 : decode cX1_listen 8 = .ok (.bipush 6, 2) := by decide +kernel
theorem dX1_listen_10 : decode cX1_listen 10 = .ok (.if_icmp .ge 43, 3) := by decide +kernel
theorem dX1_listen_13 : decode cX1_listen 13 = .ok (.aload_n 0, 1) := by decide +kernel
theorem dX1_listen_14 : decode cX1_listen 14 = .ok (.getfield 17, 3) := by decide +kernel
theorem dX1_listen_17 : decode cX1_listen 17 = .ok (.iload_n 3, 1) := by decide +kernel
theorem dX1_listen_18 : decode cX1_listen 18 = .ok (.aload_n 1, 1) := by decide +kernel
theorem dX1_listen_19 : decode cX1_listen 19 = .ok (.getfield 52, 3) := by decide +kernel
theorem dX1_listen_22 : decode cX1_listen 22 = .ok (.iload_n 3, 1) := by decide +kernel
theorem dX1_listen_23 : decode cX1_listen 23 = .ok (.iaload, 1) := by decide +kernel
theorem dX1_listen_24 : decode cX1_listen 24 = .ok (.aload_n 1, 1) := by decide +kernel
theorem dX1_listen_25 : decode cX1_listen 25 = .ok (.getfield 82, 3) := by decide +kernel
theorem dX1_listen_28 : decode cX1_listen 28 = .ok (.iload_n 3, 1) := by decide +kernel
theorem dX1_listen_29 : decode cX1_listen 29 = .ok (.iaload, 1) := by decide +kernel
theorem dX1_listen_30 : decode cX1_listen 30 = .ok (.aload_n 1, 1) := by decide +kernel
theorem dX1_listen_31 : decode cX1_listen 31 = .ok (.getfield 85, 3) := by decide +kernel
theorem dX1_listen_34 : decode cX1_listen 34 = .ok (.iload_n 3, 1) := by decide +kernel
theorem dX1_listen_35 : decode cX1_listen 35 = .ok (.iaload, 1) := by decide +kernel
theorem dX1_listen_36 : decode cX1_listen 36 = .ok (.aload_n 0, 1) := by decide +kernel
theorem dX1_listen_37 : decode cX1_listen 37 = .ok (.getfield 11, 3) := by decide +kernel
theorem dX1_listen_40 : decode cX1_listen 40 = .ok (.iload_n 3, 1) := by decide +kernel
theorem dX1_listen_41 : decode cX1_listen 41 = .ok (.iaload, 1) := by decide +kernel
theorem dX1_listen_42 : decode cX1_listen 42 = .ok (.iload_n 2, 1) := by decide +kernel
theorem dX1_listen_43 : decode cX1_listen 43 = .ok (.invokestatic 88, 3) := by decide +kernel
theorem dX1_listen_46 : decode cX1_listen 46 = .ok (.iastore, 1) := by decide +kernel
theorem dX1_listen_47 : decode cX1_listen 47 = .ok (.iinc 3 1, 3) := by decide +kernel
theorem dX1_listen_50 : decode cX1_listen 50 = .ok (.goto (-43), 3) := by decide +kernel
theorem dX1_listen_53 : decode cX1_listen 53 = .ok (.return_, 1) := by decide +kernel
def P_X1_listen_7 (p0 : Nat) (p1 : Nat) (p2 : Int32) : Nat → Int32 → PM Unit
  | 0, _ => failM
  | n + 1, q3 =>
    ifB (decide (6 ≤ q3)) (
    pureM ()) (
    getR 1 1 p0 fun v2 =>
    getR 0 0 p1 fun v3 =>
    ald v3 q3 fun v4 =>
    getR 0 1 p1 fun v5 =>
    ald v5 q3 fun v6 =>
    getR 0 2 p1 fun v7 =>
    ald v7 q3 fun v8 =>
    getR 1 0 p0 fun v9 =>
    ald v9 q3 fun v10 =>
    cll0 (P_X0_tells v4 v6 v8 v10 p2) fun v11 =>
    ast v2 q3 v11 <|
    P_X1_listen_7 p0 p1 p2 n (q3 + 1))
def P_X1_listen (a0 : Nat) (a1 : Nat) : PM Unit :=
cllV 1 a0 (P_X1_hour a0) fun v1 =>
P_X1_listen_7 a0 a1 v1 4000 0
set_option maxHeartbeats 4000000 in
set_option maxRecDepth 100000 in
theorem W_X1_listen_7 {Γ : Cx} (ok : OKc Γ cX1_listen RX1 2 "listen") (okr : OKr Γ cX1_listen (none)) (p0 : Nat) (p1 : Nat) (p2 : Int32) : ∀ (n : Nat) (q3 : Int32), SW Γ iU 7 [some (.ref p0), some (.ref p1), some (.int p2), some (.int q3)] [] (P_X1_listen_7 p0 p1 p2 n q3) := by
  intro n
  induction n with
  | zero =>
    intros
    exact sw_fail
  | succ n ih =>
    intro q3
    unfold P_X1_listen_7
    refine sw_iload_n (z := q3) (pc' := 8) ok dX1_listen_7 rfl rfl ?_
    refine sw_bipush (v := 6) (pc' := 10) ok dX1_listen_8 rfl cc_bipush_6 ?_
    refine sw_icmp_ge (tgt := 53) (pc' := 13) ok dX1_listen_10 (by decide) rfl ?_ ?_
    · exact sw_ret ok okr dX1_listen_53 trivial rfl
    refine sw_aload_n (z := p0) (pc' := 14) ok dX1_listen_13 rfl rfl ?_
    refine sw_getR (pc' := 17) ok (fr_X1_17.g) dX1_listen_14 rfl (fun v2 => ?_)
    refine sw_iload_n (z := q3) (pc' := 18) ok dX1_listen_17 rfl rfl ?_
    refine sw_aload_n (z := p1) (pc' := 19) ok dX1_listen_18 rfl rfl ?_
    refine sw_getR (pc' := 22) ok (fr_X1_52) dX1_listen_19 rfl (fun v3 => ?_)
    refine sw_iload_n (z := q3) (pc' := 23) ok dX1_listen_22 rfl rfl ?_
    refine sw_ald (pc' := 24) ok dX1_listen_23 rfl (fun v4 => ?_)
    refine sw_aload_n (z := p1) (pc' := 25) ok dX1_listen_24 rfl rfl ?_
    refine sw_getR (pc' := 28) ok (fr_X1_82) dX1_listen_25 rfl (fun v5 => ?_)
    refine sw_iload_n (z := q3) (pc' := 29) ok dX1_listen_28 rfl rfl ?_
    refine sw_ald (pc' := 30) ok dX1_listen_29 rfl (fun v6 => ?_)
    refine sw_aload_n (z := p1) (pc' := 31) ok dX1_listen_30 rfl rfl ?_
    refine sw_getR (pc' := 34) ok (fr_X1_85) dX1_listen_31 rfl (fun v7 => ?_)
    refine sw_iload_n (z := q3) (pc' := 35) ok dX1_listen_34 rfl rfl ?_
    refine sw_ald (pc' := 36) ok dX1_listen_35 rfl (fun v8 => ?_)
    refine sw_aload_n (z := p0) (pc' := 37) ok dX1_listen_36 rfl rfl ?_
    refine sw_getR (pc' := 40) ok (fr_X1_11.g) dX1_listen_37 rfl (fun v9 => ?_)
    refine sw_iload_n (z := q3) (pc' := 41) ok dX1_listen_40 rfl rfl ?_
    refine sw_ald (pc' := 42) ok dX1_listen_41 rfl (fun v10 => ?_)
    refine sw_iload_n (z := p2) (pc' := 43) ok dX1_listen_42 rfl rfl ?_
    refine sw_cll0_I (st := [.int q3, .ref v2]) (as := [.int v4, .int v6, .int v8, .int v10, .int p2]) (pc' := 46) ok (S_X0_tells v4 v6 v8 v10 p2) (by decide) lk_X1_88 rfl dX1_listen_43 rfl (Nat.le_of_ble_eq_true rfl) rfl (fun v11 => ?_)
    refine sw_ast (pc' := 47) ok dX1_listen_46 rfl ?_
    refine sw_iinc (z := q3) (v := q3 + 1) (pc' := 50) (l' := [some (.ref p0), some (.ref p1), some (.int p2), some (.int (q3 + 1))]) ok dX1_listen_47 rfl rfl (by rw [cc_iconst_1]) rfl ?_
    refine sw_goto (tgt := 7) ok dX1_listen_50 (by decide) ?_
    exact ih (q3 + 1)
set_option maxHeartbeats 4000000 in
set_option maxRecDepth 100000 in
theorem W_X1_listen {Γ : Cx} (ok : OKc Γ cX1_listen RX1 2 "listen") (okr : OKr Γ cX1_listen (none)) (a0 : Nat) (a1 : Nat) : SW Γ iU 0 [some (.ref a0), some (.ref a1), none, none] [] (P_X1_listen a0 a1) := by
  unfold P_X1_listen
  refine sw_aload_n (z := a0) (pc' := 1) ok dX1_listen_0 rfl rfl ?_
  refine sw_cllV_I (st := []) (as := []) (pc' := 4) ok (S_X1_hour a0) (by decide) lk_X1_78 rfl dX1_listen_1 rfl (Nat.le_of_ble_eq_true rfl) rfl (fun v1 => ?_)
  refine sw_istore_n (pc' := 5) (l' := [some (.ref a0), some (.ref a1), some (.int v1), none]) ok dX1_listen_4 rfl (Nat.le_of_ble_eq_true rfl) rfl ?_
  refine sw_iconst (v := 0) (pc' := 6) ok dX1_listen_5 rfl cc_iconst_0 ?_
  refine sw_istore_n (pc' := 7) (l' := [some (.ref a0), some (.ref a1), some (.int v1), some (.int 0)]) ok dX1_listen_6 rfl (Nat.le_of_ble_eq_true rfl) rfl ?_
  exact W_X1_listen_7 ok okr a0 a1 v1 4000 0
theorem S_X1_listen (a0 : Nat) (a1 : Nat) : Sim 2 yX1_listen cX1_listen 4 (none) iU [.ref a0, .ref a1] (P_X1_listen a0 a1) := Sim.intro wd_939 (by decide) (by decide +kernel) (Nat.le_of_ble_eq_true rfl) (fun Γ ok okr => W_X1_listen ok okr a0 a1)
theorem dX1_begin_0 : decode cX1_begin 0 = .ok (.aload_n 0, 1) := by decide +kernel
theorem dX1_begin_1 : decode cX1_begin 1 = .ok (.getfield 11, 3) := by decide +kernel
theorem dX1_begin_4 : decode cX1_begin 4 = .ok (.iconst 0, 1) := by decide +kernel
theorem dX1_begin_5 : decode cX1_begin 5 = .ok (.invokestatic 27, 3) := by decide +kernel
theorem dX1_begin_8 : decode cX1_begin 8 = .ok (.aload_n 0, 1) := by decide +kernel
theorem dX1_begin_9 : decode cX1_begin 9 = .ok (.aload_n 1, 1) := by decide +kernel
theorem dX1_begin_10 : decode cX1_begin 10 = .ok (.getfield 33, 3) := by decide +kernel
theorem dX1_begin_13 : decode cX1_begin 13 = .ok (.putfield 20, 3) := by decide +kernel
theorem dX1_begin_16 : decode cX1_begin 16 = .ok (.aload_n 0, 1) := by decide +kernel
theorem dX1_begin_17 : decode cX1_begin 17 = .ok (.iconst 0, 1) := by decide +kernel
theorem dX1_begin_18 : decode cX1_begin 18 = .ok (.putfield 24, 3) := by decide +kernel
theorem dX1_begin_21 : decode cX1_begin 21 = .ok (.aload_n 0, 1) := by decide +kernel
theorem dX1_begin_22 : decode cX1_begin 22 = .ok (.aload_n 1, 1) := by decide +kernel
theorem dX1_begin_23 : decode cX1_begin 23 = .ok (.invokevirtual 34, 3) := by decide +kernel
theorem dX1_begin_26 : decode cX1_begin 26 = .ok (.return_, 1) := by decide +kernel
def P_X1_begin (a0 : Nat) (a1 : Nat) : PM Unit :=
getR 1 0 a0 fun v1 =>
cll0 (P_J7_fill_53178 v1 0) fun _ =>
getI 0 5 a1 fun v2 =>
setI 1 2 a0 v2 <|
setI 1 3 a0 0 <|
cllV 1 a0 (P_X1_listen a0 a1) fun _ =>
pureM ()
set_option maxHeartbeats 4000000 in
set_option maxRecDepth 100000 in
theorem W_X1_begin {Γ : Cx} (ok : OKc Γ cX1_begin RX1 3 "begin") (okr : OKr Γ cX1_begin (none)) (a0 : Nat) (a1 : Nat) : SW Γ iU 0 [some (.ref a0), some (.ref a1)] [] (P_X1_begin a0 a1) := by
  unfold P_X1_begin
  refine sw_aload_n (z := a0) (pc' := 1) ok dX1_begin_0 rfl rfl ?_
  refine sw_getR (pc' := 4) ok (fr_X1_11.g) dX1_begin_1 rfl (fun v1 => ?_)
  refine sw_iconst (v := 0) (pc' := 5) ok dX1_begin_4 rfl cc_iconst_0 ?_
  refine sw_cll0_U (st := []) (as := [.ref v1, .int 0]) (pc' := 8) ok (S_J7_fill_53178 v1 0) (by decide) lk_X1_27 rfl dX1_begin_5 rfl (Nat.le_of_ble_eq_true rfl) rfl (fun _ => ?_)
  refine sw_aload_n (z := a0) (pc' := 9) ok dX1_begin_8 rfl rfl ?_
  refine sw_aload_n (z := a1) (pc' := 10) ok dX1_begin_9 rfl rfl ?_
  refine sw_getI (pc' := 13) ok (fr_X1_33.g) dX1_begin_10 rfl (fun v2 => ?_)
  refine sw_setI (pc' := 16) ok fr_X1_20 dX1_begin_13 (fun h => by cases h) rfl ?_
  refine sw_aload_n (z := a0) (pc' := 17) ok dX1_begin_16 rfl rfl ?_
  refine sw_iconst (v := 0) (pc' := 18) ok dX1_begin_17 rfl cc_iconst_0 ?_
  refine sw_setI (pc' := 21) ok fr_X1_24 dX1_begin_18 (fun h => by cases h) rfl ?_
  refine sw_aload_n (z := a0) (pc' := 22) ok dX1_begin_21 rfl rfl ?_
  refine sw_aload_n (z := a1) (pc' := 23) ok dX1_begin_22 rfl rfl ?_
  refine sw_cllV_U (st := []) (as := [.ref a1]) (pc' := 26) ok (S_X1_listen a0 a1) (by decide) lk_X1_34 rfl dX1_begin_23 rfl (Nat.le_of_ble_eq_true rfl) rfl (fun _ => ?_)
  exact sw_ret ok okr dX1_begin_26 trivial rfl
theorem S_X1_begin (a0 : Nat) (a1 : Nat) : Sim 3 yX1_begin cX1_begin 2 (none) iU [.ref a0, .ref a1] (P_X1_begin a0 a1) := Sim.intro wd_940 (by decide) (by decide +kernel) (Nat.le_of_ble_eq_true rfl) (fun Γ ok okr => W_X1_begin ok okr a0 a1)
theorem dX1_become_0 : decode cX1_become 0 = .ok (.iconst 0, 1) := by decide +kernel
theorem dX1_become_1 : decode cX1_become 1 = .ok (.istore_n 2, 1) := by decide +kernel
theorem dX1_become_2 : decode cX1_become 2 = .ok (.iload_n 2, 1) := by decide +kernel
theorem dX1_become_3 : decode cX1_become 3 = .ok (.bipush 6, 2) := by decide +kernel
theorem dX1_become_5 : decode cX1_become 5 = .ok (.if_icmp .ge 33, 3) := by decide +kernel
theorem dX1_become_8 : decode cX1_become 8 = .ok (.aload_n 0, 1) := by decide +kernel
theorem dX1_become_9 : decode cX1_become 9 = .ok (.getfield 11, 3) := by decide +kernel
theorem dX1_become_12 : decode cX1_become 12 = .ok (.iload_n 2, 1) := by decide +kernel
theorem dX1_become_13 : decode cX1_become 13 = .ok (.aload_n 1, 1) := by decide +kernel
theorem dX1_become_14 : decode cX1_become 14 = .ok (.getfield 11, 3) := by decide +kernel
theorem dX1_become_17 : decode cX1_become 17 = .ok (.iload_n 2, 1) := by decide +kernel
theorem dX1_become_18 : decode cX1_become 18 = .ok (.iaload, 1) := by decide +kernel
theorem dX1_become_19 : decode cX1_become 19 = .ok (.iastore, 1) := by decide +kernel
theorem dX1_become_20 : decode cX1_become 20 = .ok (.aload_n 0, 1) := by decide +kernel
theorem dX1_become_21 : decode cX1_become 21 = .ok (.getfield 17, 3) := by decide +kernel
theorem dX1_become_24 : decode cX1_become 24 = .ok (.iload_n 2, 1) := by decide +kernel
theorem dX1_become_25 : decode cX1_become 25 = .ok (.aload_n 1, 1) := by decide +kernel
theorem dX1_become_26 : decode cX1_become 26 = .ok (.getfield 17, 3) := by decide +kernel
theorem dX1_become_29 : decode cX1_become 29 = .ok (.iload_n 2, 1) := by decide +kernel
theorem dX1_become_30 : decode cX1_become 30 = .ok (.iaload, 1) := by decide +kernel
theorem dX1_become_31 : decode cX1_become 31 = .ok (.iastore, 1) := by decide +kernel
theorem dX1_become_32 : decode cX1_become 32 = .ok (.iinc 2 1, 3) := by decide +kernel
theorem dX1_become_35 : decode cX1_become 35 = .ok (.goto (-33), 3) := by decide +kernel
theorem dX1_become_38 : decode cX1_become 38 = .ok (.aload_n 0, 1) := by decide +kernel
theorem dX1_become_39 : decode cX1_become 39 = .ok (.aload_n 1, 1) := by decide +kernel
theorem dX1_become_40 : decode cX1_become 40 = .ok (.getfield 20, 3) := by decide +kernel
theorem dX1_become_43 : decode cX1_become 43 = .ok (.putfield 20, 3) := by decide +kernel
theorem dX1_become_46 : decode cX1_become 46 = .ok (.aload_n 0, 1) := by decide +kernel
theorem dX1_become_47 : decode cX1_become 47 = .ok (.aload_n 1, 1) := by decide +kernel
theorem dX1_become_48 : decode cX1_become 48 = .ok (.getfield 24, 3) := by decide +kernel
theorem dX1_become_51 : decode cX1_become 51 = .ok (.putfield 24, 3) := by decide +kernel
theorem dX1_become_54 : decode cX1_become 54 = .ok (.return_, 1) := by decide +kernel
def P_X1_become_2 (k_38 : PM Unit) (p0 : Nat) (p1 : Nat) : Nat → Int32 → PM Unit
  | 0, _ => failM
  | n + 1, q2 =>
    ifB (decide (6 ≤ q2)) (
    k_38) (
    getR 1 0 p0 fun v4 =>
    getR 1 0 p1 fun v5 =>
    ald v5 q2 fun v6 =>
    ast v4 q2 v6 <|
    getR 1 1 p0 fun v7 =>
    getR 1 1 p1 fun v8 =>
    ald v8 q2 fun v9 =>
    ast v7 q2 v9 <|
    P_X1_become_2 k_38 p0 p1 n (q2 + 1))
def P_X1_become (a0 : Nat) (a1 : Nat) : PM Unit :=
jn (
getI 1 2 a1 fun v1 =>
setI 1 2 a0 v1 <|
getI 1 3 a1 fun v2 =>
setI 1 3 a0 v2 <|
pureM ()) fun k3 =>
P_X1_become_2 k3 a0 a1 4000 0
set_option maxHeartbeats 4000000 in
set_option maxRecDepth 100000 in
theorem W_X1_become_2 {Γ : Cx} (ok : OKc Γ cX1_become RX1 0 "become") (okr : OKr Γ cX1_become (none)) (k_38 : PM Unit) (p0 : Nat) (p1 : Nat) (hk_38 : SW Γ iU 38 [some (.ref p0), some (.ref p1), none] [] (k_38)) : ∀ (n : Nat) (q2 : Int32), SW Γ iU 2 [some (.ref p0), some (.ref p1), some (.int q2)] [] (P_X1_become_2 k_38 p0 p1 n q2) := by
  intro n
  induction n with
  | zero =>
    intros
    exact sw_fail
  | succ n ih =>
    intro q2
    unfold P_X1_become_2
    refine sw_iload_n (z := q2) (pc' := 3) ok dX1_become_2 rfl rfl ?_
    refine sw_bipush (v := 6) (pc' := 5) ok dX1_become_3 rfl cc_bipush_6 ?_
    refine sw_icmp_ge (tgt := 38) (pc' := 8) ok dX1_become_5 (by decide) rfl ?_ ?_
    · refine sw_fg (l' := [some (.ref p0), some (.ref p1), none]) [true, true, false] rfl ?_
      exact hk_38
    refine sw_aload_n (z := p0) (pc' := 9) ok dX1_become_8 rfl rfl ?_
    refine sw_getR (pc' := 12) ok (fr_X1_11.g) dX1_become_9 rfl (fun v4 => ?_)
    refine sw_iload_n (z := q2) (pc' := 13) ok dX1_become_12 rfl rfl ?_
    refine sw_aload_n (z := p1) (pc' := 14) ok dX1_become_13 rfl rfl ?_
    refine sw_getR (pc' := 17) ok (fr_X1_11.g) dX1_become_14 rfl (fun v5 => ?_)
    refine sw_iload_n (z := q2) (pc' := 18) ok dX1_become_17 rfl rfl ?_
    refine sw_ald (pc' := 19) ok dX1_become_18 rfl (fun v6 => ?_)
    refine sw_ast (pc' := 20) ok dX1_become_19 rfl ?_
    refine sw_aload_n (z := p0) (pc' := 21) ok dX1_become_20 rfl rfl ?_
    refine sw_getR (pc' := 24) ok (fr_X1_17.g) dX1_become_21 rfl (fun v7 => ?_)
    refine sw_iload_n (z := q2) (pc' := 25) ok dX1_become_24 rfl rfl ?_
    refine sw_aload_n (z := p1) (pc' := 26) ok dX1_become_25 rfl rfl ?_
    refine sw_getR (pc' := 29) ok (fr_X1_17.g) dX1_become_26 rfl (fun v8 => ?_)
    refine sw_iload_n (z := q2) (pc' := 30) ok dX1_become_29 rfl rfl ?_
    refine sw_ald (pc' := 31) ok dX1_become_30 rfl (fun v9 => ?_)
    refine sw_ast (pc' := 32) ok dX1_become_31 rfl ?_
    refine sw_iinc (z := q2) (v := q2 + 1) (pc' := 35) (l' := [some (.ref p0), some (.ref p1), some (.int (q2 + 1))]) ok dX1_become_32 rfl rfl (by rw [cc_iconst_1]) rfl ?_
    refine sw_goto (tgt := 2) ok dX1_become_35 (by decide) ?_
    exact ih (q2 + 1)
set_option maxHeartbeats 4000000 in
set_option maxRecDepth 100000 in
theorem W_X1_become {Γ : Cx} (ok : OKc Γ cX1_become RX1 0 "become") (okr : OKr Γ cX1_become (none)) (a0 : Nat) (a1 : Nat) : SW Γ iU 0 [some (.ref a0), some (.ref a1), none] [] (P_X1_become a0 a1) := by
  unfold P_X1_become
  refine sw_iconst (v := 0) (pc' := 1) ok dX1_become_0 rfl cc_iconst_0 ?_
  refine sw_istore_n (pc' := 2) (l' := [some (.ref a0), some (.ref a1), some (.int 0)]) ok dX1_become_1 rfl (Nat.le_of_ble_eq_true rfl) rfl ?_
  refine sw_jn (fun k3 : PM Unit => SW Γ iU 38 [some (.ref a0), some (.ref a1), none] [] (k3)) ?_ (fun k3 hk3 => ?_)
  · refine sw_aload_n (z := a0) (pc' := 39) ok dX1_become_38 rfl rfl ?_
    refine sw_aload_n (z := a1) (pc' := 40) ok dX1_become_39 rfl rfl ?_
    refine sw_getI (pc' := 43) ok (fr_X1_20.g) dX1_become_40 rfl (fun v1 => ?_)
    refine sw_setI (pc' := 46) ok fr_X1_20 dX1_become_43 (fun h => by cases h) rfl ?_
    refine sw_aload_n (z := a0) (pc' := 47) ok dX1_become_46 rfl rfl ?_
    refine sw_aload_n (z := a1) (pc' := 48) ok dX1_become_47 rfl rfl ?_
    refine sw_getI (pc' := 51) ok (fr_X1_24.g) dX1_become_48 rfl (fun v2 => ?_)
    refine sw_setI (pc' := 54) ok fr_X1_24 dX1_become_51 (fun h => by cases h) rfl ?_
    exact sw_ret ok okr dX1_become_54 trivial rfl
  exact W_X1_become_2 ok okr k3 a0 a1 hk3 4000 0
theorem S_X1_become (a0 : Nat) (a1 : Nat) : Sim 0 yX1_become cX1_become 3 (none) iU [.ref a0, .ref a1] (P_X1_become a0 a1) := Sim.intro wd_941 (by decide) (by decide +kernel) (Nat.le_of_ble_eq_true rfl) (fun Γ ok okr => W_X1_become ok okr a0 a1)
theorem dX1_pairMeans_0 : decode cX1_pairMeans 0 = .ok (.aload_n 1, 1) := by decide +kernel
theorem dX1_pairMeans_1 : decode cX1_pairMeans 1 = .ok (.iload_n 2, 1) := by decide +kernel
theorem dX1_pairMeans_2 : decode cX1_pairMeans 2 = .ok (.invokevirtual 58, 3) := by decide +kernel
theorem dX1_pairMeans_5 : decode cX1_pairMeans 5 = .ok (.ifCond .eq 11, 3) := by decide +kernel
theorem dX1_pairMeans_8 : decode cX1_pairMeans 8 = .ok (.aload_n 1, 1) := by decide +kernel
theorem dX1_pairMeans_9 : decode cX1_pairMeans 9 = .ok (.iload_n 3, 1) := by decide +kernel
theorem dX1_pairMeans_10 : decode cX1_pairMeans 10 = .ok (.invokevirtual 58, 3) := by decide +kernel
theorem dX1_pairMeans_13 : decode cX1_pairMeans 13 = .ok (.ifCond .ne 5, 3) := by decide +kernel
theorem dX1_pairMeans_16 : decode cX1_pairMeans 16 = .ok (.iconst 0, 1) := by decide +kernel
theorem dX1_pairMeans_17 : decode cX1_pairMeans 17 = .ok (.ireturn, 1) := by decide +kernel
theorem dX1_pairMeans_18 : decode cX1_pairMeans 18 = .ok (.aload_n 0, 1) := by decide +kernel
theorem dX1_pairMeans_19 : decode cX1_pairMeans 19 = .ok (.getfield 17, 3) := by decide +kernel
theorem dX1_pairMeans_22 : decode cX1_pairMeans 22 = .ok (.iload_n 2, 1) := by decide +kernel
theorem dX1_pairMeans_23 : decode cX1_pairMeans 23 = .ok (.iaload, 1) := by decide +kernel
theorem dX1_pairMeans_24 : decode cX1_pairMeans 24 = .ok (.aload_n 0, 1) := by decide +kernel
theorem dX1_pairMeans_25 : decode cX1_pairMeans 25 = .ok (.getfield 17, 3) := by decide +kernel
theorem dX1_pairMeans_28 : decode cX1_pairMeans 28 = .ok (.iload_n 3, 1) := by decide +kernel
theorem dX1_pairMeans_29 : decode cX1_pairMeans 29 = .ok (.iaload, 1) := by decide +kernel
theorem dX1_pairMeans_30 : decode cX1_pairMeans 30 = .ok (.iadd, 1) := by decide +kernel
theorem dX1_pairMeans_31 : decode cX1_pairMeans 31 = .ok (.istore 4, 2) := by decide +kernel
theorem dX1_pairMeans_33 : decode cX1_pairMeans 33 = .ok (.aload_n 1, 1) := by decide +kernel
theorem dX1_pairMeans_34 : decode cX1_pairMeans 34 = .ok (.getfield 62, 3) := by decide +kernel
theorem dX1_pairMeans_37 : decode cX1_pairMeans 37 = .ok (.iload_n 2, 1) := by decide +kernel
theorem dX1_pairMeans_38 : decode cX1_pairMeans 38 = .ok (.iaload, 1) := by decide +kernel
theorem dX1_pairMeans_39 : decode cX1_pairMeans 39 = .ok (.iload_n 3, 1) := by decide +kernel
theorem dX1_pairMeans_40 : decode cX1_pairMeans 40 = .ok (.ishr, 1) := by decide +kernel
theorem dX1_pairMeans_41 : decode cX1_pairMeans 41 = .ok (.iconst 1, 1) := by decide +kernel
theorem dX1_pairMeans_42 : decode cX1_pairMeans 42 = .ok (.iand, 1) := by decide +kernel
theorem dX1_pairMeans_43 : decode cX1_pairMeans 43 = .ok (.iconst 1, 1) := by decide +kernel
theorem dX1_pairMeans_44 : decode cX1_pairMeans 44 = .ok (.if_icmp .ne 10, 3) := by decide +kernel
theorem dX1_pairMeans_47 : decode cX1_pairMeans 47 = .ok (.iload 4, 2) := by decide +kernel
theorem dX1_pairMeans_49 : decode cX1_pairMeans 49 = .ok (.iconst 3, 1) := by decide +kernel
theorem dX1_pairMeans_50 : decode cX1_pairMeans 50 = .ok (.isub, 1) := by decide +kernel
theorem dX1_pairMeans_51 : decode cX1_pairMeans 51 = .ok (.goto 5, 3) := by decide +kernel
theorem dX1_pairMeans_54 : decode cX1_pairMeans 54 = .ok (.iload 4, 2) := by decide +kernel
theorem dX1_pairMeans_56 : decode cX1_pairMeans 56 = .ok (.ireturn, 1) := by decide +kernel
def P_X1_pairMeans (a0 : Nat) (a1 : Nat) (x2 : Int32) (x3 : Int32) : PM Int32 :=
cllV 0 a1 (P_X0_has a1 x2) fun v1 =>
ifB (decide (v1 = 0)) (
pureM 0) (
cllV 0 a1 (P_X0_has a1 x3) fun v2 =>
ifB (decide (¬ v2 = 0)) (
getR 1 1 a0 fun v3 =>
ald v3 x2 fun v4 =>
getR 1 1 a0 fun v5 =>
ald v5 x3 fun v6 =>
getR 0 3 a1 fun v7 =>
ald v7 x2 fun v8 =>
ifB (decide (¬ ((v8 >>> (x3 &&& 31)) &&& 1) = 1)) (
pureM (v4 + v6)) (
pureM ((v4 + v6) - 3))) (
pureM 0))
set_option maxHeartbeats 4000000 in
set_option maxRecDepth 100000 in
theorem W_X1_pairMeans {Γ : Cx} (ok : OKc Γ cX1_pairMeans RX1 1 "pairMeans") (okr : OKr Γ cX1_pairMeans (some .int)) (a0 : Nat) (a1 : Nat) (x2 : Int32) (x3 : Int32) : SW Γ iI 0 [some (.ref a0), some (.ref a1), some (.int x2), some (.int x3), none] [] (P_X1_pairMeans a0 a1 x2 x3) := by
  unfold P_X1_pairMeans
  refine sw_aload_n (z := a1) (pc' := 1) ok dX1_pairMeans_0 rfl rfl ?_
  refine sw_iload_n (z := x2) (pc' := 2) ok dX1_pairMeans_1 rfl rfl ?_
  refine sw_cllV_I (st := []) (as := [.int x2]) (pc' := 5) ok (S_X0_has a1 x2) (by decide) lk_X1_58 rfl dX1_pairMeans_2 rfl (Nat.le_of_ble_eq_true rfl) rfl (fun v1 => ?_)
  refine sw_if_eq (tgt := 16) (pc' := 8) ok dX1_pairMeans_5 (by decide) rfl ?_ ?_
  · refine sw_iconst (v := 0) (pc' := 17) ok dX1_pairMeans_16 rfl cc_iconst_0 ?_
    exact sw_ret ok okr dX1_pairMeans_17 trivial rfl
  refine sw_aload_n (z := a1) (pc' := 9) ok dX1_pairMeans_8 rfl rfl ?_
  refine sw_iload_n (z := x3) (pc' := 10) ok dX1_pairMeans_9 rfl rfl ?_
  refine sw_cllV_I (st := []) (as := [.int x3]) (pc' := 13) ok (S_X0_has a1 x3) (by decide) lk_X1_58 rfl dX1_pairMeans_10 rfl (Nat.le_of_ble_eq_true rfl) rfl (fun v2 => ?_)
  refine sw_if_ne (tgt := 18) (pc' := 16) ok dX1_pairMeans_13 (by decide) rfl ?_ ?_
  · refine sw_aload_n (z := a0) (pc' := 19) ok dX1_pairMeans_18 rfl rfl ?_
    refine sw_getR (pc' := 22) ok (fr_X1_17.g) dX1_pairMeans_19 rfl (fun v3 => ?_)
    refine sw_iload_n (z := x2) (pc' := 23) ok dX1_pairMeans_22 rfl rfl ?_
    refine sw_ald (pc' := 24) ok dX1_pairMeans_23 rfl (fun v4 => ?_)
    refine sw_aload_n (z := a0) (pc' := 25) ok dX1_pairMeans_24 rfl rfl ?_
    refine sw_getR (pc' := 28) ok (fr_X1_17.g) dX1_pairMeans_25 rfl (fun v5 => ?_)
    refine sw_iload_n (z := x3) (pc' := 29) ok dX1_pairMeans_28 rfl rfl ?_
    refine sw_ald (pc' := 30) ok dX1_pairMeans_29 rfl (fun v6 => ?_)
    refine sw_iadd (pc' := 31) ok dX1_pairMeans_30 rfl ?_
    refine sw_istore (pc' := 33) (l' := [some (.ref a0), some (.ref a1), some (.int x2), some (.int x3), some (.int (v4 + v6))]) ok dX1_pairMeans_31 rfl (Nat.le_of_ble_eq_true rfl) rfl ?_
    refine sw_aload_n (z := a1) (pc' := 34) ok dX1_pairMeans_33 rfl rfl ?_
    refine sw_getR (pc' := 37) ok (fr_X1_62) dX1_pairMeans_34 rfl (fun v7 => ?_)
    refine sw_iload_n (z := x2) (pc' := 38) ok dX1_pairMeans_37 rfl rfl ?_
    refine sw_ald (pc' := 39) ok dX1_pairMeans_38 rfl (fun v8 => ?_)
    refine sw_iload_n (z := x3) (pc' := 40) ok dX1_pairMeans_39 rfl rfl ?_
    refine sw_ishr (pc' := 41) ok dX1_pairMeans_40 rfl ?_
    refine sw_iconst (v := 1) (pc' := 42) ok dX1_pairMeans_41 rfl cc_iconst_1 ?_
    refine sw_iand (pc' := 43) ok dX1_pairMeans_42 rfl ?_
    refine sw_iconst (v := 1) (pc' := 44) ok dX1_pairMeans_43 rfl cc_iconst_1 ?_
    refine sw_icmp_ne (tgt := 54) (pc' := 47) ok dX1_pairMeans_44 (by decide) rfl ?_ ?_
    · refine sw_iload (z := (v4 + v6)) (pc' := 56) ok dX1_pairMeans_54 rfl rfl ?_
      exact sw_ret ok okr dX1_pairMeans_56 trivial rfl
    refine sw_iload (z := (v4 + v6)) (pc' := 49) ok dX1_pairMeans_47 rfl rfl ?_
    refine sw_iconst (v := 3) (pc' := 50) ok dX1_pairMeans_49 rfl cc_iconst_3 ?_
    refine sw_isub (pc' := 51) ok dX1_pairMeans_50 rfl ?_
    refine sw_goto (tgt := 56) ok dX1_pairMeans_51 (by decide) ?_
    exact sw_ret ok okr dX1_pairMeans_56 trivial rfl
  refine sw_iconst (v := 0) (pc' := 17) ok dX1_pairMeans_16 rfl cc_iconst_0 ?_
  exact sw_ret ok okr dX1_pairMeans_17 trivial rfl
theorem S_X1_pairMeans (a0 : Nat) (a1 : Nat) (x2 : Int32) (x3 : Int32) : Sim 1 yX1_pairMeans cX1_pairMeans 5 (some .int) iI [.ref a0, .ref a1, .int x2, .int x3] (P_X1_pairMeans a0 a1 x2 x3) := Sim.intro wd_942 (by decide) (by decide +kernel) (Nat.le_of_ble_eq_true rfl) (fun Γ ok okr => W_X1_pairMeans ok okr a0 a1 x2 x3)
