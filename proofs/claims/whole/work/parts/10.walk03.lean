/-! Programs and walks, printed by program (gen.py). -/
theorem dX6_init_0 : decode cX6_init 0 = .ok (.aload_n 0, 1) := by decide +kernel
theorem dX6_init_1 : decode cX6_init 1 = .ok (.invokespecial 3, 3) := by decide +kernel
theorem dX6_init_4 : decode cX6_init 4 = .ok (.aload_n 0, 1) := by decide +kernel
theorem dX6_init_5 : decode cX6_init 5 = .ok (.iconst 3, 1) := by decide +kernel
theorem dX6_init_6 : decode cX6_init 6 = .ok (.anewarray 9, 3) := by decide +kernel
theorem dX6_init_9 : decode cX6_init 9 = .ok (.putfield 11, 3) := by decide +kernel
theorem dX6_init_12 : decode cX6_init 12 = .ok (.aload_n 0, 1) := by decide +kernel
theorem dX6_init_13 : decode cX6_init 13 = .ok (.iconst 3, 1) := by decide +kernel
theorem dX6_init_14 : decode cX6_init 14 = .ok (.newarray .int, 2) := by decide +kernel
theorem dX6_init_16 : decode cX6_init 16 = .ok (.putfield 17, 3) := by decide +kernel
theorem dX6_init_19 : decode cX6_init 19 = .ok (.aload_n 0, 1) := by decide +kernel
theorem dX6_init_20 : decode cX6_init 20 = .ok (.iconst 3, 1) := by decide +kernel
theorem dX6_init_21 : decode cX6_init 21 = .ok (.newarray .int, 2) := by decide +kernel
theorem dX6_init_23 : decode cX6_init 23 = .ok (.putfield 21, 3) := by decide +kernel
theorem dX6_init_26 : decode cX6_init 26 = .ok (.aload_n 0, 1) := by decide +kernel
theorem dX6_init_27 : decode cX6_init 27 = .ok (.iconst 3, 1) := by decide +kernel
theorem dX6_init_28 : decode cX6_init 28 = .ok (.newarray .int, 2) := by decide +kernel
theorem dX6_init_30 : decode cX6_init 30 = .ok (.putfield 24, 3) := by decide +kernel
theorem dX6_init_33 : decode cX6_init 33 = .ok (.aload_n 0, 1) := by decide +kernel
theorem dX6_init_34 : decode cX6_init 34 = .ok (.iconst 0, 1) := by decide +kernel
theorem dX6_init_35 : decode cX6_init 35 = .ok (.putfield 27, 3) := by decide +kernel
theorem dX6_init_38 : decode cX6_init 38 = .ok (.aload_n 0, 1) := by decide +kernel
theorem dX6_init_39 : decode cX6_init 39 = .ok (.iconst 0, 1) := by decide +kernel
theorem dX6_init_40 : decode cX6_init 40 = .ok (.putfield 31, 3) := by decide +kernel
theorem dX6_init_43 : decode cX6_init 43 = .ok (.aload_n 0, 1) := by decide +kernel
theorem dX6_init_44 : decode cX6_init 44 = .ok (.iconst 0, 1) := by decide +kernel
theorem dX6_init_45 : decode cX6_init 45 = .ok (.putfield 35, 3) := by decide +kernel
theorem dX6_init_48 : decode cX6_init 48 = .ok (.aload_n 0, 1) := by decide +kernel
theorem dX6_init_49 : decode cX6_init 49 = .ok (.iconst 0, 1) := by decide +kernel
theorem dX6_init_50 : decode cX6_init 50 = .ok (.putfield 38, 3) := by decide +kernel
theorem dX6_init_53 : decode cX6_init 53 = .ok (.aload_n 0, 1) := by decide +kernel
theorem dX6_init_54 : decode cX6_init 54 = .ok (.bipush (-9), 2) := by decide +kernel
theorem dX6_init_56 : decode cX6_init 56 = .ok (.putfield 41, 3) := by decide +kernel
theorem dX6_init_59 : decode cX6_init 59 = .ok (.aload_n 0, 1) := by decide +kernel
theorem dX6_init_60 : decode cX6_init 60 = .ok (.iconst 0, 1) := by decide +kernel
theorem dX6_init_61 : decode cX6_init 61 = .ok (.putfield 44, 3) := by decide +kernel
theorem dX6_init_64 : decode cX6_init 64 = .ok (.aload_n 0, 1) := by decide +kernel
theorem dX6_init_65 : decode cX6_init 65 = .ok (.iconst 0, 1) := by decide +kernel
theorem dX6_init_66 : decode cX6_init 66 = .ok (.putfield 47, 3) := by decide +kernel
theorem dX6_init_69 : decode cX6_init 69 = .ok (.aload_n 0, 1) := by decide +kernel
theorem dX6_init_70 : decode cX6_init 70 = .ok (.iconst 0, 1) := by decide +kernel
theorem dX6_init_71 : decode cX6_init 71 = .ok (.putfield 50, 3) := by decide +kernel
theorem dX6_init_74 : decode cX6_init 74 = .ok (.iconst 0, 1) := by decide +kernel
theorem dX6_init_75 : decode cX6_init 75 = .ok (.istore_n 1, 1) := by decide +kernel
theorem dX6_init_76 : decode cX6_init 76 = .ok (.iload_n 1, 1) := by decide +kernel
theorem dX6_init_77 : decode cX6_init 77 = .ok (.iconst 3, 1) := by decide +kernel
theorem dX6_init_78 : decode cX6_init 78 = .ok (.if_icmp .ge 22, 3) := by decide +kernel
theorem dX6_init_81 : decode cX6_init 81 = .ok (.aload_n 0, 1) := by decide +kernel
theorem dX6_init_82 : decode cX6_init 82 = .ok (.getfield 11, 3) := by decide +kernel
theorem dX6_init_85 : decode cX6_init 85 = .ok (.iload_n 1, 1) := by decide +kernel
theorem dX6_init_86 : decode cX6_init 86 = .ok (.new 9, 3) := by decide +kernel
theorem dX6_init_89 : decode cX6_init 89 = .ok (.dup, 1) := by decide +kernel
theorem dX6_init_90 : decode cX6_init 90 = .ok (.invokespecial 53, 3) := by decide +kernel
theorem dX6_init_93 : decode cX6_init 93 = .ok (.aastore, 1) := by decide +kernel
theorem dX6_init_94 : decode cX6_init 94 = .ok (.iinc 1 1, 3) := by decide +kernel
theorem dX6_init_97 : decode cX6_init 97 = .ok (.goto (-21), 3) := by decide +kernel
theorem dX6_init_100 : decode cX6_init 100 = .ok (.return_, 1) := by decide +kernel
def P_X6_init_76 (p0 : Nat) : Nat → Int32 → PM Unit
  | 0, _ => failM
  | n + 1, q1 =>
    ifB (decide (3 ≤ q1)) (
    pureM ()) (
    getR 6 0 p0 fun v5 =>
    newO 1 4 [.null, .null, .int 0, .int 0] fun o6 =>
    cllA (P_X1_init o6) fun _ =>
    astR v5 q1 o6 <|
    P_X6_init_76 p0 n (q1 + 1))
def P_X6_init (a0 : Nat) : PM Unit :=
newR 2 3 fun o1 =>
setR 6 0 a0 o1 <|
newA 3 fun o2 =>
setR 6 1 a0 o2 <|
newA 3 fun o3 =>
setR 6 2 a0 o3 <|
newA 3 fun o4 =>
setR 6 3 a0 o4 <|
setI 6 4 a0 0 <|
setZ 6 5 a0 0 <|
setI 6 6 a0 0 <|
setI 6 7 a0 0 <|
setI 6 8 a0 ((-9)) <|
setI 6 9 a0 0 <|
setI 6 10 a0 0 <|
setI 6 11 a0 0 <|
P_X6_init_76 a0 4000 0
set_option maxHeartbeats 4000000 in
set_option maxRecDepth 100000 in
theorem W_X6_init_76 {Γ : Cx} (ok : OKc Γ cX6_init RX6 2 "<init>") (okr : OKr Γ cX6_init (none)) (p0 : Nat) : ∀ (n : Nat) (q1 : Int32), SW Γ iU 76 [some (.ref p0), some (.int q1)] [] (P_X6_init_76 p0 n q1) := by
  intro n
  induction n with
  | zero =>
    intros
    exact sw_fail
  | succ n ih =>
    intro q1
    unfold P_X6_init_76
    refine sw_iload_n (z := q1) (pc' := 77) ok dX6_init_76 rfl rfl ?_
    refine sw_iconst (v := 3) (pc' := 78) ok dX6_init_77 rfl cc_iconst_3 ?_
    refine sw_icmp_ge (tgt := 100) (pc' := 81) ok dX6_init_78 (by decide) rfl ?_ ?_
    · exact sw_ret ok okr dX6_init_100 trivial rfl
    refine sw_aload_n (z := p0) (pc' := 82) ok dX6_init_81 rfl rfl ?_
    refine sw_getR (pc' := 85) ok (fr_X6_11.g) dX6_init_82 rfl (fun v5 => ?_)
    refine sw_iload_n (z := q1) (pc' := 86) ok dX6_init_85 rfl rfl ?_
    refine sw_newO (T := TX1) (pc' := 89) ok rfl ck_X1 tyX1_ok wd_178 wd_81 wd_36 df_X1 dX6_init_86 rfl (fun o6 => ?_)
    refine sw_dup (pc' := 90) ok dX6_init_89 rfl rfl ?_
    refine sw_cllA_U (st := [.ref o6, .int q1, .ref v5]) (as := []) (pc' := 93) ok (S_X1_init o6) (by decide) lk_X6_53 rfl dX6_init_90 rfl (Nat.le_of_ble_eq_true rfl) rfl (fun _ => ?_)
    refine sw_astR (pc' := 94) ok dX6_init_93 rfl ?_
    refine sw_iinc (z := q1) (v := q1 + 1) (pc' := 97) (l' := [some (.ref p0), some (.int (q1 + 1))]) ok dX6_init_94 rfl rfl (by rw [cc_iconst_1]) rfl ?_
    refine sw_goto (tgt := 76) ok dX6_init_97 (by decide) ?_
    exact ih (q1 + 1)
set_option maxHeartbeats 4000000 in
set_option maxRecDepth 100000 in
theorem W_X6_init {Γ : Cx} (ok : OKc Γ cX6_init RX6 2 "<init>") (okr : OKr Γ cX6_init (none)) (a0 : Nat) : SW Γ iU 0 [some (.ref a0), none] [] (P_X6_init a0) := by
  unfold P_X6_init
  refine sw_aload_n (z := a0) (pc' := 1) ok dX6_init_0 rfl rfl ?_
  refine sw_obj (pc' := 4) ok wd_177 wd_1 wd_2 (by decide) dX6_init_1 rfl (Nat.le_of_ble_eq_true rfl) ?_
  refine sw_aload_n (z := a0) (pc' := 5) ok dX6_init_4 rfl rfl ?_
  refine sw_iconst (v := 3) (pc' := 6) ok dX6_init_5 rfl cc_iconst_3 ?_
  refine sw_newR (t := 2) (pc' := 9) ok (by decide) wd_178 dX6_init_6 rfl (fun o1 => ?_)
  refine sw_setR (pc' := 12) ok fr_X6_11 (fun _ => ⟨rfl, rfl⟩) dX6_init_9 (fun _ => rfl) rfl ?_
  refine sw_aload_n (z := a0) (pc' := 13) ok dX6_init_12 rfl rfl ?_
  refine sw_iconst (v := 3) (pc' := 14) ok dX6_init_13 rfl cc_iconst_3 ?_
  refine sw_newA (pc' := 16) ok wd_3 dX6_init_14 rfl (fun o2 => ?_)
  refine sw_setR (pc' := 19) ok fr_X6_17 (fun _ => ⟨rfl, rfl⟩) dX6_init_16 (fun _ => rfl) rfl ?_
  refine sw_aload_n (z := a0) (pc' := 20) ok dX6_init_19 rfl rfl ?_
  refine sw_iconst (v := 3) (pc' := 21) ok dX6_init_20 rfl cc_iconst_3 ?_
  refine sw_newA (pc' := 23) ok wd_3 dX6_init_21 rfl (fun o3 => ?_)
  refine sw_setR (pc' := 26) ok fr_X6_21 (fun _ => ⟨rfl, rfl⟩) dX6_init_23 (fun _ => rfl) rfl ?_
  refine sw_aload_n (z := a0) (pc' := 27) ok dX6_init_26 rfl rfl ?_
  refine sw_iconst (v := 3) (pc' := 28) ok dX6_init_27 rfl cc_iconst_3 ?_
  refine sw_newA (pc' := 30) ok wd_3 dX6_init_28 rfl (fun o4 => ?_)
  refine sw_setR (pc' := 33) ok fr_X6_24 (fun _ => ⟨rfl, rfl⟩) dX6_init_30 (fun _ => rfl) rfl ?_
  refine sw_aload_n (z := a0) (pc' := 34) ok dX6_init_33 rfl rfl ?_
  refine sw_iconst (v := 0) (pc' := 35) ok dX6_init_34 rfl cc_iconst_0 ?_
  refine sw_setI (pc' := 38) ok fr_X6_27 dX6_init_35 (fun h => by cases h) rfl ?_
  refine sw_aload_n (z := a0) (pc' := 39) ok dX6_init_38 rfl rfl ?_
  refine sw_iconst (v := 0) (pc' := 40) ok dX6_init_39 rfl cc_iconst_0 ?_
  refine sw_setZ (pc' := 43) ok fr_X6_31 dX6_init_40 (fun h => by cases h) rfl ?_
  refine sw_aload_n (z := a0) (pc' := 44) ok dX6_init_43 rfl rfl ?_
  refine sw_iconst (v := 0) (pc' := 45) ok dX6_init_44 rfl cc_iconst_0 ?_
  refine sw_setI (pc' := 48) ok fr_X6_35 dX6_init_45 (fun h => by cases h) rfl ?_
  refine sw_aload_n (z := a0) (pc' := 49) ok dX6_init_48 rfl rfl ?_
  refine sw_iconst (v := 0) (pc' := 50) ok dX6_init_49 rfl cc_iconst_0 ?_
  refine sw_setI (pc' := 53) ok fr_X6_38 dX6_init_50 (fun h => by cases h) rfl ?_
  refine sw_aload_n (z := a0) (pc' := 54) ok dX6_init_53 rfl rfl ?_
  refine sw_bipush (v := (-9)) (pc' := 56) ok dX6_init_54 rfl cc_bipush_m9 ?_
  refine sw_setI (pc' := 59) ok fr_X6_41 dX6_init_56 (fun h => by cases h) rfl ?_
  refine sw_aload_n (z := a0) (pc' := 60) ok dX6_init_59 rfl rfl ?_
  refine sw_iconst (v := 0) (pc' := 61) ok dX6_init_60 rfl cc_iconst_0 ?_
  refine sw_setI (pc' := 64) ok fr_X6_44 dX6_init_61 (fun h => by cases h) rfl ?_
  refine sw_aload_n (z := a0) (pc' := 65) ok dX6_init_64 rfl rfl ?_
  refine sw_iconst (v := 0) (pc' := 66) ok dX6_init_65 rfl cc_iconst_0 ?_
  refine sw_setI (pc' := 69) ok fr_X6_47 dX6_init_66 (fun h => by cases h) rfl ?_
  refine sw_aload_n (z := a0) (pc' := 70) ok dX6_init_69 rfl rfl ?_
  refine sw_iconst (v := 0) (pc' := 71) ok dX6_init_70 rfl cc_iconst_0 ?_
  refine sw_setI (pc' := 74) ok fr_X6_50 dX6_init_71 (fun h => by cases h) rfl ?_
  refine sw_iconst (v := 0) (pc' := 75) ok dX6_init_74 rfl cc_iconst_0 ?_
  refine sw_istore_n (pc' := 76) (l' := [some (.ref a0), some (.int 0)]) ok dX6_init_75 rfl (Nat.le_of_ble_eq_true rfl) rfl ?_
  exact W_X6_init_76 ok okr a0 4000 0
theorem S_X6_init (a0 : Nat) : Sim 2 yX6_init cX6_init 2 (none) iU [.ref a0] (P_X6_init a0) := Sim.intro wd_979 (by decide) (by decide +kernel) (Nat.le_of_ble_eq_true rfl) (fun Γ ok okr => W_X6_init ok okr a0)
theorem dX6_beginAside_0 : decode cX6_beginAside 0 = .ok (.aload_n 0, 1) := by decide +kernel
theorem dX6_beginAside_1 : decode cX6_beginAside 1 = .ok (.getfield 11, 3) := by decide +kernel
theorem dX6_beginAside_4 : decode cX6_beginAside 4 = .ok (.iconst 0, 1) := by decide +kernel
theorem dX6_beginAside_5 : decode cX6_beginAside 5 = .ok (.aaload, 1) := by decide +kernel
theorem dX6_beginAside_6 : decode cX6_beginAside 6 = .ok (.aload_n 1, 1) := by decide +kernel
theorem dX6_beginAside_7 : decode cX6_beginAside 7 = .ok (.invokevirtual 54, 3) := by decide +kernel
theorem dX6_beginAside_10 : decode cX6_beginAside 10 = .ok (.aload_n 0, 1) := by decide +kernel
theorem dX6_beginAside_11 : decode cX6_beginAside 11 = .ok (.getfield 11, 3) := by decide +kernel
theorem dX6_beginAside_14 : decode cX6_beginAside 14 = .ok (.iconst 0, 1) := by decide +kernel
theorem dX6_beginAside_15 : decode cX6_beginAside 15 = .ok (.aaload, 1) := by decide +kernel
theorem dX6_beginAside_16 : decode cX6_beginAside 16 = .ok (.areturn, 1) := by decide +kernel
def P_X6_beginAside (a0 : Nat) (a1 : Nat) : PM Nat :=
getR 6 0 a0 fun v1 =>
aldR v1 0 fun v2 =>
cllV 1 v2 (P_X1_become v2 a1) fun _ =>
getR 6 0 a0 fun v3 =>
aldR v3 0 fun v4 =>
pureM v4
set_option maxHeartbeats 4000000 in
set_option maxRecDepth 100000 in
theorem W_X6_beginAside {Γ : Cx} (ok : OKc Γ cX6_beginAside RX6 1 "beginAside") (okr : OKr Γ cX6_beginAside (some (.object "BridgeAwake$Hold"))) (a0 : Nat) (a1 : Nat) : SW Γ iR 0 [some (.ref a0), some (.ref a1)] [] (P_X6_beginAside a0 a1) := by
  unfold P_X6_beginAside
  refine sw_aload_n (z := a0) (pc' := 1) ok dX6_beginAside_0 rfl rfl ?_
  refine sw_getR (pc' := 4) ok (fr_X6_11.g) dX6_beginAside_1 rfl (fun v1 => ?_)
  refine sw_iconst (v := 0) (pc' := 5) ok dX6_beginAside_4 rfl cc_iconst_0 ?_
  refine sw_aldR (pc' := 6) ok dX6_beginAside_5 rfl (fun v2 => ?_)
  refine sw_aload_n (z := a1) (pc' := 7) ok dX6_beginAside_6 rfl rfl ?_
  refine sw_cllV_U (st := []) (as := [.ref a1]) (pc' := 10) ok (S_X1_become v2 a1) (by decide) lk_X6_54 rfl dX6_beginAside_7 rfl (Nat.le_of_ble_eq_true rfl) rfl (fun _ => ?_)
  refine sw_aload_n (z := a0) (pc' := 11) ok dX6_beginAside_10 rfl rfl ?_
  refine sw_getR (pc' := 14) ok (fr_X6_11.g) dX6_beginAside_11 rfl (fun v3 => ?_)
  refine sw_iconst (v := 0) (pc' := 15) ok dX6_beginAside_14 rfl cc_iconst_0 ?_
  refine sw_aldR (pc' := 16) ok dX6_beginAside_15 rfl (fun v4 => ?_)
  exact sw_ret ok okr dX6_beginAside_16 trivial rfl
theorem S_X6_beginAside (a0 : Nat) (a1 : Nat) : Sim 1 yX6_beginAside cX6_beginAside 2 (some (.object "BridgeAwake$Hold")) iR [.ref a0, .ref a1] (P_X6_beginAside a0 a1) := Sim.intro wd_980 (by decide) (by decide +kernel) (Nat.le_of_ble_eq_true rfl) (fun Γ ok okr => W_X6_beginAside ok okr a0 a1)
theorem dX6_copyDeeper_0 : decode cX6_copyDeeper 0 = .ok (.iconst 0, 1) := by decide +kernel
theorem dX6_copyDeeper_1 : decode cX6_copyDeeper 1 = .ok (.iload_n 1, 1) := by decide +kernel
theorem dX6_copyDeeper_2 : decode cX6_copyDeeper 2 = .ok (.iconst 1, 1) := by decide +kernel
theorem dX6_copyDeeper_3 : decode cX6_copyDeeper 3 = .ok (.iadd, 1) := by decide +kernel
theorem dX6_copyDeeper_4 : decode cX6_copyDeeper 4 = .ok (.iconst 2, 1) := by decide +kernel
theorem dX6_copyDeeper_5 : decode cX6_copyDeeper 5 = .ok (.invokestatic 62, 3) := by decide +kernel
theorem dX6_copyDeeper_8 : decode cX6_copyDeeper 8 = .ok (.invokestatic 68, 3) := by decide +kernel
theorem dX6_copyDeeper_11 : decode cX6_copyDeeper 11 = .ok (.istore_n 2, 1) := by decide +kernel
theorem dX6_copyDeeper_12 : decode cX6_copyDeeper 12 = .ok (.iload_n 1, 1) := by decide +kernel
theorem dX6_copyDeeper_13 : decode cX6_copyDeeper 13 = .ok (.ifCond .lt 23, 3) := by decide +kernel
theorem dX6_copyDeeper_16 : decode cX6_copyDeeper 16 = .ok (.iload_n 1, 1) := by decide +kernel
theorem dX6_copyDeeper_17 : decode cX6_copyDeeper 17 = .ok (.iload_n 2, 1) := by decide +kernel
theorem dX6_copyDeeper_18 : decode cX6_copyDeeper 18 = .ok (.if_icmp .ge 18, 3) := by decide +kernel
theorem dX6_copyDeeper_21 : decode cX6_copyDeeper 21 = .ok (.aload_n 0, 1) := by decide +kernel
theorem dX6_copyDeeper_22 : decode cX6_copyDeeper 22 = .ok (.getfield 11, 3) := by decide +kernel
theorem dX6_copyDeeper_25 : decode cX6_copyDeeper 25 = .ok (.iload_n 2, 1) := by decide +kernel
theorem dX6_copyDeeper_26 : decode cX6_copyDeeper 26 = .ok (.aaload, 1) := by decide +kernel
theorem dX6_copyDeeper_27 : decode cX6_copyDeeper 27 = .ok (.aload_n 0, 1) := by decide +kernel
theorem dX6_copyDeeper_28 : decode cX6_copyDeeper 28 = .ok (.getfield 11, 3) := by decide +kernel
theorem dX6_copyDeeper_31 : decode cX6_copyDeeper 31 = .ok (.iload_n 1, 1) := by decide +kernel
theorem dX6_copyDeeper_32 : decode cX6_copyDeeper 32 = .ok (.aaload, 1) := by decide +kernel
theorem dX6_copyDeeper_33 : decode cX6_copyDeeper 33 = .ok (.invokevirtual 54, 3) := by decide +kernel
theorem dX6_copyDeeper_36 : decode cX6_copyDeeper 36 = .ok (.aload_n 0, 1) := by decide +kernel
theorem dX6_copyDeeper_37 : decode cX6_copyDeeper 37 = .ok (.getfield 11, 3) := by decide +kernel
theorem dX6_copyDeeper_40 : decode cX6_copyDeeper 40 = .ok (.iload_n 2, 1) := by decide +kernel
theorem dX6_copyDeeper_41 : decode cX6_copyDeeper 41 = .ok (.aaload, 1) := by decide +kernel
theorem dX6_copyDeeper_42 : decode cX6_copyDeeper 42 = .ok (.areturn, 1) := by decide +kernel
def P_X6_copyDeeper (a0 : Nat) (x1 : Int32) : PM Nat :=
cll0 (P_J9_min_7cf53 (x1 + 1) 2) fun v1 =>
cll0 (P_J9_max_7cf53 0 v1) fun v2 =>
jn (
getR 6 0 a0 fun v3 =>
aldR v3 v2 fun v4 =>
pureM v4) fun k5 =>
ifB (decide (x1 < 0)) (
k5) (
ifB (decide (v2 ≤ x1)) (
k5) (
getR 6 0 a0 fun v6 =>
aldR v6 v2 fun v7 =>
getR 6 0 a0 fun v8 =>
aldR v8 x1 fun v9 =>
cllV 1 v7 (P_X1_become v7 v9) fun _ =>
k5))
set_option maxHeartbeats 4000000 in
set_option maxRecDepth 100000 in
theorem W_X6_copyDeeper {Γ : Cx} (ok : OKc Γ cX6_copyDeeper RX6 1 "copyDeeper") (okr : OKr Γ cX6_copyDeeper (some (.object "BridgeAwake$Hold"))) (a0 : Nat) (x1 : Int32) : SW Γ iR 0 [some (.ref a0), some (.int x1), none] [] (P_X6_copyDeeper a0 x1) := by
  unfold P_X6_copyDeeper
  refine sw_iconst (v := 0) (pc' := 1) ok dX6_copyDeeper_0 rfl cc_iconst_0 ?_
  refine sw_iload_n (z := x1) (pc' := 2) ok dX6_copyDeeper_1 rfl rfl ?_
  refine sw_iconst (v := 1) (pc' := 3) ok dX6_copyDeeper_2 rfl cc_iconst_1 ?_
  refine sw_iadd (pc' := 4) ok dX6_copyDeeper_3 rfl ?_
  refine sw_iconst (v := 2) (pc' := 5) ok dX6_copyDeeper_4 rfl cc_iconst_2 ?_
  refine sw_cll0_I (st := [.int 0]) (as := [.int (x1 + 1), .int 2]) (pc' := 8) ok (S_J9_min_7cf53 (x1 + 1) 2) (by decide) lk_X6_62 rfl dX6_copyDeeper_5 rfl (Nat.le_of_ble_eq_true rfl) rfl (fun v1 => ?_)
  refine sw_cll0_I (st := []) (as := [.int 0, .int v1]) (pc' := 11) ok (S_J9_max_7cf53 0 v1) (by decide) lk_X6_68 rfl dX6_copyDeeper_8 rfl (Nat.le_of_ble_eq_true rfl) rfl (fun v2 => ?_)
  refine sw_istore_n (pc' := 12) (l' := [some (.ref a0), some (.int x1), some (.int v2)]) ok dX6_copyDeeper_11 rfl (Nat.le_of_ble_eq_true rfl) rfl ?_
  refine sw_iload_n (z := x1) (pc' := 13) ok dX6_copyDeeper_12 rfl rfl ?_
  refine sw_jn (fun k5 : PM Nat => SW Γ iR 36 [some (.ref a0), none, some (.int v2)] [] (k5)) ?_ (fun k5 hk5 => ?_)
  · refine sw_aload_n (z := a0) (pc' := 37) ok dX6_copyDeeper_36 rfl rfl ?_
    refine sw_getR (pc' := 40) ok (fr_X6_11.g) dX6_copyDeeper_37 rfl (fun v3 => ?_)
    refine sw_iload_n (z := v2) (pc' := 41) ok dX6_copyDeeper_40 rfl rfl ?_
    refine sw_aldR (pc' := 42) ok dX6_copyDeeper_41 rfl (fun v4 => ?_)
    exact sw_ret ok okr dX6_copyDeeper_42 trivial rfl
  refine sw_if_lt (tgt := 36) (pc' := 16) ok dX6_copyDeeper_13 (by decide) rfl ?_ ?_
  · refine sw_fg (l' := [some (.ref a0), none, some (.int v2)]) [true, false, true] rfl ?_
    exact hk5
  refine sw_iload_n (z := x1) (pc' := 17) ok dX6_copyDeeper_16 rfl rfl ?_
  refine sw_iload_n (z := v2) (pc' := 18) ok dX6_copyDeeper_17 rfl rfl ?_
  refine sw_icmp_ge (tgt := 36) (pc' := 21) ok dX6_copyDeeper_18 (by decide) rfl ?_ ?_
  · refine sw_fg (l' := [some (.ref a0), none, some (.int v2)]) [true, false, true] rfl ?_
    exact hk5
  refine sw_aload_n (z := a0) (pc' := 22) ok dX6_copyDeeper_21 rfl rfl ?_
  refine sw_getR (pc' := 25) ok (fr_X6_11.g) dX6_copyDeeper_22 rfl (fun v6 => ?_)
  refine sw_iload_n (z := v2) (pc' := 26) ok dX6_copyDeeper_25 rfl rfl ?_
  refine sw_aldR (pc' := 27) ok dX6_copyDeeper_26 rfl (fun v7 => ?_)
  refine sw_aload_n (z := a0) (pc' := 28) ok dX6_copyDeeper_27 rfl rfl ?_
  refine sw_getR (pc' := 31) ok (fr_X6_11.g) dX6_copyDeeper_28 rfl (fun v8 => ?_)
  refine sw_iload_n (z := x1) (pc' := 32) ok dX6_copyDeeper_31 rfl rfl ?_
  refine sw_aldR (pc' := 33) ok dX6_copyDeeper_32 rfl (fun v9 => ?_)
  refine sw_cllV_U (st := []) (as := [.ref v9]) (pc' := 36) ok (S_X1_become v7 v9) (by decide) lk_X6_54 rfl dX6_copyDeeper_33 rfl (Nat.le_of_ble_eq_true rfl) rfl (fun _ => ?_)
  refine sw_fg (l' := [some (.ref a0), none, some (.int v2)]) [true, false, true] rfl ?_
  exact hk5
theorem S_X6_copyDeeper (a0 : Nat) (x1 : Int32) : Sim 1 yX6_copyDeeper cX6_copyDeeper 3 (some (.object "BridgeAwake$Hold")) iR [.ref a0, .int x1] (P_X6_copyDeeper a0 x1) := Sim.intro wd_981 (by decide) (by decide +kernel) (Nat.le_of_ble_eq_true rfl) (fun Γ ok okr => W_X6_copyDeeper ok okr a0 x1)
theorem dX6_noteStrength_0 : decode cX6_noteStrength 0 = .ok (.iload_n 1, 1) := by decide +kernel
theorem dX6_noteStrength_1 : decode cX6_noteStrength 1 = .ok (.aload_n 0, 1) := by decide +kernel
theorem dX6_noteStrength_2 : decode cX6_noteStrength 2 = .ok (.getfield 35, 3) := by decide +kernel
theorem dX6_noteStrength_5 : decode cX6_noteStrength 5 = .ok (.if_icmp .le 33, 3) := by decide +kernel
theorem dX6_noteStrength_8 : decode cX6_noteStrength 8 = .ok (.aload_n 0, 1) := by decide +kernel
theorem dX6_noteStrength_9 : decode cX6_noteStrength 9 = .ok (.iload_n 1, 1) := by decide +kernel
theorem dX6_noteStrength_10 : decode cX6_noteStrength 10 = .ok (.putfield 35, 3) := by decide +kernel
theorem dX6_noteStrength_13 : decode cX6_noteStrength 13 = .ok (.iconst 0, 1) := by decide +kernel
theorem dX6_noteStrength_14 : decode cX6_noteStrength 14 = .ok (.istore_n 2, 1) := by decide +kernel
theorem dX6_noteStrength_15 : decode cX6_noteStrength 15 = .ok (.iload_n 2, 1) := by decide +kernel
theorem dX6_noteStrength_16 : decode cX6_noteStrength 16 = .ok (.iconst 3, 1) := by decide +kernel
theorem dX6_noteStrength_17 : decode cX6_noteStrength 17 = .ok (.if_icmp .ge 21, 3) := by decide +kernel
theorem dX6_noteStrength_20 : decode cX6_noteStrength 20 = .ok (.aload_n 0, 1) := by decide +kernel
theorem dX6_noteStrength_21 : decode cX6_noteStrength 21 = .ok (.getfield 21, 3) := by decide +kernel
theorem dX6_noteStrength_24 : decode cX6_noteStrength 24 = .ok (.iload_n 2, 1) := by decide +kernel
theorem dX6_noteStrength_25 : decode cX6_noteStrength 25 = .ok (.aload_n 0, 1) := by decide +kernel
theorem dX6_noteStrength_26 : decode cX6_noteStrength 26 = .ok (.getfield 17, 3) := by decide +kernel
theorem dX6_noteStrength_29 : decode cX6_noteStrength 29 = .ok (.iload_n 2, 1) := by decide +kernel
theorem dX6_noteStrength_30 : decode cX6_noteStrength 30 = .ok (.iaload, 1) := by decide +kernel
theorem dX6_noteStrength_31 : decode cX6_noteStrength 31 = .ok (.iastore, 1) := by decide +kernel
theorem dX6_noteStrength_32 : decode cX6_noteStrength 32 = .ok (.iinc 2 1, 3) := by decide +kernel
theorem dX6_noteStrength_35 : decode cX6_noteStrength 35 = .ok (.goto (-20), 3) := by decide +kernel
theorem dX6_noteStrength_38 : decode cX6_noteStrength 38 = .ok (.return_, 1) := by decide +kernel
def P_X6_noteStrength_15 (p0 : Nat) : Nat → Int32 → PM Unit
  | 0, _ => failM
  | n + 1, q2 =>
    ifB (decide (3 ≤ q2)) (
    pureM ()) (
    getR 6 2 p0 fun v2 =>
    getR 6 1 p0 fun v3 =>
    ald v3 q2 fun v4 =>
    ast v2 q2 v4 <|
    P_X6_noteStrength_15 p0 n (q2 + 1))
def P_X6_noteStrength (a0 : Nat) (x1 : Int32) : PM Unit :=
getI 6 6 a0 fun v1 =>
ifB (decide (x1 ≤ v1)) (
pureM ()) (
setI 6 6 a0 x1 <|
P_X6_noteStrength_15 a0 4000 0)
set_option maxHeartbeats 4000000 in
set_option maxRecDepth 100000 in
theorem W_X6_noteStrength_15 {Γ : Cx} (ok : OKc Γ cX6_noteStrength RX6 0 "noteStrength") (okr : OKr Γ cX6_noteStrength (none)) (p0 : Nat) : ∀ (n : Nat) (q2 : Int32), SW Γ iU 15 [some (.ref p0), none, some (.int q2)] [] (P_X6_noteStrength_15 p0 n q2) := by
  intro n
  induction n with
  | zero =>
    intros
    exact sw_fail
  | succ n ih =>
    intro q2
    unfold P_X6_noteStrength_15
    refine sw_iload_n (z := q2) (pc' := 16) ok dX6_noteStrength_15 rfl rfl ?_
    refine sw_iconst (v := 3) (pc' := 17) ok dX6_noteStrength_16 rfl cc_iconst_3 ?_
    refine sw_icmp_ge (tgt := 38) (pc' := 20) ok dX6_noteStrength_17 (by decide) rfl ?_ ?_
    · exact sw_ret ok okr dX6_noteStrength_38 trivial rfl
    refine sw_aload_n (z := p0) (pc' := 21) ok dX6_noteStrength_20 rfl rfl ?_
    refine sw_getR (pc' := 24) ok (fr_X6_21.g) dX6_noteStrength_21 rfl (fun v2 => ?_)
    refine sw_iload_n (z := q2) (pc' := 25) ok dX6_noteStrength_24 rfl rfl ?_
    refine sw_aload_n (z := p0) (pc' := 26) ok dX6_noteStrength_25 rfl rfl ?_
    refine sw_getR (pc' := 29) ok (fr_X6_17.g) dX6_noteStrength_26 rfl (fun v3 => ?_)
    refine sw_iload_n (z := q2) (pc' := 30) ok dX6_noteStrength_29 rfl rfl ?_
    refine sw_ald (pc' := 31) ok dX6_noteStrength_30 rfl (fun v4 => ?_)
    refine sw_ast (pc' := 32) ok dX6_noteStrength_31 rfl ?_
    refine sw_iinc (z := q2) (v := q2 + 1) (pc' := 35) (l' := [some (.ref p0), none, some (.int (q2 + 1))]) ok dX6_noteStrength_32 rfl rfl (by rw [cc_iconst_1]) rfl ?_
    refine sw_goto (tgt := 15) ok dX6_noteStrength_35 (by decide) ?_
    exact ih (q2 + 1)
set_option maxHeartbeats 4000000 in
set_option maxRecDepth 100000 in
theorem W_X6_noteStrength {Γ : Cx} (ok : OKc Γ cX6_noteStrength RX6 0 "noteStrength") (okr : OKr Γ cX6_noteStrength (none)) (a0 : Nat) (x1 : Int32) : SW Γ iU 0 [some (.ref a0), some (.int x1), none] [] (P_X6_noteStrength a0 x1) := by
  unfold P_X6_noteStrength
  refine sw_iload_n (z := x1) (pc' := 1) ok dX6_noteStrength_0 rfl rfl ?_
  refine sw_aload_n (z := a0) (pc' := 2) ok dX6_noteStrength_1 rfl rfl ?_
  refine sw_getI (pc' := 5) ok (fr_X6_35.g) dX6_noteStrength_2 rfl (fun v1 => ?_)
  refine sw_icmp_le (tgt := 38) (pc' := 8) ok dX6_noteStrength_5 (by decide) rfl ?_ ?_
  · exact sw_ret ok okr dX6_noteStrength_38 trivial rfl
  refine sw_aload_n (z := a0) (pc' := 9) ok dX6_noteStrength_8 rfl rfl ?_
  refine sw_iload_n (z := x1) (pc' := 10) ok dX6_noteStrength_9 rfl rfl ?_
  refine sw_setI (pc' := 13) ok fr_X6_35 dX6_noteStrength_10 (fun h => by cases h) rfl ?_
  refine sw_iconst (v := 0) (pc' := 14) ok dX6_noteStrength_13 rfl cc_iconst_0 ?_
  refine sw_istore_n (pc' := 15) (l' := [some (.ref a0), some (.int x1), some (.int 0)]) ok dX6_noteStrength_14 rfl (Nat.le_of_ble_eq_true rfl) rfl ?_
  refine sw_fg (l' := [some (.ref a0), none, some (.int 0)]) [true, false, true] rfl ?_
  exact W_X6_noteStrength_15 ok okr a0 4000 0
theorem S_X6_noteStrength (a0 : Nat) (x1 : Int32) : Sim 0 yX6_noteStrength cX6_noteStrength 3 (none) iU [.ref a0, .int x1] (P_X6_noteStrength a0 x1) := Sim.intro wd_982 (by decide) (by decide +kernel) (Nat.le_of_ble_eq_true rfl) (fun Γ ok okr => W_X6_noteStrength ok okr a0 x1)
theorem dX6_seekStrongest_0 : decode cX6_seekStrongest 0 = .ok (.iload_n 2, 1) := by decide +kernel
theorem dX6_seekStrongest_1 : decode cX6_seekStrongest 1 = .ok (.ifCond .lt 16, 3) := by decide +kernel
theorem dX6_seekStrongest_4 : decode cX6_seekStrongest 4 = .ok (.iload_n 2, 1) := by decide +kernel
theorem dX6_seekStrongest_5 : decode cX6_seekStrongest 5 = .ok (.aload_n 0, 1) := by decide +kernel
theorem dX6_seekStrongest_6 : decode cX6_seekStrongest 6 = .ok (.getfield 27, 3) := by decide +kernel
theorem dX6_seekStrongest_9 : decode cX6_seekStrongest 9 = .ok (.if_icmp .ge 8, 3) := by decide +kernel
theorem dX6_seekStrongest_12 : decode cX6_seekStrongest 12 = .ok (.iload_n 2, 1) := by decide +kernel
theorem dX6_seekStrongest_13 : decode cX6_seekStrongest 13 = .ok (.iconst 3, 1) := by decide +kernel
theorem dX6_seekStrongest_14 : decode cX6_seekStrongest 14 = .ok (.if_icmp .lt 4, 3) := by decide +kernel
theorem dX6_seekStrongest_17 : decode cX6_seekStrongest 17 = .ok (.return_, 1) := by decide +kernel
theorem dX6_seekStrongest_18 : decode cX6_seekStrongest 18 = .ok (.iconst 0, 1) := by decide +kernel
theorem dX6_seekStrongest_19 : decode cX6_seekStrongest 19 = .ok (.istore_n 3, 1) := by decide +kernel
theorem dX6_seekStrongest_20 : decode cX6_seekStrongest 20 = .ok (.iload_n 3, 1) := by decide +kernel
theorem dX6_seekStrongest_21 : decode cX6_seekStrongest 21 = .ok (.aload_n 1, 1) := by decide +kernel
theorem dX6_seekStrongest_22 : decode cX6_seekStrongest 22 = .ok (.getfield 78, 3) := by decide +kernel
theorem dX6_seekStrongest_25 : decode cX6_seekStrongest 25 = .ok (.if_icmp .ge 92, 3) := by decide +kernel
theorem dX6_seekStrongest_28 : decode cX6_seekStrongest 28 = .ok (.iload_n 3, 1) := by decide +kernel
theorem dX6_seekStrongest_29 : decode cX6_seekStrongest 29 = .ok (.iconst 1, 1) := by decide +kernel
theorem dX6_seekStrongest_30 : decode cX6_seekStrongest 30 = .ok (.iadd, 1) := by decide +kernel
theorem dX6_seekStrongest_31 : decode cX6_seekStrongest 31 = .ok (.istore 4, 2) := by decide +kernel
theorem dX6_seekStrongest_33 : decode cX6_seekStrongest 33 = .ok (.iload 4, 2) := by decide +kernel
theorem dX6_seekStrongest_35 : decode cX6_seekStrongest 35 = .ok (.aload_n 1, 1) := by decide +kernel
theorem dX6_seekStrongest_36 : decode cX6_seekStrongest 36 = .ok (.getfield 78, 3) := by decide +kernel
theorem dX6_seekStrongest_39 : decode cX6_seekStrongest 39 = .ok (.if_icmp .ge 72, 3) := by decide +kernel
theorem dX6_seekStrongest_42 : decode cX6_seekStrongest 42 = .ok (.aload_n 0, 1) := by decide +kernel
theorem dX6_seekStrongest_43 : decode cX6_seekStrongest 43 = .ok (.getfield 17, 3) := by decide +kernel
theorem dX6_seekStrongest_46 : decode cX6_seekStrongest 46 = .ok (.iload_n 2, 1) := by decide +kernel
theorem dX6_seekStrongest_47 : decode cX6_seekStrongest 47 = .ok (.bipush 10, 2) := by decide +kernel
theorem dX6_seekStrongest_49 : decode cX6_seekStrongest 49 = .ok (.iload_n 3, 1) := by decide +kernel
theorem dX6_seekStrongest_50 : decode cX6_seekStrongest 50 = .ok (.imul, 1) := by decide +kernel
theorem dX6_seekStrongest_51 : decode cX6_seekStrongest 51 = .ok (.iload 4, 2) := by decide +kernel
theorem dX6_seekStrongest_53 : decode cX6_seekStrongest 53 = .ok (.iadd, 1) := by decide +kernel
theorem dX6_seekStrongest_54 : decode cX6_seekStrongest 54 = .ok (.iastore, 1) := by decide +kernel
theorem dX6_seekStrongest_55 : decode cX6_seekStrongest 55 = .ok (.iload_n 2, 1) := by decide +kernel
theorem dX6_seekStrongest_56 : decode cX6_seekStrongest 56 = .ok (.iconst 1, 1) := by decide +kernel
theorem dX6_seekStrongest_57 : decode cX6_seekStrongest 57 = .ok (.iadd, 1) := by decide +kernel
theorem dX6_seekStrongest_58 : decode cX6_seekStrongest 58 = .ok (.aload_n 0, 1) := by decide +kernel
theorem dX6_seekStrongest_59 : decode cX6_seekStrongest 59 = .ok (.getfield 27, 3) := by decide +kernel
theorem dX6_seekStrongest_62 : decode cX6_seekStrongest 62 = .ok (.if_icmp .ge 26, 3) := by decide +kernel
theorem dX6_seekStrongest_65 : decode cX6_seekStrongest 65 = .ok (.aload_n 0, 1) := by decide +kernel
theorem dX6_seekStrongest_66 : decode cX6_seekStrongest 66 = .ok (.iload_n 2, 1) := by decide +kernel
theorem dX6_seekStrongest_67 : decode cX6_seekStrongest 67 = .ok (.invokevirtual 83, 3) := by decide +kernel
theorem dX6_seekStrongest_70 : decode cX6_seekStrongest 70 = .ok (.aload_n 1, 1) := by decide +kernel
theorem dX6_seekStrongest_71 : decode cX6_seekStrongest 71 = .ok (.iload_n 3, 1) := by decide +kernel
theorem dX6_seekStrongest_72 : decode cX6_seekStrongest 72 = .ok (.iload 4, 2) := by decide +kernel
theorem dX6_seekStrongest_74 : decode cX6_seekStrongest 74 = .ok (.invokevirtual 87, 3) := by decide +kernel
theorem dX6_seekStrongest_77 : decode cX6_seekStrongest 77 = .ok (.aload_n 0, 1) := by decide +kernel
theorem dX6_seekStrongest_78 : decode cX6_seekStrongest 78 = .ok (.aload_n 1, 1) := by decide +kernel
theorem dX6_seekStrongest_79 : decode cX6_seekStrongest 79 = .ok (.iload_n 2, 1) := by decide +kernel
theorem dX6_seekStrongest_80 : decode cX6_seekStrongest 80 = .ok (.iconst 1, 1) := by decide +kernel
theorem dX6_seekStrongest_81 : decode cX6_seekStrongest 81 = .ok (.iadd, 1) := by decide +kernel
theorem dX6_seekStrongest_82 : decode cX6_seekStrongest 82 = .ok (.invokestatic 74, 3) := by decide +kernel
theorem dX6_seekStrongest_85 : decode cX6_seekStrongest 85 = .ok (.goto 20, 3) := by decide +kernel
theorem dX6_seekStrongest_88 : decode cX6_seekStrongest 88 = .ok (.aload_n 0, 1) := by decide +kernel
theorem dX6_seekStrongest_89 : decode cX6_seekStrongest 89 = .ok (.aload_n 0, 1) := by decide +kernel
theorem dX6_seekStrongest_90 : decode cX6_seekStrongest 90 = .ok (.getfield 11, 3) := by decide +kernel
theorem dX6_seekStrongest_93 : decode cX6_seekStrongest 93 = .ok (.iload_n 2, 1) := by decide +kernel
theorem dX6_seekStrongest_94 : decode cX6_seekStrongest 94 = .ok (.aaload, 1) := by decide +kernel
theorem dX6_seekStrongest_95 : decode cX6_seekStrongest 95 = .ok (.aload_n 1, 1) := by decide +kernel
theorem dX6_seekStrongest_96 : decode cX6_seekStrongest 96 = .ok (.iload_n 3, 1) := by decide +kernel
theorem dX6_seekStrongest_97 : decode cX6_seekStrongest 97 = .ok (.iload 4, 2) := by decide +kernel
theorem dX6_seekStrongest_99 : decode cX6_seekStrongest 99 = .ok (.invokevirtual 91, 3) := by decide +kernel
theorem dX6_seekStrongest_102 : decode cX6_seekStrongest 102 = .ok (.invokevirtual 95, 3) := by decide +kernel
theorem dX6_seekStrongest_105 : decode cX6_seekStrongest 105 = .ok (.iinc 4 1, 3) := by decide +kernel
theorem dX6_seekStrongest_108 : decode cX6_seekStrongest 108 = .ok (.goto (-75), 3) := by decide +kernel
theorem dX6_seekStrongest_111 : decode cX6_seekStrongest 111 = .ok (.iinc 3 1, 3) := by decide +kernel
theorem dX6_seekStrongest_114 : decode cX6_seekStrongest 114 = .ok (.goto (-94), 3) := by decide +kernel
theorem dX6_seekStrongest_117 : decode cX6_seekStrongest 117 = .ok (.return_, 1) := by decide +kernel
def P_X6_seekStrongest_33 (REC : Nat → Nat → Int32 → PM Unit) (k_111 : PM Unit) (p0 : Nat) (p1 : Nat) (p2 : Int32) (p3 : Int32) : Nat → Int32 → PM Unit
  | 0, _ => failM
  | n + 1, q4 =>
    getI 0 4 p1 fun v4 =>
    ifB (decide (v4 ≤ q4)) (
    k_111) (
    getR 6 1 p0 fun v5 =>
    ast v5 p2 ((10 * p3) + q4) <|
    getI 6 4 p0 fun v6 =>
    jn (
    P_X6_seekStrongest_33 REC k_111 p0 p1 p2 p3 n (q4 + 1)) fun k7 =>
    ifB (decide (v6 ≤ (p2 + 1))) (
    getR 6 0 p0 fun v8 =>
    aldR v8 p2 fun v9 =>
    cllV 1 v9 (P_X1_behind v9 p1 p3 q4) fun v10 =>
    cllV 6 p0 (P_X6_noteStrength p0 v10) fun _ =>
    k7) (
    cllV 6 p0 (P_X6_copyDeeper p0 p2) fun v11 =>
    cllV 1 v11 (P_X1_passWatch v11 p1 p3 q4) fun _ =>
    cll0 (REC p0 p1 (p2 + 1)) fun _ =>
    k7))
def P_X6_seekStrongest_20 (REC : Nat → Nat → Int32 → PM Unit) (p0 : Nat) (p1 : Nat) (p2 : Int32) : Nat → Int32 → PM Unit
  | 0, _ => failM
  | n + 1, q3 =>
    getI 0 4 p1 fun v2 =>
    ifB (decide (v2 ≤ q3)) (
    pureM ()) (
    jn (
    P_X6_seekStrongest_20 REC p0 p1 p2 n (q3 + 1)) fun k3 =>
    P_X6_seekStrongest_33 REC k3 p0 p1 p2 q3 4000 (q3 + 1))
def P_X6_seekStrongest : Nat → Nat → Nat → Int32 → PM Unit
  | 0, _, _, _ => failM
  | n + 1, a0, a1, x2 =>
    ifB (decide (x2 < 0)) (
    pureM ()) (
    getI 6 4 a0 fun v1 =>
    ifB (decide (v1 ≤ x2)) (
    pureM ()) (
    ifB (decide (x2 < 3)) (
    P_X6_seekStrongest_20 (P_X6_seekStrongest n) a0 a1 x2 4000 0) (
    pureM ())))
set_option maxHeartbeats 4000000 in
set_option maxRecDepth 100000 in
theorem W_X6_seekStrongest_33 {Γ : Cx} {d0 : Nat} (ok : OKc Γ cX6_seekStrongest RX6 (d0 + 1 + 4) "seekStrongest") (okr : OKr Γ cX6_seekStrongest (none)) (REC : Nat → Nat → Int32 → PM Unit) (hREC : ∀ (a0 : Nat) (a1 : Nat) (x2 : Int32), Sim (d0 + 4) yX6_seekStrongest cX6_seekStrongest 5 (none) iU [.ref a0, .ref a1, .int x2] (REC a0 a1 x2)) (k_111 : PM Unit) (p0 : Nat) (p1 : Nat) (p2 : Int32) (p3 : Int32) (hk_111 : SW Γ iU 111 [some (.ref p0), some (.ref p1), some (.int p2), some (.int p3), none] [] (k_111)) : ∀ (n : Nat) (q4 : Int32), SW Γ iU 33 [some (.ref p0), some (.ref p1), some (.int p2), some (.int p3), some (.int q4)] [] (P_X6_seekStrongest_33 REC k_111 p0 p1 p2 p3 n q4) := by
  intro n
  induction n with
  | zero =>
    intros
    exact sw_fail
  | succ n ih =>
    intro q4
    unfold P_X6_seekStrongest_33
    refine sw_iload (z := q4) (pc' := 35) ok dX6_seekStrongest_33 rfl rfl ?_
    refine sw_aload_n (z := p1) (pc' := 36) ok dX6_seekStrongest_35 rfl rfl ?_
    refine sw_getI (pc' := 39) ok (fr_X6_78.g) dX6_seekStrongest_36 rfl (fun v4 => ?_)
    refine sw_icmp_ge (tgt := 111) (pc' := 42) ok dX6_seekStrongest_39 (by decide) rfl ?_ ?_
    · refine sw_fg (l' := [some (.ref p0), some (.ref p1), some (.int p2), some (.int p3), none]) [true, true, true, true, false] rfl ?_
      exact hk_111
    refine sw_aload_n (z := p0) (pc' := 43) ok dX6_seekStrongest_42 rfl rfl ?_
    refine sw_getR (pc' := 46) ok (fr_X6_17.g) dX6_seekStrongest_43 rfl (fun v5 => ?_)
    refine sw_iload_n (z := p2) (pc' := 47) ok dX6_seekStrongest_46 rfl rfl ?_
    refine sw_bipush (v := 10) (pc' := 49) ok dX6_seekStrongest_47 rfl cc_bipush_10 ?_
    refine sw_iload_n (z := p3) (pc' := 50) ok dX6_seekStrongest_49 rfl rfl ?_
    refine sw_imul (pc' := 51) ok dX6_seekStrongest_50 rfl ?_
    refine sw_iload (z := q4) (pc' := 53) ok dX6_seekStrongest_51 rfl rfl ?_
    refine sw_iadd (pc' := 54) ok dX6_seekStrongest_53 rfl ?_
    refine sw_ast (pc' := 55) ok dX6_seekStrongest_54 rfl ?_
    refine sw_iload_n (z := p2) (pc' := 56) ok dX6_seekStrongest_55 rfl rfl ?_
    refine sw_iconst (v := 1) (pc' := 57) ok dX6_seekStrongest_56 rfl cc_iconst_1 ?_
    refine sw_iadd (pc' := 58) ok dX6_seekStrongest_57 rfl ?_
    refine sw_aload_n (z := p0) (pc' := 59) ok dX6_seekStrongest_58 rfl rfl ?_
    refine sw_getI (pc' := 62) ok (fr_X6_27.g) dX6_seekStrongest_59 rfl (fun v6 => ?_)
    refine sw_jn (fun k7 : PM Unit => SW Γ iU 105 [some (.ref p0), some (.ref p1), some (.int p2), some (.int p3), some (.int q4)] [] (k7)) ?_ (fun k7 hk7 => ?_)
    · refine sw_iinc (z := q4) (v := q4 + 1) (pc' := 108) (l' := [some (.ref p0), some (.ref p1), some (.int p2), some (.int p3), some (.int (q4 + 1))]) ok dX6_seekStrongest_105 rfl rfl (by rw [cc_iconst_1]) rfl ?_
      refine sw_goto (tgt := 33) ok dX6_seekStrongest_108 (by decide) ?_
      exact ih (q4 + 1)
    refine sw_icmp_ge (tgt := 88) (pc' := 65) ok dX6_seekStrongest_62 (by decide) rfl ?_ ?_
    · refine sw_aload_n (z := p0) (pc' := 89) ok dX6_seekStrongest_88 rfl rfl ?_
      refine sw_aload_n (z := p0) (pc' := 90) ok dX6_seekStrongest_89 rfl rfl ?_
      refine sw_getR (pc' := 93) ok (fr_X6_11.g) dX6_seekStrongest_90 rfl (fun v8 => ?_)
      refine sw_iload_n (z := p2) (pc' := 94) ok dX6_seekStrongest_93 rfl rfl ?_
      refine sw_aldR (pc' := 95) ok dX6_seekStrongest_94 rfl (fun v9 => ?_)
      refine sw_aload_n (z := p1) (pc' := 96) ok dX6_seekStrongest_95 rfl rfl ?_
      refine sw_iload_n (z := p3) (pc' := 97) ok dX6_seekStrongest_96 rfl rfl ?_
      refine sw_iload (z := q4) (pc' := 99) ok dX6_seekStrongest_97 rfl rfl ?_
      refine sw_cllV_I (st := [.ref p0]) (as := [.ref p1, .int p3, .int q4]) (pc' := 102) ok (S_X1_behind v9 p1 p3 q4) (by omega) lk_X6_91 rfl dX6_seekStrongest_99 rfl (Nat.le_of_ble_eq_true rfl) rfl (fun v10 => ?_)
      refine sw_cllV_U (st := []) (as := [.int v10]) (pc' := 105) ok (S_X6_noteStrength p0 v10) (by omega) lk_X6_95 rfl dX6_seekStrongest_102 rfl (Nat.le_of_ble_eq_true rfl) rfl (fun _ => ?_)
      exact hk7
    refine sw_aload_n (z := p0) (pc' := 66) ok dX6_seekStrongest_65 rfl rfl ?_
    refine sw_iload_n (z := p2) (pc' := 67) ok dX6_seekStrongest_66 rfl rfl ?_
    refine sw_cllV_R (st := []) (as := [.int p2]) (pc' := 70) ok (S_X6_copyDeeper p0 p2) (by omega) lk_X6_83 rfl dX6_seekStrongest_67 rfl (Nat.le_of_ble_eq_true rfl) rfl (fun v11 => ?_)
    refine sw_aload_n (z := p1) (pc' := 71) ok dX6_seekStrongest_70 rfl rfl ?_
    refine sw_iload_n (z := p3) (pc' := 72) ok dX6_seekStrongest_71 rfl rfl ?_
    refine sw_iload (z := q4) (pc' := 74) ok dX6_seekStrongest_72 rfl rfl ?_
    refine sw_cllV_U (st := []) (as := [.ref p1, .int p3, .int q4]) (pc' := 77) ok (S_X1_passWatch v11 p1 p3 q4) (by omega) lk_X6_87 rfl dX6_seekStrongest_74 rfl (Nat.le_of_ble_eq_true rfl) rfl (fun _ => ?_)
    refine sw_aload_n (z := p0) (pc' := 78) ok dX6_seekStrongest_77 rfl rfl ?_
    refine sw_aload_n (z := p1) (pc' := 79) ok dX6_seekStrongest_78 rfl rfl ?_
    refine sw_iload_n (z := p2) (pc' := 80) ok dX6_seekStrongest_79 rfl rfl ?_
    refine sw_iconst (v := 1) (pc' := 81) ok dX6_seekStrongest_80 rfl cc_iconst_1 ?_
    refine sw_iadd (pc' := 82) ok dX6_seekStrongest_81 rfl ?_
    refine sw_cll0_U (st := []) (as := [.ref p0, .ref p1, .int (p2 + 1)]) (pc' := 85) ok (hREC p0 p1 (p2 + 1)) (by omega) lk_X6_74 rfl dX6_seekStrongest_82 rfl (Nat.le_of_ble_eq_true rfl) rfl (fun _ => ?_)
    refine sw_goto (tgt := 105) ok dX6_seekStrongest_85 (by decide) ?_
    exact hk7
set_option maxHeartbeats 4000000 in
set_option maxRecDepth 100000 in
theorem W_X6_seekStrongest_20 {Γ : Cx} {d0 : Nat} (ok : OKc Γ cX6_seekStrongest RX6 (d0 + 1 + 4) "seekStrongest") (okr : OKr Γ cX6_seekStrongest (none)) (REC : Nat → Nat → Int32 → PM Unit) (hREC : ∀ (a0 : Nat) (a1 : Nat) (x2 : Int32), Sim (d0 + 4) yX6_seekStrongest cX6_seekStrongest 5 (none) iU [.ref a0, .ref a1, .int x2] (REC a0 a1 x2)) (p0 : Nat) (p1 : Nat) (p2 : Int32) : ∀ (n : Nat) (q3 : Int32), SW Γ iU 20 [some (.ref p0), some (.ref p1), some (.int p2), some (.int q3), none] [] (P_X6_seekStrongest_20 REC p0 p1 p2 n q3) := by
  intro n
  induction n with
  | zero =>
    intros
    exact sw_fail
  | succ n ih =>
    intro q3
    unfold P_X6_seekStrongest_20
    refine sw_iload_n (z := q3) (pc' := 21) ok dX6_seekStrongest_20 rfl rfl ?_
    refine sw_aload_n (z := p1) (pc' := 22) ok dX6_seekStrongest_21 rfl rfl ?_
    refine sw_getI (pc' := 25) ok (fr_X6_78.g) dX6_seekStrongest_22 rfl (fun v2 => ?_)
    refine sw_icmp_ge (tgt := 117) (pc' := 28) ok dX6_seekStrongest_25 (by decide) rfl ?_ ?_
    · exact sw_ret ok okr dX6_seekStrongest_117 trivial rfl
    refine sw_iload_n (z := q3) (pc' := 29) ok dX6_seekStrongest_28 rfl rfl ?_
    refine sw_iconst (v := 1) (pc' := 30) ok dX6_seekStrongest_29 rfl cc_iconst_1 ?_
    refine sw_iadd (pc' := 31) ok dX6_seekStrongest_30 rfl ?_
    refine sw_istore (pc' := 33) (l' := [some (.ref p0), some (.ref p1), some (.int p2), some (.int q3), some (.int (q3 + 1))]) ok dX6_seekStrongest_31 rfl (Nat.le_of_ble_eq_true rfl) rfl ?_
    refine sw_jn (fun k3 : PM Unit => SW Γ iU 111 [some (.ref p0), some (.ref p1), some (.int p2), some (.int q3), none] [] (k3)) ?_ (fun k3 hk3 => ?_)
    · refine sw_iinc (z := q3) (v := q3 + 1) (pc' := 114) (l' := [some (.ref p0), some (.ref p1), some (.int p2), some (.int (q3 + 1)), none]) ok dX6_seekStrongest_111 rfl rfl (by rw [cc_iconst_1]) rfl ?_
      refine sw_goto (tgt := 20) ok dX6_seekStrongest_114 (by decide) ?_
      exact ih (q3 + 1)
    exact W_X6_seekStrongest_33 ok okr REC hREC k3 p0 p1 p2 q3 hk3 4000 (q3 + 1)
set_option maxHeartbeats 4000000 in
set_option maxRecDepth 100000 in
theorem W_X6_seekStrongest {Γ : Cx} {d0 : Nat} (ok : OKc Γ cX6_seekStrongest RX6 (d0 + 1 + 4) "seekStrongest") (okr : OKr Γ cX6_seekStrongest (none)) (n : Nat) (hREC : ∀ (a0 : Nat) (a1 : Nat) (x2 : Int32), Sim (d0 + 4) yX6_seekStrongest cX6_seekStrongest 5 (none) iU [.ref a0, .ref a1, .int x2] (P_X6_seekStrongest n a0 a1 x2)) (a0 : Nat) (a1 : Nat) (x2 : Int32) : SW Γ iU 0 [some (.ref a0), some (.ref a1), some (.int x2), none, none] [] (P_X6_seekStrongest (n + 1) a0 a1 x2) := by
  unfold P_X6_seekStrongest
  refine sw_iload_n (z := x2) (pc' := 1) ok dX6_seekStrongest_0 rfl rfl ?_
  refine sw_if_lt (tgt := 17) (pc' := 4) ok dX6_seekStrongest_1 (by decide) rfl ?_ ?_
  · exact sw_ret ok okr dX6_seekStrongest_17 trivial rfl
  refine sw_iload_n (z := x2) (pc' := 5) ok dX6_seekStrongest_4 rfl rfl ?_
  refine sw_aload_n (z := a0) (pc' := 6) ok dX6_seekStrongest_5 rfl rfl ?_
  refine sw_getI (pc' := 9) ok (fr_X6_27.g) dX6_seekStrongest_6 rfl (fun v1 => ?_)
  refine sw_icmp_ge (tgt := 17) (pc' := 12) ok dX6_seekStrongest_9 (by decide) rfl ?_ ?_
  · exact sw_ret ok okr dX6_seekStrongest_17 trivial rfl
  refine sw_iload_n (z := x2) (pc' := 13) ok dX6_seekStrongest_12 rfl rfl ?_
  refine sw_iconst (v := 3) (pc' := 14) ok dX6_seekStrongest_13 rfl cc_iconst_3 ?_
  refine sw_icmp_lt (tgt := 18) (pc' := 17) ok dX6_seekStrongest_14 (by decide) rfl ?_ ?_
  · refine sw_iconst (v := 0) (pc' := 19) ok dX6_seekStrongest_18 rfl cc_iconst_0 ?_
    refine sw_istore_n (pc' := 20) (l' := [some (.ref a0), some (.ref a1), some (.int x2), some (.int 0), none]) ok dX6_seekStrongest_19 rfl (Nat.le_of_ble_eq_true rfl) rfl ?_
    exact W_X6_seekStrongest_20 ok okr (P_X6_seekStrongest n) hREC a0 a1 x2 4000 0
  exact sw_ret ok okr dX6_seekStrongest_17 trivial rfl
theorem S_X6_seekStrongest : ∀ (n : Nat) (a0 : Nat) (a1 : Nat) (x2 : Int32), Sim (n + 4) yX6_seekStrongest cX6_seekStrongest 5 (none) iU [.ref a0, .ref a1, .int x2] (P_X6_seekStrongest n a0 a1 x2) := by
  intro n
  induction n with
  | zero =>
    intros
    exact ⟨wd_983, by decide, fun _ _ _ _ _ h => by cases h⟩
  | succ n ih =>
    intro a0 a1 x2
    have hd : n + 1 + 4 = n + 1 + 4 := rfl
    exact Sim.intro wd_983 (by decide) (by decide +kernel) (Nat.le_of_ble_eq_true rfl) (fun Γ ok okr => W_X6_seekStrongest (d0 := n) ok okr n ih a0 a1 x2)
theorem dX6_strongest_0 : decode cX6_strongest 0 = .ok (.aload_n 0, 1) := by decide +kernel
theorem dX6_strongest_1 : decode cX6_strongest 1 = .ok (.aload_n 2, 1) := by decide +kernel
theorem dX6_strongest_2 : decode cX6_strongest 2 = .ok (.invokevirtual 58, 3) := by decide +kernel
theorem dX6_strongest_5 : decode cX6_strongest 5 = .ok (.pop, 1) := by decide +kernel
theorem dX6_strongest_6 : decode cX6_strongest 6 = .ok (.aload_n 0, 1) := by decide +kernel
theorem dX6_strongest_7 : decode cX6_strongest 7 = .ok (.iconst 0, 1) := by decide +kernel
theorem dX6_strongest_8 : decode cX6_strongest 8 = .ok (.iload_n 3, 1) := by decide +kernel
theorem dX6_strongest_9 : decode cX6_strongest 9 = .ok (.iconst 3, 1) := by decide +kernel
theorem dX6_strongest_10 : decode cX6_strongest 10 = .ok (.invokestatic 62, 3) := by decide +kernel
theorem dX6_strongest_13 : decode cX6_strongest 13 = .ok (.invokestatic 68, 3) := by decide +kernel
theorem dX6_strongest_16 : decode cX6_strongest 16 = .ok (.putfield 27, 3) := by decide +kernel
theorem dX6_strongest_19 : decode cX6_strongest 19 = .ok (.aload_n 0, 1) := by decide +kernel
theorem dX6_strongest_20 : decode cX6_strongest 20 = .ok (.getfield 27, 3) := by decide +kernel
theorem dX6_strongest_23 : decode cX6_strongest 23 = .ok (.ifCond .ne 8, 3) := by decide +kernel
theorem dX6_strongest_26 : decode cX6_strongest 26 = .ok (.aload_n 2, 1) := by decide +kernel
theorem dX6_strongest_27 : decode cX6_strongest 27 = .ok (.getfield 71, 3) := by decide +kernel
theorem dX6_strongest_30 : decode cX6_strongest 30 = .ok (.ireturn, 1) := by decide +kernel
theorem dX6_strongest_31 : decode cX6_strongest 31 = .ok (.aload_n 0, 1) := by decide +kernel
theorem dX6_strongest_32 : decode cX6_strongest 32 = .ok (.iconst (-1), 1) := by decide +kernel
theorem dX6_strongest_33 : decode cX6_strongest 33 = .ok (.putfield 35, 3) := by decide +kernel
theorem dX6_strongest_36 : decode cX6_strongest 36 = .ok (.aload_n 0, 1) := by decide +kernel
theorem dX6_strongest_37 : decode cX6_strongest 37 = .ok (.aload_n 1, 1) := by decide +kernel
theorem dX6_strongest_38 : decode cX6_strongest 38 = .ok (.iconst 0, 1) := by decide +kernel
theorem dX6_strongest_39 : decode cX6_strongest 39 = .ok (.invokestatic 74, 3) := by decide +kernel
theorem dX6_strongest_42 : decode cX6_strongest 42 = .ok (.aload_n 0, 1) := by decide +kernel
theorem dX6_strongest_43 : decode cX6_strongest 43 = .ok (.getfield 35, 3) := by decide +kernel
theorem dX6_strongest_46 : decode cX6_strongest 46 = .ok (.ireturn, 1) := by decide +kernel
def P_X6_strongest (a0 : Nat) (a1 : Nat) (a2 : Nat) (x3 : Int32) : PM Int32 :=
cllV 6 a0 (P_X6_beginAside a0 a2) fun v1 =>
cll0 (P_J9_min_7cf53 x3 3) fun v2 =>
cll0 (P_J9_max_7cf53 0 v2) fun v3 =>
setI 6 4 a0 v3 <|
getI 6 4 a0 fun v4 =>
ifB (decide (¬ v4 = 0)) (
setI 6 6 a0 ((-1)) <|
cll0 (P_X6_seekStrongest 10 a0 a1 0) fun _ =>
getI 6 6 a0 fun v5 =>
pureM v5) (
getI 1 2 a2 fun v6 =>
pureM v6)
set_option maxHeartbeats 4000000 in
set_option maxRecDepth 100000 in
theorem W_X6_strongest {Γ : Cx} (ok : OKc Γ cX6_strongest RX6 15 "strongest") (okr : OKr Γ cX6_strongest (some .int)) (a0 : Nat) (a1 : Nat) (a2 : Nat) (x3 : Int32) : SW Γ iI 0 [some (.ref a0), some (.ref a1), some (.ref a2), some (.int x3)] [] (P_X6_strongest a0 a1 a2 x3) := by
  unfold P_X6_strongest
  refine sw_aload_n (z := a0) (pc' := 1) ok dX6_strongest_0 rfl rfl ?_
  refine sw_aload_n (z := a2) (pc' := 2) ok dX6_strongest_1 rfl rfl ?_
  refine sw_cllV_R (st := []) (as := [.ref a2]) (pc' := 5) ok (S_X6_beginAside a0 a2) (by decide) lk_X6_58 rfl dX6_strongest_2 rfl (Nat.le_of_ble_eq_true rfl) rfl (fun v1 => ?_)
  refine sw_pop (pc' := 6) ok dX6_strongest_5 rfl rfl ?_
  refine sw_aload_n (z := a0) (pc' := 7) ok dX6_strongest_6 rfl rfl ?_
  refine sw_iconst (v := 0) (pc' := 8) ok dX6_strongest_7 rfl cc_iconst_0 ?_
  refine sw_iload_n (z := x3) (pc' := 9) ok dX6_strongest_8 rfl rfl ?_
  refine sw_iconst (v := 3) (pc' := 10) ok dX6_strongest_9 rfl cc_iconst_3 ?_
  refine sw_cll0_I (st := [.int 0, .ref a0]) (as := [.int x3, .int 3]) (pc' := 13) ok (S_J9_min_7cf53 x3 3) (by decide) lk_X6_62 rfl dX6_strongest_10 rfl (Nat.le_of_ble_eq_true rfl) rfl (fun v2 => ?_)
  refine sw_cll0_I (st := [.ref a0]) (as := [.int 0, .int v2]) (pc' := 16) ok (S_J9_max_7cf53 0 v2) (by decide) lk_X6_68 rfl dX6_strongest_13 rfl (Nat.le_of_ble_eq_true rfl) rfl (fun v3 => ?_)
  refine sw_setI (pc' := 19) ok fr_X6_27 dX6_strongest_16 (fun h => by cases h) rfl ?_
  refine sw_aload_n (z := a0) (pc' := 20) ok dX6_strongest_19 rfl rfl ?_
  refine sw_getI (pc' := 23) ok (fr_X6_27.g) dX6_strongest_20 rfl (fun v4 => ?_)
  refine sw_if_ne (tgt := 31) (pc' := 26) ok dX6_strongest_23 (by decide) rfl ?_ ?_
  · refine sw_aload_n (z := a0) (pc' := 32) ok dX6_strongest_31 rfl rfl ?_
    refine sw_iconst (v := (-1)) (pc' := 33) ok dX6_strongest_32 rfl cc_iconst_m1 ?_
    refine sw_setI (pc' := 36) ok fr_X6_35 dX6_strongest_33 (fun h => by cases h) rfl ?_
    refine sw_aload_n (z := a0) (pc' := 37) ok dX6_strongest_36 rfl rfl ?_
    refine sw_aload_n (z := a1) (pc' := 38) ok dX6_strongest_37 rfl rfl ?_
    refine sw_iconst (v := 0) (pc' := 39) ok dX6_strongest_38 rfl cc_iconst_0 ?_
    refine sw_cll0_U (st := []) (as := [.ref a0, .ref a1, .int 0]) (pc' := 42) ok (S_X6_seekStrongest 10 a0 a1 0) (by decide) lk_X6_74 rfl dX6_strongest_39 rfl (Nat.le_of_ble_eq_true rfl) rfl (fun _ => ?_)
    refine sw_aload_n (z := a0) (pc' := 43) ok dX6_strongest_42 rfl rfl ?_
    refine sw_getI (pc' := 46) ok (fr_X6_35.g) dX6_strongest_43 rfl (fun v5 => ?_)
    exact sw_ret ok okr dX6_strongest_46 trivial rfl
  refine sw_aload_n (z := a2) (pc' := 27) ok dX6_strongest_26 rfl rfl ?_
  refine sw_getI (pc' := 30) ok (fr_X6_71.g) dX6_strongest_27 rfl (fun v6 => ?_)
  exact sw_ret ok okr dX6_strongest_30 trivial rfl
theorem S_X6_strongest (a0 : Nat) (a1 : Nat) (a2 : Nat) (x3 : Int32) : Sim 15 yX6_strongest cX6_strongest 4 (some .int) iI [.ref a0, .ref a1, .ref a2, .int x3] (P_X6_strongest a0 a1 a2 x3) := Sim.intro wd_984 (by decide) (by decide +kernel) (Nat.le_of_ble_eq_true rfl) (fun Γ ok okr => W_X6_strongest ok okr a0 a1 a2 x3)
theorem dJ6_bitCount_0f7a4_0 : decode cJ6_bitCount_0f7a4 0 = .ok (.iload_n 0, 1) := by decide +kernel
theorem dJ6_bitCount_0f7a4_1 : decode cJ6_bitCount_0f7a4 1 = .ok (.iload_n 0, 1) := by decide +kernel
theorem dJ6_bitCount_0f7a4_2 : decode cJ6_bitCount_0f7a4 2 = .ok (.iconst 1, 1) := by decide +kernel
theorem dJ6_bitCount_0f7a4_3 : decode cJ6_bitCount_0f7a4 3 = .ok (.iushr, 1) := by decide +kernel
theorem dJ6_bitCount_0f7a4_4 : decode cJ6_bitCount_0f7a4 4 = .ok (.ldc_w 265, 3) := by decide +kernel
theorem dJ6_bitCount_0f7a4_7 : decode cJ6_bitCount_0f7a4 7 = .ok (.iand, 1) := by decide +kernel
theorem dJ6_bitCount_0f7a4_8 : decode cJ6_bitCount_0f7a4 8 = .ok (.isub, 1) := by decide +kernel
theorem dJ6_bitCount_0f7a4_9 : decode cJ6_bitCount_0f7a4 9 = .ok (.istore_n 0, 1) := by decide +kernel
theorem dJ6_bitCount_0f7a4_10 : decode cJ6_bitCount_0f7a4 10 = .ok (.iload_n 0, 1) := by decide +kernel
theorem dJ6_bitCount_0f7a4_11 : decode cJ6_bitCount_0f7a4 11 = .ok (.ldc_w 266, 3) := by decide +kernel
theorem dJ6_bitCount_0f7a4_14 : decode cJ6_bitCount_0f7a4 14 = .ok (.iand, 1) := by decide +kernel
theorem dJ6_bitCount_0f7a4_15 : decode cJ6_bitCount_0f7a4 15 = .ok (.iload_n 0, 1) := by decide +kernel
theorem dJ6_bitCount_0f7a4_16 : decode cJ6_bitCount_0f7a4 16 = .ok (.iconst 2, 1) := by decide +kernel
theorem dJ6_bitCount_0f7a4_17 : decode cJ6_bitCount_0f7a4 17 = .ok (.iushr, 1) := by decide +kernel
theorem dJ6_bitCount_0f7a4_18 : decode cJ6_bitCount_0f7a4 18 = .ok (.ldc_w 266, 3) := by decide +kernel
theorem dJ6_bitCount_0f7a4_21 : decode cJ6_bitCount_0f7a4 21 = .ok (.iand, 1) := by decide +kernel
theorem dJ6_bitCount_0f7a4_22 : decode cJ6_bitCount_0f7a4 22 = .ok (.iadd, 1) := by decide +kernel
theorem dJ6_bitCount_0f7a4_23 : decode cJ6_bitCount_0f7a4 23 = .ok (.istore_n 0, 1) := by decide +kernel
theorem dJ6_bitCount_0f7a4_24 : decode cJ6_bitCount_0f7a4 24 = .ok (.iload_n 0, 1) := by decide +kernel
theorem dJ6_bitCount_0f7a4_25 : decode cJ6_bitCount_0f7a4 25 = .ok (.iload_n 0, 1) := by decide +kernel
theorem dJ6_bitCount_0f7a4_26 : decode cJ6_bitCount_0f7a4 26 = .ok (.iconst 4, 1) := by decide +kernel
theorem dJ6_bitCount_0f7a4_27 : decode cJ6_bitCount_0f7a4 27 = .ok (.iushr, 1) := by decide +kernel
theorem dJ6_bitCount_0f7a4_28 : decode cJ6_bitCount_0f7a4 28 = .ok (.iadd, 1) := by decide +kernel
theorem dJ6_bitCount_0f7a4_29 : decode cJ6_bitCount_0f7a4 29 = .ok (.ldc_w 267, 3) := by decide +kernel
theorem dJ6_bitCount_0f7a4_32 : decode cJ6_bitCount_0f7a4 32 = .ok (.iand, 1) := by decide +kernel
theorem dJ6_bitCount_0f7a4_33 : decode cJ6_bitCount_0f7a4 33 = .ok (.istore_n 0, 1) := by decide +kernel
theorem dJ6_bitCount_0f7a4_34 : decode cJ6_bitCount_0f7a4 34 = .ok (.iload_n 0, 1) := by decide +kernel
theorem dJ6_bitCount_0f7a4_35 : decode cJ6_bitCount_0f7a4 35 = .ok (.iload_n 0, 1) := by decide +kernel
theorem dJ6_bitCount_0f7a4_36 : decode cJ6_bitCount_0f7a4 36 = .ok (.bipush 8, 2) := by decide +kernel
theorem dJ6_bitCount_0f7a4_38 : decode cJ6_bitCount_0f7a4 38 = .ok (.iushr, 1) := by decide +kernel
theorem dJ6_bitCount_0f7a4_39 : decode cJ6_bitCount_0f7a4 39 = .ok (.iadd, 1) := by decide +kernel
theorem dJ6_bitCount_0f7a4_40 : decode cJ6_bitCount_0f7a4 40 = .ok (.istore_n 0, 1) := by decide +kernel
theorem dJ6_bitCount_0f7a4_41 : decode cJ6_bitCount_0f7a4 41 = .ok (.iload_n 0, 1) := by decide +kernel
theorem dJ6_bitCount_0f7a4_42 : decode cJ6_bitCount_0f7a4 42 = .ok (.iload_n 0, 1) := by decide +kernel
theorem dJ6_bitCount_0f7a4_43 : decode cJ6_bitCount_0f7a4 43 = .ok (.bipush 16, 2) := by decide +kernel
theorem dJ6_bitCount_0f7a4_45 : decode cJ6_bitCount_0f7a4 45 = .ok (.iushr, 1) := by decide +kernel
theorem dJ6_bitCount_0f7a4_46 : decode cJ6_bitCount_0f7a4 46 = .ok (.iadd, 1) := by decide +kernel
theorem dJ6_bitCount_0f7a4_47 : decode cJ6_bitCount_0f7a4 47 = .ok (.istore_n 0, 1) := by decide +kernel
theorem dJ6_bitCount_0f7a4_48 : decode cJ6_bitCount_0f7a4 48 = .ok (.iload_n 0, 1) := by decide +kernel
theorem dJ6_bitCount_0f7a4_49 : decode cJ6_bitCount_0f7a4 49 = .ok (.bipush 63, 2) := by decide +kernel
theorem dJ6_bitCount_0f7a4_51 : decode cJ6_bitCount_0f7a4 51 = .ok (.iand, 1) := by decide +kernel
theorem dJ6_bitCount_0f7a4_52 : decode cJ6_bitCount_0f7a4 52 = .ok (.ireturn, 1) := by decide +kernel
def P_J6_bitCount_0f7a4 (x0 : Int32) : PM Int32 :=
pureM ((((((((x0 - (((Int32.toUInt32 x0 >>> (Int32.toUInt32 1 &&& Int32.toUInt32 31)).toInt32) &&& 1431655765)) &&& 858993459) + (((Int32.toUInt32 (x0 - (((Int32.toUInt32 x0 >>> (Int32.toUInt32 1 &&& Int32.toUInt32 31)).toInt32) &&& 1431655765)) >>> (Int32.toUInt32 2 &&& Int32.toUInt32 31)).toInt32) &&& 858993459)) + ((Int32.toUInt32 (((x0 - (((Int32.toUInt32 x0 >>> (Int32.toUInt32 1 &&& Int32.toUInt32 31)).toInt32) &&& 1431655765)) &&& 858993459) + (((Int32.toUInt32 (x0 - (((Int32.toUInt32 x0 >>> (Int32.toUInt32 1 &&& Int32.toUInt32 31)).toInt32) &&& 1431655765)) >>> (Int32.toUInt32 2 &&& Int32.toUInt32 31)).toInt32) &&& 858993459)) >>> (Int32.toUInt32 4 &&& Int32.toUInt32 31)).toInt32)) &&& 252645135) + ((Int32.toUInt32 (((((x0 - (((Int32.toUInt32 x0 >>> (Int32.toUInt32 1 &&& Int32.toUInt32 31)).toInt32) &&& 1431655765)) &&& 858993459) + (((Int32.toUInt32 (x0 - (((Int32.toUInt32 x0 >>> (Int32.toUInt32 1 &&& Int32.toUInt32 31)).toInt32) &&& 1431655765)) >>> (Int32.toUInt32 2 &&& Int32.toUInt32 31)).toInt32) &&& 858993459)) + ((Int32.toUInt32 (((x0 - (((Int32.toUInt32 x0 >>> (Int32.toUInt32 1 &&& Int32.toUInt32 31)).toInt32) &&& 1431655765)) &&& 858993459) + (((Int32.toUInt32 (x0 - (((Int32.toUInt32 x0 >>> (Int32.toUInt32 1 &&& Int32.toUInt32 31)).toInt32) &&& 1431655765)) >>> (Int32.toUInt32 2 &&& Int32.toUInt32 31)).toInt32) &&& 858993459)) >>> (Int32.toUInt32 4 &&& Int32.toUInt32 31)).toInt32)) &&& 252645135) >>> (Int32.toUInt32 8 &&& Int32.toUInt32 31)).toInt32)) + ((Int32.toUInt32 ((((((x0 - (((Int32.toUInt32 x0 >>> (Int32.toUInt32 1 &&& Int32.toUInt32 31)).toInt32) &&& 1431655765)) &&& 858993459) + (((Int32.toUInt32 (x0 - (((Int32.toUInt32 x0 >>> (Int32.toUInt32 1 &&& Int32.toUInt32 31)).toInt32) &&& 1431655765)) >>> (Int32.toUInt32 2 &&& Int32.toUInt32 31)).toInt32) &&& 858993459)) + ((Int32.toUInt32 (((x0 - (((Int32.toUInt32 x0 >>> (Int32.toUInt32 1 &&& Int32.toUInt32 31)).toInt32) &&& 1431655765)) &&& 858993459) + (((Int32.toUInt32 (x0 - (((Int32.toUInt32 x0 >>> (Int32.toUInt32 1 &&& Int32.toUInt32 31)).toInt32) &&& 1431655765)) >>> (Int32.toUInt32 2 &&& Int32.toUInt32 31)).toInt32) &&& 858993459)) >>> (Int32.toUInt32 4 &&& Int32.toUInt32 31)).toInt32)) &&& 252645135) + ((Int32.toUInt32 (((((x0 - (((Int32.toUInt32 x0 >>> (Int32.toUInt32 1 &&& Int32.toUInt32 31)).toInt32) &&& 1431655765)) &&& 858993459) + (((Int32.toUInt32 (x0 - (((Int32.toUInt32 x0 >>> (Int32.toUInt32 1 &&& Int32.toUInt32 31)).toInt32) &&& 1431655765)) >>> (Int32.toUInt32 2 &&& Int32.toUInt32 31)).toInt32) &&& 858993459)) + ((Int32.toUInt32 (((x0 - (((Int32.toUInt32 x0 >>> (Int32.toUInt32 1 &&& Int32.toUInt32 31)).toInt32) &&& 1431655765)) &&& 858993459) + (((Int32.toUInt32 (x0 - (((Int32.toUInt32 x0 >>> (Int32.toUInt32 1 &&& Int32.toUInt32 31)).toInt32) &&& 1431655765)) >>> (Int32.toUInt32 2 &&& Int32.toUInt32 31)).toInt32) &&& 858993459)) >>> (Int32.toUInt32 4 &&& Int32.toUInt32 31)).toInt32)) &&& 252645135) >>> (Int32.toUInt32 8 &&& Int32.toUInt32 31)).toInt32)) >>> (Int32.toUInt32 16 &&& Int32.toUInt32 31)).toInt32)) &&& 63)
set_option maxHeartbeats 4000000 in
set_option maxRecDepth 100000 in
theorem W_J6_bitCount_0f7a4 {Γ : Cx} (ok : OKc Γ cJ6_bitCount_0f7a4 RJ6 0 "bitCount") (okr : OKr Γ cJ6_bitCount_0f7a4 (some .int)) (x0 : Int32) : SW Γ iI 0 [some (.int x0)] [] (P_J6_bitCount_0f7a4 x0) := by
  unfold P_J6_bitCount_0f7a4
  refine sw_iload_n (z := x0) (pc' := 1) ok dJ6_bitCount_0f7a4_0 rfl rfl ?_
  refine sw_iload_n (z := x0) (pc' := 2) ok dJ6_bitCount_0f7a4_1 rfl rfl ?_
  refine sw_iconst (v := 1) (pc' := 3) ok dJ6_bitCount_0f7a4_2 rfl cc_iconst_1 ?_
  refine sw_iushr (v := (Int32.toUInt32 x0 >>> (Int32.toUInt32 1 &&& Int32.toUInt32 31)).toInt32) (pc' := 4) ok dJ6_bitCount_0f7a4_3 rfl rfl ?_
  refine sw_ldcw (v := 1431655765) (pc' := 7) ok dJ6_bitCount_0f7a4_4 rfl wd_673 ?_
  refine sw_iand (pc' := 8) ok dJ6_bitCount_0f7a4_7 rfl ?_
  refine sw_isub (pc' := 9) ok dJ6_bitCount_0f7a4_8 rfl ?_
  refine sw_istore_n (pc' := 10) (l' := [some (.int (x0 - (((Int32.toUInt32 x0 >>> (Int32.toUInt32 1 &&& Int32.toUInt32 31)).toInt32) &&& 1431655765)))]) ok dJ6_bitCount_0f7a4_9 rfl (Nat.le_of_ble_eq_true rfl) rfl ?_
  refine sw_iload_n (z := (x0 - (((Int32.toUInt32 x0 >>> (Int32.toUInt32 1 &&& Int32.toUInt32 31)).toInt32) &&& 1431655765))) (pc' := 11) ok dJ6_bitCount_0f7a4_10 rfl rfl ?_
  refine sw_ldcw (v := 858993459) (pc' := 14) ok dJ6_bitCount_0f7a4_11 rfl wd_674 ?_
  refine sw_iand (pc' := 15) ok dJ6_bitCount_0f7a4_14 rfl ?_
  refine sw_iload_n (z := (x0 - (((Int32.toUInt32 x0 >>> (Int32.toUInt32 1 &&& Int32.toUInt32 31)).toInt32) &&& 1431655765))) (pc' := 16) ok dJ6_bitCount_0f7a4_15 rfl rfl ?_
  refine sw_iconst (v := 2) (pc' := 17) ok dJ6_bitCount_0f7a4_16 rfl cc_iconst_2 ?_
  refine sw_iushr (v := (Int32.toUInt32 (x0 - (((Int32.toUInt32 x0 >>> (Int32.toUInt32 1 &&& Int32.toUInt32 31)).toInt32) &&& 1431655765)) >>> (Int32.toUInt32 2 &&& Int32.toUInt32 31)).toInt32) (pc' := 18) ok dJ6_bitCount_0f7a4_17 rfl rfl ?_
  refine sw_ldcw (v := 858993459) (pc' := 21) ok dJ6_bitCount_0f7a4_18 rfl wd_674 ?_
  refine sw_iand (pc' := 22) ok dJ6_bitCount_0f7a4_21 rfl ?_
  refine sw_iadd (pc' := 23) ok dJ6_bitCount_0f7a4_22 rfl ?_
  refine sw_istore_n (pc' := 24) (l' := [some (.int (((x0 - (((Int32.toUInt32 x0 >>> (Int32.toUInt32 1 &&& Int32.toUInt32 31)).toInt32) &&& 1431655765)) &&& 858993459) + (((Int32.toUInt32 (x0 - (((Int32.toUInt32 x0 >>> (Int32.toUInt32 1 &&& Int32.toUInt32 31)).toInt32) &&& 1431655765)) >>> (Int32.toUInt32 2 &&& Int32.toUInt32 31)).toInt32) &&& 858993459)))]) ok dJ6_bitCount_0f7a4_23 rfl (Nat.le_of_ble_eq_true rfl) rfl ?_
  refine sw_iload_n (z := (((x0 - (((Int32.toUInt32 x0 >>> (Int32.toUInt32 1 &&& Int32.toUInt32 31)).toInt32) &&& 1431655765)) &&& 858993459) + (((Int32.toUInt32 (x0 - (((Int32.toUInt32 x0 >>> (Int32.toUInt32 1 &&& Int32.toUInt32 31)).toInt32) &&& 1431655765)) >>> (Int32.toUInt32 2 &&& Int32.toUInt32 31)).toInt32) &&& 858993459))) (pc' := 25) ok dJ6_bitCount_0f7a4_24 rfl rfl ?_
  refine sw_iload_n (z := (((x0 - (((Int32.toUInt32 x0 >>> (Int32.toUInt32 1 &&& Int32.toUInt32 31)).toInt32) &&& 1431655765)) &&& 858993459) + (((Int32.toUInt32 (x0 - (((Int32.toUInt32 x0 >>> (Int32.toUInt32 1 &&& Int32.toUInt32 31)).toInt32) &&& 1431655765)) >>> (Int32.toUInt32 2 &&& Int32.toUInt32 31)).toInt32) &&& 858993459))) (pc' := 26) ok dJ6_bitCount_0f7a4_25 rfl rfl ?_
  refine sw_iconst (v := 4) (pc' := 27) ok dJ6_bitCount_0f7a4_26 rfl cc_iconst_4 ?_
  refine sw_iushr (v := (Int32.toUInt32 (((x0 - (((Int32.toUInt32 x0 >>> (Int32.toUInt32 1 &&& Int32.toUInt32 31)).toInt32) &&& 1431655765)) &&& 858993459) + (((Int32.toUInt32 (x0 - (((Int32.toUInt32 x0 >>> (Int32.toUInt32 1 &&& Int32.toUInt32 31)).toInt32) &&& 1431655765)) >>> (Int32.toUInt32 2 &&& Int32.toUInt32 31)).toInt32) &&& 858993459)) >>> (Int32.toUInt32 4 &&& Int32.toUInt32 31)).toInt32) (pc' := 28) ok dJ6_bitCount_0f7a4_27 rfl rfl ?_
  refine sw_iadd (pc' := 29) ok dJ6_bitCount_0f7a4_28 rfl ?_
  refine sw_ldcw (v := 252645135) (pc' := 32) ok dJ6_bitCount_0f7a4_29 rfl wd_675 ?_
  refine sw_iand (pc' := 33) ok dJ6_bitCount_0f7a4_32 rfl ?_
  refine sw_istore_n (pc' := 34) (l' := [some (.int (((((x0 - (((Int32.toUInt32 x0 >>> (Int32.toUInt32 1 &&& Int32.toUInt32 31)).toInt32) &&& 1431655765)) &&& 858993459) + (((Int32.toUInt32 (x0 - (((Int32.toUInt32 x0 >>> (Int32.toUInt32 1 &&& Int32.toUInt32 31)).toInt32) &&& 1431655765)) >>> (Int32.toUInt32 2 &&& Int32.toUInt32 31)).toInt32) &&& 858993459)) + ((Int32.toUInt32 (((x0 - (((Int32.toUInt32 x0 >>> (Int32.toUInt32 1 &&& Int32.toUInt32 31)).toInt32) &&& 1431655765)) &&& 858993459) + (((Int32.toUInt32 (x0 - (((Int32.toUInt32 x0 >>> (Int32.toUInt32 1 &&& Int32.toUInt32 31)).toInt32) &&& 1431655765)) >>> (Int32.toUInt32 2 &&& Int32.toUInt32 31)).toInt32) &&& 858993459)) >>> (Int32.toUInt32 4 &&& Int32.toUInt32 31)).toInt32)) &&& 252645135))]) ok dJ6_bitCount_0f7a4_33 rfl (Nat.le_of_ble_eq_true rfl) rfl ?_
  refine sw_iload_n (z := (((((x0 - (((Int32.toUInt32 x0 >>> (Int32.toUInt32 1 &&& Int32.toUInt32 31)).toInt32) &&& 1431655765)) &&& 858993459) + (((Int32.toUInt32 (x0 - (((Int32.toUInt32 x0 >>> (Int32.toUInt32 1 &&& Int32.toUInt32 31)).toInt32) &&& 1431655765)) >>> (Int32.toUInt32 2 &&& Int32.toUInt32 31)).toInt32) &&& 858993459)) + ((Int32.toUInt32 (((x0 - (((Int32.toUInt32 x0 >>> (Int32.toUInt32 1 &&& Int32.toUInt32 31)).toInt32) &&& 1431655765)) &&& 858993459) + (((Int32.toUInt32 (x0 - (((Int32.toUInt32 x0 >>> (Int32.toUInt32 1 &&& Int32.toUInt32 31)).toInt32) &&& 1431655765)) >>> (Int32.toUInt32 2 &&& Int32.toUInt32 31)).toInt32) &&& 858993459)) >>> (Int32.toUInt32 4 &&& Int32.toUInt32 31)).toInt32)) &&& 252645135)) (pc' := 35) ok dJ6_bitCount_0f7a4_34 rfl rfl ?_
  refine sw_iload_n (z := (((((x0 - (((Int32.toUInt32 x0 >>> (Int32.toUInt32 1 &&& Int32.toUInt32 31)).toInt32) &&& 1431655765)) &&& 858993459) + (((Int32.toUInt32 (x0 - (((Int32.toUInt32 x0 >>> (Int32.toUInt32 1 &&& Int32.toUInt32 31)).toInt32) &&& 1431655765)) >>> (Int32.toUInt32 2 &&& Int32.toUInt32 31)).toInt32) &&& 858993459)) + ((Int32.toUInt32 (((x0 - (((Int32.toUInt32 x0 >>> (Int32.toUInt32 1 &&& Int32.toUInt32 31)).toInt32) &&& 1431655765)) &&& 858993459) + (((Int32.toUInt32 (x0 - (((Int32.toUInt32 x0 >>> (Int32.toUInt32 1 &&& Int32.toUInt32 31)).toInt32) &&& 1431655765)) >>> (Int32.toUInt32 2 &&& Int32.toUInt32 31)).toInt32) &&& 858993459)) >>> (Int32.toUInt32 4 &&& Int32.toUInt32 31)).toInt32)) &&& 252645135)) (pc' := 36) ok dJ6_bitCount_0f7a4_35 rfl rfl ?_
  refine sw_bipush (v := 8) (pc' := 38) ok dJ6_bitCount_0f7a4_36 rfl cc_bipush_8 ?_
  refine sw_iushr (v := (Int32.toUInt32 (((((x0 - (((Int32.toUInt32 x0 >>> (Int32.toUInt32 1 &&& Int32.toUInt32 31)).toInt32) &&& 1431655765)) &&& 858993459) + (((Int32.toUInt32 (x0 - (((Int32.toUInt32 x0 >>> (Int32.toUInt32 1 &&& Int32.toUInt32 31)).toInt32) &&& 1431655765)) >>> (Int32.toUInt32 2 &&& Int32.toUInt32 31)).toInt32) &&& 858993459)) + ((Int32.toUInt32 (((x0 - (((Int32.toUInt32 x0 >>> (Int32.toUInt32 1 &&& Int32.toUInt32 31)).toInt32) &&& 1431655765)) &&& 858993459) + (((Int32.toUInt32 (x0 - (((Int32.toUInt32 x0 >>> (Int32.toUInt32 1 &&& Int32.toUInt32 31)).toInt32) &&& 1431655765)) >>> (Int32.toUInt32 2 &&& Int32.toUInt32 31)).toInt32) &&& 858993459)) >>> (Int32.toUInt32 4 &&& Int32.toUInt32 31)).toInt32)) &&& 252645135) >>> (Int32.toUInt32 8 &&& Int32.toUInt32 31)).toInt32) (pc' := 39) ok dJ6_bitCount_0f7a4_38 rfl rfl ?_
  refine sw_iadd (pc' := 40) ok dJ6_bitCount_0f7a4_39 rfl ?_
  refine sw_istore_n (pc' := 41) (l' := [some (.int ((((((x0 - (((Int32.toUInt32 x0 >>> (Int32.toUInt32 1 &&& Int32.toUInt32 31)).toInt32) &&& 1431655765)) &&& 858993459) + (((Int32.toUInt32 (x0 - (((Int32.toUInt32 x0 >>> (Int32.toUInt32 1 &&& Int32.toUInt32 31)).toInt32) &&& 1431655765)) >>> (Int32.toUInt32 2 &&& Int32.toUInt32 31)).toInt32) &&& 858993459)) + ((Int32.toUInt32 (((x0 - (((Int32.toUInt32 x0 >>> (Int32.toUInt32 1 &&& Int32.toUInt32 31)).toInt32) &&& 1431655765)) &&& 858993459) + (((Int32.toUInt32 (x0 - (((Int32.toUInt32 x0 >>> (Int32.toUInt32 1 &&& Int32.toUInt32 31)).toInt32) &&& 1431655765)) >>> (Int32.toUInt32 2 &&& Int32.toUInt32 31)).toInt32) &&& 858993459)) >>> (Int32.toUInt32 4 &&& Int32.toUInt32 31)).toInt32)) &&& 252645135) + ((Int32.toUInt32 (((((x0 - (((Int32.toUInt32 x0 >>> (Int32.toUInt32 1 &&& Int32.toUInt32 31)).toInt32) &&& 1431655765)) &&& 858993459) + (((Int32.toUInt32 (x0 - (((Int32.toUInt32 x0 >>> (Int32.toUInt32 1 &&& Int32.toUInt32 31)).toInt32) &&& 1431655765)) >>> (Int32.toUInt32 2 &&& Int32.toUInt32 31)).toInt32) &&& 858993459)) + ((Int32.toUInt32 (((x0 - (((Int32.toUInt32 x0 >>> (Int32.toUInt32 1 &&& Int32.toUInt32 31)).toInt32) &&& 1431655765)) &&& 858993459) + (((Int32.toUInt32 (x0 - (((Int32.toUInt32 x0 >>> (Int32.toUInt32 1 &&& Int32.toUInt32 31)).toInt32) &&& 1431655765)) >>> (Int32.toUInt32 2 &&& Int32.toUInt32 31)).toInt32) &&& 858993459)) >>> (Int32.toUInt32 4 &&& Int32.toUInt32 31)).toInt32)) &&& 252645135) >>> (Int32.toUInt32 8 &&& Int32.toUInt32 31)).toInt32)))]) ok dJ6_bitCount_0f7a4_40 rfl (Nat.le_of_ble_eq_true rfl) rfl ?_
  refine sw_iload_n (z := ((((((x0 - (((Int32.toUInt32 x0 >>> (Int32.toUInt32 1 &&& Int32.toUInt32 31)).toInt32) &&& 1431655765)) &&& 858993459) + (((Int32.toUInt32 (x0 - (((Int32.toUInt32 x0 >>> (Int32.toUInt32 1 &&& Int32.toUInt32 31)).toInt32) &&& 1431655765)) >>> (Int32.toUInt32 2 &&& Int32.toUInt32 31)).toInt32) &&& 858993459)) + ((Int32.toUInt32 (((x0 - (((Int32.toUInt32 x0 >>> (Int32.toUInt32 1 &&& Int32.toUInt32 31)).toInt32) &&& 1431655765)) &&& 858993459) + (((Int32.toUInt32 (x0 - (((Int32.toUInt32 x0 >>> (Int32.toUInt32 1 &&& Int32.toUInt32 31)).toInt32) &&& 1431655765)) >>> (Int32.toUInt32 2 &&& Int32.toUInt32 31)).toInt32) &&& 858993459)) >>> (Int32.toUInt32 4 &&& Int32.toUInt32 31)).toInt32)) &&& 252645135) + ((Int32.toUInt32 (((((x0 - (((Int32.toUInt32 x0 >>> (Int32.toUInt32 1 &&& Int32.toUInt32 31)).toInt32) &&& 1431655765)) &&& 858993459) + (((Int32.toUInt32 (x0 - (((Int32.toUInt32 x0 >>> (Int32.toUInt32 1 &&& Int32.toUInt32 31)).toInt32) &&& 1431655765)) >>> (Int32.toUInt32 2 &&& Int32.toUInt32 31)).toInt32) &&& 858993459)) + ((Int32.toUInt32 (((x0 - (((Int32.toUInt32 x0 >>> (Int32.toUInt32 1 &&& Int32.toUInt32 31)).toInt32) &&& 1431655765)) &&& 858993459) + (((Int32.toUInt32 (x0 - (((Int32.toUInt32 x0 >>> (Int32.toUInt32 1 &&& Int32.toUInt32 31)).toInt32) &&& 1431655765)) >>> (Int32.toUInt32 2 &&& Int32.toUInt32 31)).toInt32) &&& 858993459)) >>> (Int32.toUInt32 4 &&& Int32.toUInt32 31)).toInt32)) &&& 252645135) >>> (Int32.toUInt32 8 &&& Int32.toUInt32 31)).toInt32))) (pc' := 42) ok dJ6_bitCount_0f7a4_41 rfl rfl ?_
  refine sw_iload_n (z := ((((((x0 - (((Int32.toUInt32 x0 >>> (Int32.toUInt32 1 &&& Int32.toUInt32 31)).toInt32) &&& 1431655765)) &&& 858993459) + (((Int32.toUInt32 (x0 - (((Int32.toUInt32 x0 >>> (Int32.toUInt32 1 &&& Int32.toUInt32 31)).toInt32) &&& 1431655765)) >>> (Int32.toUInt32 2 &&& Int32.toUInt32 31)).toInt32) &&& 858993459)) + ((Int32.toUInt32 (((x0 - (((Int32.toUInt32 x0 >>> (Int32.toUInt32 1 &&& Int32.toUInt32 31)).toInt32) &&& 1431655765)) &&& 858993459) + (((Int32.toUInt32 (x0 - (((Int32.toUInt32 x0 >>> (Int32.toUInt32 1 &&& Int32.toUInt32 31)).toInt32) &&& 1431655765)) >>> (Int32.toUInt32 2 &&& Int32.toUInt32 31)).toInt32) &&& 858993459)) >>> (Int32.toUInt32 4 &&& Int32.toUInt32 31)).toInt32)) &&& 252645135) + ((Int32.toUInt32 (((((x0 - (((Int32.toUInt32 x0 >>> (Int32.toUInt32 1 &&& Int32.toUInt32 31)).toInt32) &&& 1431655765)) &&& 858993459) + (((Int32.toUInt32 (x0 - (((Int32.toUInt32 x0 >>> (Int32.toUInt32 1 &&& Int32.toUInt32 31)).toInt32) &&& 1431655765)) >>> (Int32.toUInt32 2 &&& Int32.toUInt32 31)).toInt32) &&& 858993459)) + ((Int32.toUInt32 (((x0 - (((Int32.toUInt32 x0 >>> (Int32.toUInt32 1 &&& Int32.toUInt32 31)).toInt32) &&& 1431655765)) &&& 858993459) + (((Int32.toUInt32 (x0 - (((Int32.toUInt32 x0 >>> (Int32.toUInt32 1 &&& Int32.toUInt32 31)).toInt32) &&& 1431655765)) >>> (Int32.toUInt32 2 &&& Int32.toUInt32 31)).toInt32) &&& 858993459)) >>> (Int32.toUInt32 4 &&& Int32.toUInt32 31)).toInt32)) &&& 252645135) >>> (Int32.toUInt32 8 &&& Int32.toUInt32 31)).toInt32))) (pc' := 43) ok dJ6_bitCount_0f7a4_42 rfl rfl ?_
  refine sw_bipush (v := 16) (pc' := 45) ok dJ6_bitCount_0f7a4_43 rfl cc_bipush_16 ?_
  refine sw_iushr (v := (Int32.toUInt32 ((((((x0 - (((Int32.toUInt32 x0 >>> (Int32.toUInt32 1 &&& Int32.toUInt32 31)).toInt32) &&& 1431655765)) &&& 858993459) + (((Int32.toUInt32 (x0 - (((Int32.toUInt32 x0 >>> (Int32.toUInt32 1 &&& Int32.toUInt32 31)).toInt32) &&& 1431655765)) >>> (Int32.toUInt32 2 &&& Int32.toUInt32 31)).toInt32) &&& 858993459)) + ((Int32.toUInt32 (((x0 - (((Int32.toUInt32 x0 >>> (Int32.toUInt32 1 &&& Int32.toUInt32 31)).toInt32) &&& 1431655765)) &&& 858993459) + (((Int32.toUInt32 (x0 - (((Int32.toUInt32 x0 >>> (Int32.toUInt32 1 &&& Int32.toUInt32 31)).toInt32) &&& 1431655765)) >>> (Int32.toUInt32 2 &&& Int32.toUInt32 31)).toInt32) &&& 858993459)) >>> (Int32.toUInt32 4 &&& Int32.toUInt32 31)).toInt32)) &&& 252645135) + ((Int32.toUInt32 (((((x0 - (((Int32.toUInt32 x0 >>> (Int32.toUInt32 1 &&& Int32.toUInt32 31)).toInt32) &&& 1431655765)) &&& 858993459) + (((Int32.toUInt32 (x0 - (((Int32.toUInt32 x0 >>> (Int32.toUInt32 1 &&& Int32.toUInt32 31)).toInt32) &&& 1431655765)) >>> (Int32.toUInt32 2 &&& Int32.toUInt32 31)).toInt32) &&& 858993459)) + ((Int32.toUInt32 (((x0 - (((Int32.toUInt32 x0 >>> (Int32.toUInt32 1 &&& Int32.toUInt32 31)).toInt32) &&& 1431655765)) &&& 858993459) + (((Int32.toUInt32 (x0 - (((Int32.toUInt32 x0 >>> (Int32.toUInt32 1 &&& Int32.toUInt32 31)).toInt32) &&& 1431655765)) >>> (Int32.toUInt32 2 &&& Int32.toUInt32 31)).toInt32) &&& 858993459)) >>> (Int32.toUInt32 4 &&& Int32.toUInt32 31)).toInt32)) &&& 252645135) >>> (Int32.toUInt32 8 &&& Int32.toUInt32 31)).toInt32)) >>> (Int32.toUInt32 16 &&& Int32.toUInt32 31)).toInt32) (pc' := 46) ok dJ6_bitCount_0f7a4_45 rfl rfl ?_
  refine sw_iadd (pc' := 47) ok dJ6_bitCount_0f7a4_46 rfl ?_
  refine sw_istore_n (pc' := 48) (l' := [some (.int (((((((x0 - (((Int32.toUInt32 x0 >>> (Int32.toUInt32 1 &&& Int32.toUInt32 31)).toInt32) &&& 1431655765)) &&& 858993459) + (((Int32.toUInt32 (x0 - (((Int32.toUInt32 x0 >>> (Int32.toUInt32 1 &&& Int32.toUInt32 31)).toInt32) &&& 1431655765)) >>> (Int32.toUInt32 2 &&& Int32.toUInt32 31)).toInt32) &&& 858993459)) + ((Int32.toUInt32 (((x0 - (((Int32.toUInt32 x0 >>> (Int32.toUInt32 1 &&& Int32.toUInt32 31)).toInt32) &&& 1431655765)) &&& 858993459) + (((Int32.toUInt32 (x0 - (((Int32.toUInt32 x0 >>> (Int32.toUInt32 1 &&& Int32.toUInt32 31)).toInt32) &&& 1431655765)) >>> (Int32.toUInt32 2 &&& Int32.toUInt32 31)).toInt32) &&& 858993459)) >>> (Int32.toUInt32 4 &&& Int32.toUInt32 31)).toInt32)) &&& 252645135) + ((Int32.toUInt32 (((((x0 - (((Int32.toUInt32 x0 >>> (Int32.toUInt32 1 &&& Int32.toUInt32 31)).toInt32) &&& 1431655765)) &&& 858993459) + (((Int32.toUInt32 (x0 - (((Int32.toUInt32 x0 >>> (Int32.toUInt32 1 &&& Int32.toUInt32 31)).toInt32) &&& 1431655765)) >>> (Int32.toUInt32 2 &&& Int32.toUInt32 31)).toInt32) &&& 858993459)) + ((Int32.toUInt32 (((x0 - (((Int32.toUInt32 x0 >>> (Int32.toUInt32 1 &&& Int32.toUInt32 31)).toInt32) &&& 1431655765)) &&& 858993459) + (((Int32.toUInt32 (x0 - (((Int32.toUInt32 x0 >>> (Int32.toUInt32 1 &&& Int32.toUInt32 31)).toInt32) &&& 1431655765)) >>> (Int32.toUInt32 2 &&& Int32.toUInt32 31)).toInt32) &&& 858993459)) >>> (Int32.toUInt32 4 &&& Int32.toUInt32 31)).toInt32)) &&& 252645135) >>> (Int32.toUInt32 8 &&& Int32.toUInt32 31)).toInt32)) + ((Int32.toUInt32 ((((((x0 - (((Int32.toUInt32 x0 >>> (Int32.toUInt32 1 &&& Int32.toUInt32 31)).toInt32) &&& 1431655765)) &&& 858993459) + (((Int32.toUInt32 (x0 - (((Int32.toUInt32 x0 >>> (Int32.toUInt32 1 &&& Int32.toUInt32 31)).toInt32) &&& 1431655765)) >>> (Int32.toUInt32 2 &&& Int32.toUInt32 31)).toInt32) &&& 858993459)) + ((Int32.toUInt32 (((x0 - (((Int32.toUInt32 x0 >>> (Int32.toUInt32 1 &&& Int32.toUInt32 31)).toInt32) &&& 1431655765)) &&& 858993459) + (((Int32.toUInt32 (x0 - (((Int32.toUInt32 x0 >>> (Int32.toUInt32 1 &&& Int32.toUInt32 31)).toInt32) &&& 1431655765)) >>> (Int32.toUInt32 2 &&& Int32.toUInt32 31)).toInt32) &&& 858993459)) >>> (Int32.toUInt32 4 &&& Int32.toUInt32 31)).toInt32)) &&& 252645135) + ((Int32.toUInt32 (((((x0 - (((Int32.toUInt32 x0 >>> (Int32.toUInt32 1 &&& Int32.toUInt32 31)).toInt32) &&& 1431655765)) &&& 858993459) + (((Int32.toUInt32 (x0 - (((Int32.toUInt32 x0 >>> (Int32.toUInt32 1 &&& Int32.toUInt32 31)).toInt32) &&& 1431655765)) >>> (Int32.toUInt32 2 &&& Int32.toUInt32 31)).toInt32) &&& 858993459)) + ((Int32.toUInt32 (((x0 - (((Int32.toUInt32 x0 >>> (Int32.toUInt32 1 &&& Int32.toUInt32 31)).toInt32) &&& 1431655765)) &&& 858993459) + (((Int32.toUInt32 (x0 - (((Int32.toUInt32 x0 >>> (Int32.toUInt32 1 &&& Int32.toUInt32 31)).toInt32) &&& 1431655765)) >>> (Int32.toUInt32 2 &&& Int32.toUInt32 31)).toInt32) &&& 858993459)) >>> (Int32.toUInt32 4 &&& Int32.toUInt32 31)).toInt32)) &&& 252645135) >>> (Int32.toUInt32 8 &&& Int32.toUInt32 31)).toInt32)) >>> (Int32.toUInt32 16 &&& Int32.toUInt32 31)).toInt32)))]) ok dJ6_bitCount_0f7a4_47 rfl (Nat.le_of_ble_eq_true rfl) rfl ?_
  refine sw_iload_n (z := (((((((x0 - (((Int32.toUInt32 x0 >>> (Int32.toUInt32 1 &&& Int32.toUInt32 31)).toInt32) &&& 1431655765)) &&& 858993459) + (((Int32.toUInt32 (x0 - (((Int32.toUInt32 x0 >>> (Int32.toUInt32 1 &&& Int32.toUInt32 31)).toInt32) &&& 1431655765)) >>> (Int32.toUInt32 2 &&& Int32.toUInt32 31)).toInt32) &&& 858993459)) + ((Int32.toUInt32 (((x0 - (((Int32.toUInt32 x0 >>> (Int32.toUInt32 1 &&& Int32.toUInt32 31)).toInt32) &&& 1431655765)) &&& 858993459) + (((Int32.toUInt32 (x0 - (((Int32.toUInt32 x0 >>> (Int32.toUInt32 1 &&& Int32.toUInt32 31)).toInt32) &&& 1431655765)) >>> (Int32.toUInt32 2 &&& Int32.toUInt32 31)).toInt32) &&& 858993459)) >>> (Int32.toUInt32 4 &&& Int32.toUInt32 31)).toInt32)) &&& 252645135) + ((Int32.toUInt32 (((((x0 - (((Int32.toUInt32 x0 >>> (Int32.toUInt32 1 &&& Int32.toUInt32 31)).toInt32) &&& 1431655765)) &&& 858993459) + (((Int32.toUInt32 (x0 - (((Int32.toUInt32 x0 >>> (Int32.toUInt32 1 &&& Int32.toUInt32 31)).toInt32) &&& 1431655765)) >>> (Int32.toUInt32 2 &&& Int32.toUInt32 31)).toInt32) &&& 858993459)) + ((Int32.toUInt32 (((x0 - (((Int32.toUInt32 x0 >>> (Int32.toUInt32 1 &&& Int32.toUInt32 31)).toInt32) &&& 1431655765)) &&& 858993459) + (((Int32.toUInt32 (x0 - (((Int32.toUInt32 x0 >>> (Int32.toUInt32 1 &&& Int32.toUInt32 31)).toInt32) &&& 1431655765)) >>> (Int32.toUInt32 2 &&& Int32.toUInt32 31)).toInt32) &&& 858993459)) >>> (Int32.toUInt32 4 &&& Int32.toUInt32 31)).toInt32)) &&& 252645135) >>> (Int32.toUInt32 8 &&& Int32.toUInt32 31)).toInt32)) + ((Int32.toUInt32 ((((((x0 - (((Int32.toUInt32 x0 >>> (Int32.toUInt32 1 &&& Int32.toUInt32 31)).toInt32) &&& 1431655765)) &&& 858993459) + (((Int32.toUInt32 (x0 - (((Int32.toUInt32 x0 >>> (Int32.toUInt32 1 &&& Int32.toUInt32 31)).toInt32) &&& 1431655765)) >>> (Int32.toUInt32 2 &&& Int32.toUInt32 31)).toInt32) &&& 858993459)) + ((Int32.toUInt32 (((x0 - (((Int32.toUInt32 x0 >>> (Int32.toUInt32 1 &&& Int32.toUInt32 31)).toInt32) &&& 1431655765)) &&& 858993459) + (((Int32.toUInt32 (x0 - (((Int32.toUInt32 x0 >>> (Int32.toUInt32 1 &&& Int32.toUInt32 31)).toInt32) &&& 1431655765)) >>> (Int32.toUInt32 2 &&& Int32.toUInt32 31)).toInt32) &&& 858993459)) >>> (Int32.toUInt32 4 &&& Int32.toUInt32 31)).toInt32)) &&& 252645135) + ((Int32.toUInt32 (((((x0 - (((Int32.toUInt32 x0 >>> (Int32.toUInt32 1 &&& Int32.toUInt32 31)).toInt32) &&& 1431655765)) &&& 858993459) + (((Int32.toUInt32 (x0 - (((Int32.toUInt32 x0 >>> (Int32.toUInt32 1 &&& Int32.toUInt32 31)).toInt32) &&& 1431655765)) >>> (Int32.toUInt32 2 &&& Int32.toUInt32 31)).toInt32) &&& 858993459)) + ((Int32.toUInt32 (((x0 - (((Int32.toUInt32 x0 >>> (Int32.toUInt32 1 &&& Int32.toUInt32 31)).toInt32) &&& 1431655765)) &&& 858993459) + (((Int32.toUInt32 (x0 - (((Int32.toUInt32 x0 >>> (Int32.toUInt32 1 &&& Int32.toUInt32 31)).toInt32) &&& 1431655765)) >>> (Int32.toUInt32 2 &&& Int32.toUInt32 31)).toInt32) &&& 858993459)) >>> (Int32.toUInt32 4 &&& Int32.toUInt32 31)).toInt32)) &&& 252645135) >>> (Int32.toUInt32 8 &&& Int32.toUInt32 31)).toInt32)) >>> (Int32.toUInt32 16 &&& Int32.toUInt32 31)).toInt32))) (pc' := 49) ok dJ6_bitCount_0f7a4_48 rfl rfl ?_
  refine sw_bipush (v := 63) (pc' := 51) ok dJ6_bitCount_0f7a4_49 rfl cc_bipush_63 ?_
  refine sw_iand (pc' := 52) ok dJ6_bitCount_0f7a4_51 rfl ?_
  exact sw_ret ok okr dJ6_bitCount_0f7a4_52 trivial rfl
theorem S_J6_bitCount_0f7a4 (x0 : Int32) : Sim 0 yJ6_bitCount_0f7a4 cJ6_bitCount_0f7a4 1 (some .int) iI [.int x0] (P_J6_bitCount_0f7a4 x0) := Sim.introF wd_985 (by decide) (by decide +kernel) (Nat.le_of_ble_eq_true rfl) (fun Γ ok okr => W_J6_bitCount_0f7a4 ok okr x0)
theorem dX6_noteWay_0 : decode cX6_noteWay 0 = .ok (.aload_n 0, 1) := by decide +kernel
theorem dX6_noteWay_1 : decode cX6_noteWay 1 = .ok (.getfield 38, 3) := by decide +kernel
theorem dX6_noteWay_4 : decode cX6_noteWay 4 = .ok (.ifCond .ne 13, 3) := by decide +kernel
theorem dX6_noteWay_7 : decode cX6_noteWay 7 = .ok (.aload_n 0, 1) := by decide +kernel
theorem dX6_noteWay_8 : decode cX6_noteWay 8 = .ok (.aload_n 0, 1) := by decide +kernel
theorem dX6_noteWay_9 : decode cX6_noteWay 9 = .ok (.getfield 17, 3) := by decide +kernel
theorem dX6_noteWay_12 : decode cX6_noteWay 12 = .ok (.iconst 0, 1) := by decide +kernel
theorem dX6_noteWay_13 : decode cX6_noteWay 13 = .ok (.iaload, 1) := by decide +kernel
theorem dX6_noteWay_14 : decode cX6_noteWay 14 = .ok (.putfield 41, 3) := by decide +kernel
theorem dX6_noteWay_17 : decode cX6_noteWay 17 = .ok (.aload_n 0, 1) := by decide +kernel
theorem dX6_noteWay_18 : decode cX6_noteWay 18 = .ok (.dup, 1) := by decide +kernel
theorem dX6_noteWay_19 : decode cX6_noteWay 19 = .ok (.getfield 38, 3) := by decide +kernel
theorem dX6_noteWay_22 : decode cX6_noteWay 22 = .ok (.iconst 1, 1) := by decide +kernel
theorem dX6_noteWay_23 : decode cX6_noteWay 23 = .ok (.iadd, 1) := by decide +kernel
theorem dX6_noteWay_24 : decode cX6_noteWay 24 = .ok (.putfield 38, 3) := by decide +kernel
theorem dX6_noteWay_27 : decode cX6_noteWay 27 = .ok (.aload_n 0, 1) := by decide +kernel
theorem dX6_noteWay_28 : decode cX6_noteWay 28 = .ok (.dup, 1) := by decide +kernel
theorem dX6_noteWay_29 : decode cX6_noteWay 29 = .ok (.getfield 44, 3) := by decide +kernel
theorem dX6_noteWay_32 : decode cX6_noteWay 32 = .ok (.iload_n 1, 1) := by decide +kernel
theorem dX6_noteWay_33 : decode cX6_noteWay 33 = .ok (.iand, 1) := by decide +kernel
theorem dX6_noteWay_34 : decode cX6_noteWay 34 = .ok (.putfield 44, 3) := by decide +kernel
theorem dX6_noteWay_37 : decode cX6_noteWay 37 = .ok (.aload_n 0, 1) := by decide +kernel
theorem dX6_noteWay_38 : decode cX6_noteWay 38 = .ok (.dup, 1) := by decide +kernel
theorem dX6_noteWay_39 : decode cX6_noteWay 39 = .ok (.getfield 47, 3) := by decide +kernel
theorem dX6_noteWay_42 : decode cX6_noteWay 42 = .ok (.iload_n 1, 1) := by decide +kernel
theorem dX6_noteWay_43 : decode cX6_noteWay 43 = .ok (.ior, 1) := by decide +kernel
theorem dX6_noteWay_44 : decode cX6_noteWay 44 = .ok (.putfield 47, 3) := by decide +kernel
theorem dX6_noteWay_47 : decode cX6_noteWay 47 = .ok (.iload_n 1, 1) := by decide +kernel
theorem dX6_noteWay_48 : decode cX6_noteWay 48 = .ok (.invokestatic 121, 3) := by decide +kernel
theorem dX6_noteWay_51 : decode cX6_noteWay 51 = .ok (.aload_n 0, 1) := by decide +kernel
theorem dX6_noteWay_52 : decode cX6_noteWay 52 = .ok (.getfield 50, 3) := by decide +kernel
theorem dX6_noteWay_55 : decode cX6_noteWay 55 = .ok (.invokestatic 121, 3) := by decide +kernel
theorem dX6_noteWay_58 : decode cX6_noteWay 58 = .ok (.isub, 1) := by decide +kernel
theorem dX6_noteWay_59 : decode cX6_noteWay 59 = .ok (.istore_n 2, 1) := by decide +kernel
theorem dX6_noteWay_60 : decode cX6_noteWay 60 = .ok (.aload_n 0, 1) := by decide +kernel
theorem dX6_noteWay_61 : decode cX6_noteWay 61 = .ok (.getfield 50, 3) := by decide +kernel
theorem dX6_noteWay_64 : decode cX6_noteWay 64 = .ok (.ifCond .eq 19, 3) := by decide +kernel
theorem dX6_noteWay_67 : decode cX6_noteWay 67 = .ok (.iload_n 2, 1) := by decide +kernel
theorem dX6_noteWay_68 : decode cX6_noteWay 68 = .ok (.ifCond .lt 15, 3) := by decide +kernel
theorem dX6_noteWay_71 : decode cX6_noteWay 71 = .ok (.iload_n 2, 1) := by decide +kernel
theorem dX6_noteWay_72 : decode cX6_noteWay 72 = .ok (.ifCond .ne 16, 3) := by decide +kernel
theorem dX6_noteWay_75 : decode cX6_noteWay 75 = .ok (.iload_n 1, 1) := by decide +kernel
theorem dX6_noteWay_76 : decode cX6_noteWay 76 = .ok (.aload_n 0, 1) := by decide +kernel
theorem dX6_noteWay_77 : decode cX6_noteWay 77 = .ok (.getfield 50, 3) := by decide +kernel
theorem dX6_noteWay_80 : decode cX6_noteWay 80 = .ok (.if_icmp .ge 8, 3) := by decide +kernel
theorem dX6_noteWay_83 : decode cX6_noteWay 83 = .ok (.aload_n 0, 1) := by decide +kernel
theorem dX6_noteWay_84 : decode cX6_noteWay 84 = .ok (.iload_n 1, 1) := by decide +kernel
theorem dX6_noteWay_85 : decode cX6_noteWay 85 = .ok (.putfield 50, 3) := by decide +kernel
theorem dX6_noteWay_88 : decode cX6_noteWay 88 = .ok (.return_, 1) := by decide +kernel
def P_X6_noteWay (a0 : Nat) (x1 : Int32) : PM Unit :=
getI 6 7 a0 fun v1 =>
jn (
getI 6 7 a0 fun v2 =>
setI 6 7 a0 (v2 + 1) <|
getI 6 9 a0 fun v3 =>
setI 6 9 a0 (v3 &&& x1) <|
getI 6 10 a0 fun v4 =>
setI 6 10 a0 (v4 ||| x1) <|
cll0 (P_J6_bitCount_0f7a4 x1) fun v5 =>
getI 6 11 a0 fun v6 =>
cll0 (P_J6_bitCount_0f7a4 v6) fun v7 =>
getI 6 11 a0 fun v8 =>
jn (
setI 6 11 a0 x1 <|
pureM ()) fun k9 =>
ifB (decide (v8 = 0)) (
k9) (
ifB (decide ((v5 - v7) < 0)) (
k9) (
ifB (decide (¬ (v5 - v7) = 0)) (
pureM ()) (
getI 6 11 a0 fun v10 =>
ifB (decide (v10 ≤ x1)) (
pureM ()) (
k9))))) fun k11 =>
ifB (decide (¬ v1 = 0)) (
k11) (
getR 6 1 a0 fun v12 =>
ald v12 0 fun v13 =>
setI 6 8 a0 v13 <|
k11)
set_option maxHeartbeats 4000000 in
set_option maxRecDepth 100000 in
theorem W_X6_noteWay {Γ : Cx} (ok : OKc Γ cX6_noteWay RX6 1 "noteWay") (okr : OKr Γ cX6_noteWay (none)) (a0 : Nat) (x1 : Int32) : SW Γ iU 0 [some (.ref a0), some (.int x1), none] [] (P_X6_noteWay a0 x1) := by
  unfold P_X6_noteWay
  refine sw_aload_n (z := a0) (pc' := 1) ok dX6_noteWay_0 rfl rfl ?_
  refine sw_getI (pc' := 4) ok (fr_X6_38.g) dX6_noteWay_1 rfl (fun v1 => ?_)
  refine sw_jn (fun k11 : PM Unit => SW Γ iU 17 [some (.ref a0), some (.int x1), none] [] (k11)) ?_ (fun k11 hk11 => ?_)
  · refine sw_aload_n (z := a0) (pc' := 18) ok dX6_noteWay_17 rfl rfl ?_
    refine sw_dup (pc' := 19) ok dX6_noteWay_18 rfl rfl ?_
    refine sw_getI (pc' := 22) ok (fr_X6_38.g) dX6_noteWay_19 rfl (fun v2 => ?_)
    refine sw_iconst (v := 1) (pc' := 23) ok dX6_noteWay_22 rfl cc_iconst_1 ?_
    refine sw_iadd (pc' := 24) ok dX6_noteWay_23 rfl ?_
    refine sw_setI (pc' := 27) ok fr_X6_38 dX6_noteWay_24 (fun h => by cases h) rfl ?_
    refine sw_aload_n (z := a0) (pc' := 28) ok dX6_noteWay_27 rfl rfl ?_
    refine sw_dup (pc' := 29) ok dX6_noteWay_28 rfl rfl ?_
    refine sw_getI (pc' := 32) ok (fr_X6_44.g) dX6_noteWay_29 rfl (fun v3 => ?_)
    refine sw_iload_n (z := x1) (pc' := 33) ok dX6_noteWay_32 rfl rfl ?_
    refine sw_iand (pc' := 34) ok dX6_noteWay_33 rfl ?_
    refine sw_setI (pc' := 37) ok fr_X6_44 dX6_noteWay_34 (fun h => by cases h) rfl ?_
    refine sw_aload_n (z := a0) (pc' := 38) ok dX6_noteWay_37 rfl rfl ?_
    refine sw_dup (pc' := 39) ok dX6_noteWay_38 rfl rfl ?_
    refine sw_getI (pc' := 42) ok (fr_X6_47.g) dX6_noteWay_39 rfl (fun v4 => ?_)
    refine sw_iload_n (z := x1) (pc' := 43) ok dX6_noteWay_42 rfl rfl ?_
    refine sw_ior (pc' := 44) ok dX6_noteWay_43 rfl ?_
    refine sw_setI (pc' := 47) ok fr_X6_47 dX6_noteWay_44 (fun h => by cases h) rfl ?_
    refine sw_iload_n (z := x1) (pc' := 48) ok dX6_noteWay_47 rfl rfl ?_
    refine sw_cll0_I (st := []) (as := [.int x1]) (pc' := 51) ok (S_J6_bitCount_0f7a4 x1) (by decide) lk_X6_121 rfl dX6_noteWay_48 rfl (Nat.le_of_ble_eq_true rfl) rfl (fun v5 => ?_)
    refine sw_aload_n (z := a0) (pc' := 52) ok dX6_noteWay_51 rfl rfl ?_
    refine sw_getI (pc' := 55) ok (fr_X6_50.g) dX6_noteWay_52 rfl (fun v6 => ?_)
    refine sw_cll0_I (st := [.int v5]) (as := [.int v6]) (pc' := 58) ok (S_J6_bitCount_0f7a4 v6) (by decide) lk_X6_121 rfl dX6_noteWay_55 rfl (Nat.le_of_ble_eq_true rfl) rfl (fun v7 => ?_)
    refine sw_isub (pc' := 59) ok dX6_noteWay_58 rfl ?_
    refine sw_istore_n (pc' := 60) (l' := [some (.ref a0), some (.int x1), some (.int (v5 - v7))]) ok dX6_noteWay_59 rfl (Nat.le_of_ble_eq_true rfl) rfl ?_
    refine sw_aload_n (z := a0) (pc' := 61) ok dX6_noteWay_60 rfl rfl ?_
    refine sw_getI (pc' := 64) ok (fr_X6_50.g) dX6_noteWay_61 rfl (fun v8 => ?_)
    refine sw_jn (fun k9 : PM Unit => SW Γ iU 83 [some (.ref a0), some (.int x1), none] [] (k9)) ?_ (fun k9 hk9 => ?_)
    · refine sw_aload_n (z := a0) (pc' := 84) ok dX6_noteWay_83 rfl rfl ?_
      refine sw_iload_n (z := x1) (pc' := 85) ok dX6_noteWay_84 rfl rfl ?_
      refine sw_setI (pc' := 88) ok fr_X6_50 dX6_noteWay_85 (fun h => by cases h) rfl ?_
      exact sw_ret ok okr dX6_noteWay_88 trivial rfl
    refine sw_if_eq (tgt := 83) (pc' := 67) ok dX6_noteWay_64 (by decide) rfl ?_ ?_
    · refine sw_fg (l' := [some (.ref a0), some (.int x1), none]) [true, true, false] rfl ?_
      exact hk9
    refine sw_iload_n (z := (v5 - v7)) (pc' := 68) ok dX6_noteWay_67 rfl rfl ?_
    refine sw_if_lt (tgt := 83) (pc' := 71) ok dX6_noteWay_68 (by decide) rfl ?_ ?_
    · refine sw_fg (l' := [some (.ref a0), some (.int x1), none]) [true, true, false] rfl ?_
      exact hk9
    refine sw_iload_n (z := (v5 - v7)) (pc' := 72) ok dX6_noteWay_71 rfl rfl ?_
    refine sw_if_ne (tgt := 88) (pc' := 75) ok dX6_noteWay_72 (by decide) rfl ?_ ?_
    · exact sw_ret ok okr dX6_noteWay_88 trivial rfl
    refine sw_iload_n (z := x1) (pc' := 76) ok dX6_noteWay_75 rfl rfl ?_
    refine sw_aload_n (z := a0) (pc' := 77) ok dX6_noteWay_76 rfl rfl ?_
    refine sw_getI (pc' := 80) ok (fr_X6_50.g) dX6_noteWay_77 rfl (fun v10 => ?_)
    refine sw_icmp_ge (tgt := 88) (pc' := 83) ok dX6_noteWay_80 (by decide) rfl ?_ ?_
    · exact sw_ret ok okr dX6_noteWay_88 trivial rfl
    refine sw_fg (l' := [some (.ref a0), some (.int x1), none]) [true, true, false] rfl ?_
    exact hk9
  refine sw_if_ne (tgt := 17) (pc' := 7) ok dX6_noteWay_4 (by decide) rfl ?_ ?_
  · exact hk11
  refine sw_aload_n (z := a0) (pc' := 8) ok dX6_noteWay_7 rfl rfl ?_
  refine sw_aload_n (z := a0) (pc' := 9) ok dX6_noteWay_8 rfl rfl ?_
  refine sw_getR (pc' := 12) ok (fr_X6_17.g) dX6_noteWay_9 rfl (fun v12 => ?_)
  refine sw_iconst (v := 0) (pc' := 13) ok dX6_noteWay_12 rfl cc_iconst_0 ?_
  refine sw_ald (pc' := 14) ok dX6_noteWay_13 rfl (fun v13 => ?_)
  refine sw_setI (pc' := 17) ok fr_X6_41 dX6_noteWay_14 (fun h => by cases h) rfl ?_
  exact hk11
theorem S_X6_noteWay (a0 : Nat) (x1 : Int32) : Sim 1 yX6_noteWay cX6_noteWay 3 (none) iU [.ref a0, .int x1] (P_X6_noteWay a0 x1) := Sim.intro wd_986 (by decide) (by decide +kernel) (Nat.le_of_ble_eq_true rfl) (fun Γ ok okr => W_X6_noteWay ok okr a0 x1)
theorem dX6_suits_0 : decode cX6_suits 0 = .ok (.iload_n 1, 1) := by decide +kernel
theorem dX6_suits_1 : decode cX6_suits 1 = .ok (.ifCond .lt 8, 3) := by decide +kernel
theorem dX6_suits_4 : decode cX6_suits 4 = .ok (.iload_n 1, 1) := by decide +kernel
theorem dX6_suits_5 : decode cX6_suits 5 = .ok (.iconst 3, 1) := by decide +kernel
theorem dX6_suits_6 : decode cX6_suits 6 = .ok (.if_icmp .lt 5, 3) := by decide +kernel
theorem dX6_suits_9 : decode cX6_suits 9 = .ok (.iconst 0, 1) := by decide +kernel
theorem dX6_suits_10 : decode cX6_suits 10 = .ok (.ireturn, 1) := by decide +kernel
theorem dX6_suits_11 : decode cX6_suits 11 = .ok (.aload_n 0, 1) := by decide +kernel
theorem dX6_suits_12 : decode cX6_suits 12 = .ok (.getfield 31, 3) := by decide +kernel
theorem dX6_suits_15 : decode cX6_suits 15 = .ok (.ifCond .eq 21, 3) := by decide +kernel
theorem dX6_suits_18 : decode cX6_suits 18 = .ok (.iload_n 2, 1) := by decide +kernel
theorem dX6_suits_19 : decode cX6_suits 19 = .ok (.aload_n 0, 1) := by decide +kernel
theorem dX6_suits_20 : decode cX6_suits 20 = .ok (.getfield 24, 3) := by decide +kernel
theorem dX6_suits_23 : decode cX6_suits 23 = .ok (.iload_n 1, 1) := by decide +kernel
theorem dX6_suits_24 : decode cX6_suits 24 = .ok (.iaload, 1) := by decide +kernel
theorem dX6_suits_25 : decode cX6_suits 25 = .ok (.if_icmp .ne 7, 3) := by decide +kernel
theorem dX6_suits_28 : decode cX6_suits 28 = .ok (.iconst 1, 1) := by decide +kernel
theorem dX6_suits_29 : decode cX6_suits 29 = .ok (.goto 22, 3) := by decide +kernel
theorem dX6_suits_32 : decode cX6_suits 32 = .ok (.iconst 0, 1) := by decide +kernel
theorem dX6_suits_33 : decode cX6_suits 33 = .ok (.goto 18, 3) := by decide +kernel
theorem dX6_suits_36 : decode cX6_suits 36 = .ok (.iload_n 2, 1) := by decide +kernel
theorem dX6_suits_37 : decode cX6_suits 37 = .ok (.aload_n 0, 1) := by decide +kernel
theorem dX6_suits_38 : decode cX6_suits 38 = .ok (.getfield 24, 3) := by decide +kernel
theorem dX6_suits_41 : decode cX6_suits 41 = .ok (.iload_n 1, 1) := by decide +kernel
theorem dX6_suits_42 : decode cX6_suits 42 = .ok (.iaload, 1) := by decide +kernel
theorem dX6_suits_43 : decode cX6_suits 43 = .ok (.if_icmp .lt 7, 3) := by decide +kernel
theorem dX6_suits_46 : decode cX6_suits 46 = .ok (.iconst 1, 1) := by decide +kernel
theorem dX6_suits_47 : decode cX6_suits 47 = .ok (.goto 4, 3) := by decide +kernel
theorem dX6_suits_50 : decode cX6_suits 50 = .ok (.iconst 0, 1) := by decide +kernel
theorem dX6_suits_51 : decode cX6_suits 51 = .ok (.ireturn, 1) := by decide +kernel
def P_X6_suits (a0 : Nat) (x1 : Int32) (x2 : Int32) : PM Int32 :=
ifB (decide (x1 < 0)) (
retZ 0) (
ifB (decide (x1 < 3)) (
getI 6 5 a0 fun v1 =>
ifB (decide (v1 = 0)) (
getR 6 3 a0 fun v2 =>
ald v2 x1 fun v3 =>
ifB (decide (x2 < v3)) (
retZ 0) (
retZ 1)) (
getR 6 3 a0 fun v4 =>
ald v4 x1 fun v5 =>
ifB (decide (¬ x2 = v5)) (
retZ 0) (
retZ 1))) (
retZ 0))
set_option maxHeartbeats 4000000 in
set_option maxRecDepth 100000 in
theorem W_X6_suits {Γ : Cx} (ok : OKc Γ cX6_suits RX6 0 "suits") (okr : OKr Γ cX6_suits (some .boolean)) (a0 : Nat) (x1 : Int32) (x2 : Int32) : SW Γ iI 0 [some (.ref a0), some (.int x1), some (.int x2)] [] (P_X6_suits a0 x1 x2) := by
  unfold P_X6_suits
  refine sw_iload_n (z := x1) (pc' := 1) ok dX6_suits_0 rfl rfl ?_
  refine sw_if_lt (tgt := 9) (pc' := 4) ok dX6_suits_1 (by decide) rfl ?_ ?_
  · refine sw_iconst (v := 0) (pc' := 10) ok dX6_suits_9 rfl cc_iconst_0 ?_
    exact sw_retZ ok okr dX6_suits_10
  refine sw_iload_n (z := x1) (pc' := 5) ok dX6_suits_4 rfl rfl ?_
  refine sw_iconst (v := 3) (pc' := 6) ok dX6_suits_5 rfl cc_iconst_3 ?_
  refine sw_icmp_lt (tgt := 11) (pc' := 9) ok dX6_suits_6 (by decide) rfl ?_ ?_
  · refine sw_aload_n (z := a0) (pc' := 12) ok dX6_suits_11 rfl rfl ?_
    refine sw_getI (pc' := 15) ok (fr_X6_31.g) dX6_suits_12 rfl (fun v1 => ?_)
    refine sw_if_eq (tgt := 36) (pc' := 18) ok dX6_suits_15 (by decide) rfl ?_ ?_
    · refine sw_iload_n (z := x2) (pc' := 37) ok dX6_suits_36 rfl rfl ?_
      refine sw_aload_n (z := a0) (pc' := 38) ok dX6_suits_37 rfl rfl ?_
      refine sw_getR (pc' := 41) ok (fr_X6_24.g) dX6_suits_38 rfl (fun v2 => ?_)
      refine sw_iload_n (z := x1) (pc' := 42) ok dX6_suits_41 rfl rfl ?_
      refine sw_ald (pc' := 43) ok dX6_suits_42 rfl (fun v3 => ?_)
      refine sw_icmp_lt (tgt := 50) (pc' := 46) ok dX6_suits_43 (by decide) rfl ?_ ?_
      · refine sw_iconst (v := 0) (pc' := 51) ok dX6_suits_50 rfl cc_iconst_0 ?_
        exact sw_retZ ok okr dX6_suits_51
      refine sw_iconst (v := 1) (pc' := 47) ok dX6_suits_46 rfl cc_iconst_1 ?_
      refine sw_goto (tgt := 51) ok dX6_suits_47 (by decide) ?_
      exact sw_retZ ok okr dX6_suits_51
    refine sw_iload_n (z := x2) (pc' := 19) ok dX6_suits_18 rfl rfl ?_
    refine sw_aload_n (z := a0) (pc' := 20) ok dX6_suits_19 rfl rfl ?_
    refine sw_getR (pc' := 23) ok (fr_X6_24.g) dX6_suits_20 rfl (fun v4 => ?_)
    refine sw_iload_n (z := x1) (pc' := 24) ok dX6_suits_23 rfl rfl ?_
    refine sw_ald (pc' := 25) ok dX6_suits_24 rfl (fun v5 => ?_)
    refine sw_icmp_ne (tgt := 32) (pc' := 28) ok dX6_suits_25 (by decide) rfl ?_ ?_
    · refine sw_iconst (v := 0) (pc' := 33) ok dX6_suits_32 rfl cc_iconst_0 ?_
      refine sw_goto (tgt := 51) ok dX6_suits_33 (by decide) ?_
      exact sw_retZ ok okr dX6_suits_51
    refine sw_iconst (v := 1) (pc' := 29) ok dX6_suits_28 rfl cc_iconst_1 ?_
    refine sw_goto (tgt := 51) ok dX6_suits_29 (by decide) ?_
    exact sw_retZ ok okr dX6_suits_51
  refine sw_iconst (v := 0) (pc' := 10) ok dX6_suits_9 rfl cc_iconst_0 ?_
  exact sw_retZ ok okr dX6_suits_10
theorem S_X6_suits (a0 : Nat) (x1 : Int32) (x2 : Int32) : Sim 0 yX6_suits cX6_suits 3 (some .boolean) iI [.ref a0, .int x1, .int x2] (P_X6_suits a0 x1 x2) := Sim.intro wd_987 (by decide) (by decide +kernel) (Nat.le_of_ble_eq_true rfl) (fun Γ ok okr => W_X6_suits ok okr a0 x1 x2)
theorem dX6_seekWays_0 : decode cX6_seekWays 0 = .ok (.iload_n 2, 1) := by decide +kernel
theorem dX6_seekWays_1 : decode cX6_seekWays 1 = .ok (.ifCond .lt 16, 3) := by decide +kernel
theorem dX6_seekWays_4 : decode cX6_seekWays 4 = .ok (.iload_n 2, 1) := by decide +kernel
theorem dX6_seekWays_5 : decode cX6_seekWays 5 = .ok (.aload_n 0, 1) := by decide +kernel
theorem dX6_seekWays_6 : decode cX6_seekWays 6 = .ok (.getfield 27, 3) := by decide +kernel
theorem dX6_seekWays_9 : decode cX6_seekWays 9 = .ok (.if_icmp .ge 8, 3) := by decide +kernel
theorem dX6_seekWays_12 : decode cX6_seekWays 12 = .ok (.iload_n 2, 1) := by decide +kernel
theorem dX6_seekWays_13 : decode cX6_seekWays 13 = .ok (.iconst 3, 1) := by decide +kernel
theorem dX6_seekWays_14 : decode cX6_seekWays 14 = .ok (.if_icmp .lt 4, 3) := by decide +kernel
theorem dX6_seekWays_17 : decode cX6_seekWays 17 = .ok (.return_, 1) := by decide +kernel
theorem dX6_seekWays_18 : decode cX6_seekWays 18 = .ok (.iconst 0, 1) := by decide +kernel
theorem dX6_seekWays_19 : decode cX6_seekWays 19 = .ok (.istore 4, 2) := by decide +kernel
theorem dX6_seekWays_21 : decode cX6_seekWays 21 = .ok (.iload 4, 2) := by decide +kernel
theorem dX6_seekWays_23 : decode cX6_seekWays 23 = .ok (.aload_n 1, 1) := by decide +kernel
theorem dX6_seekWays_24 : decode cX6_seekWays 24 = .ok (.getfield 78, 3) := by decide +kernel
theorem dX6_seekWays_27 : decode cX6_seekWays 27 = .ok (.if_icmp .ge 124, 3) := by decide +kernel
theorem dX6_seekWays_30 : decode cX6_seekWays 30 = .ok (.iload 4, 2) := by decide +kernel
theorem dX6_seekWays_32 : decode cX6_seekWays 32 = .ok (.iconst 1, 1) := by decide +kernel
theorem dX6_seekWays_33 : decode cX6_seekWays 33 = .ok (.iadd, 1) := by decide +kernel
theorem dX6_seekWays_34 : decode cX6_seekWays 34 = .ok (.istore 5, 2) := by decide +kernel
theorem dX6_seekWays_36 : decode cX6_seekWays 36 = .ok (.iload 5, 2) := by decide +kernel
theorem dX6_seekWays_38 : decode cX6_seekWays 38 = .ok (.aload_n 1, 1) := by decide +kernel
theorem dX6_seekWays_39 : decode cX6_seekWays 39 = .ok (.getfield 78, 3) := by decide +kernel
theorem dX6_seekWays_42 : decode cX6_seekWays 42 = .ok (.if_icmp .ge 103, 3) := by decide +kernel
theorem dX6_seekWays_45 : decode cX6_seekWays 45 = .ok (.aload_n 0, 1) := by decide +kernel
theorem dX6_seekWays_46 : decode cX6_seekWays 46 = .ok (.iload_n 2, 1) := by decide +kernel
theorem dX6_seekWays_47 : decode cX6_seekWays 47 = .ok (.aload_n 0, 1) := by decide +kernel
theorem dX6_seekWays_48 : decode cX6_seekWays 48 = .ok (.getfield 11, 3) := by decide +kernel
theorem dX6_seekWays_51 : decode cX6_seekWays 51 = .ok (.iload_n 2, 1) := by decide +kernel
theorem dX6_seekWays_52 : decode cX6_seekWays 52 = .ok (.aaload, 1) := by decide +kernel
theorem dX6_seekWays_53 : decode cX6_seekWays 53 = .ok (.aload_n 1, 1) := by decide +kernel
theorem dX6_seekWays_54 : decode cX6_seekWays 54 = .ok (.iload 4, 2) := by decide +kernel
theorem dX6_seekWays_56 : decode cX6_seekWays 56 = .ok (.iload 5, 2) := by decide +kernel
theorem dX6_seekWays_58 : decode cX6_seekWays 58 = .ok (.invokevirtual 91, 3) := by decide +kernel
theorem dX6_seekWays_61 : decode cX6_seekWays 61 = .ok (.invokevirtual 114, 3) := by decide +kernel
theorem dX6_seekWays_64 : decode cX6_seekWays 64 = .ok (.ifCond .ne 6, 3) := by decide +kernel
theorem dX6_seekWays_67 : decode cX6_seekWays 67 = .ok (.goto 72, 3) := by decide +kernel
theorem dX6_seekWays_70 : decode cX6_seekWays 70 = .ok (.aload_n 0, 1) := by decide +kernel
theorem dX6_seekWays_71 : decode cX6_seekWays 71 = .ok (.getfield 17, 3) := by decide +kernel
theorem dX6_seekWays_74 : decode cX6_seekWays 74 = .ok (.iload_n 2, 1) := by decide +kernel
theorem dX6_seekWays_75 : decode cX6_seekWays 75 = .ok (.bipush 10, 2) := by decide +kernel
theorem dX6_seekWays_77 : decode cX6_seekWays 77 = .ok (.iload 4, 2) := by decide +kernel
theorem dX6_seekWays_79 : decode cX6_seekWays 79 = .ok (.imul, 1) := by decide +kernel
theorem dX6_seekWays_80 : decode cX6_seekWays 80 = .ok (.iload 5, 2) := by decide +kernel
theorem dX6_seekWays_82 : decode cX6_seekWays 82 = .ok (.iadd, 1) := by decide +kernel
theorem dX6_seekWays_83 : decode cX6_seekWays 83 = .ok (.iastore, 1) := by decide +kernel
theorem dX6_seekWays_84 : decode cX6_seekWays 84 = .ok (.iload_n 3, 1) := by decide +kernel
theorem dX6_seekWays_85 : decode cX6_seekWays 85 = .ok (.iconst 1, 1) := by decide +kernel
theorem dX6_seekWays_86 : decode cX6_seekWays 86 = .ok (.iload 4, 2) := by decide +kernel
theorem dX6_seekWays_88 : decode cX6_seekWays 88 = .ok (.ishl, 1) := by decide +kernel
theorem dX6_seekWays_89 : decode cX6_seekWays 89 = .ok (.ior, 1) := by decide +kernel
theorem dX6_seekWays_90 : decode cX6_seekWays 90 = .ok (.iconst 1, 1) := by decide +kernel
theorem dX6_seekWays_91 : decode cX6_seekWays 91 = .ok (.iload 5, 2) := by decide +kernel
theorem dX6_seekWays_93 : decode cX6_seekWays 93 = .ok (.ishl, 1) := by decide +kernel
theorem dX6_seekWays_94 : decode cX6_seekWays 94 = .ok (.ior, 1) := by decide +kernel
theorem dX6_seekWays_95 : decode cX6_seekWays 95 = .ok (.istore 6, 2) := by decide +kernel
theorem dX6_seekWays_97 : decode cX6_seekWays 97 = .ok (.iload_n 2, 1) := by decide +kernel
theorem dX6_seekWays_98 : decode cX6_seekWays 98 = .ok (.iconst 1, 1) := by decide +kernel
theorem dX6_seekWays_99 : decode cX6_seekWays 99 = .ok (.iadd, 1) := by decide +kernel
theorem dX6_seekWays_100 : decode cX6_seekWays 100 = .ok (.aload_n 0, 1) := by decide +kernel
theorem dX6_seekWays_101 : decode cX6_seekWays 101 = .ok (.getfield 27, 3) := by decide +kernel
theorem dX6_seekWays_104 : decode cX6_seekWays 104 = .ok (.if_icmp .ge 29, 3) := by decide +kernel
theorem dX6_seekWays_107 : decode cX6_seekWays 107 = .ok (.aload_n 0, 1) := by decide +kernel
theorem dX6_seekWays_108 : decode cX6_seekWays 108 = .ok (.iload_n 2, 1) := by decide +kernel
theorem dX6_seekWays_109 : decode cX6_seekWays 109 = .ok (.invokevirtual 83, 3) := by decide +kernel
theorem dX6_seekWays_112 : decode cX6_seekWays 112 = .ok (.aload_n 1, 1) := by decide +kernel
theorem dX6_seekWays_113 : decode cX6_seekWays 113 = .ok (.iload 4, 2) := by decide +kernel
theorem dX6_seekWays_115 : decode cX6_seekWays 115 = .ok (.iload 5, 2) := by decide +kernel
theorem dX6_seekWays_117 : decode cX6_seekWays 117 = .ok (.invokevirtual 87, 3) := by decide +kernel
theorem dX6_seekWays_120 : decode cX6_seekWays 120 = .ok (.aload_n 0, 1) := by decide +kernel
theorem dX6_seekWays_121 : decode cX6_seekWays 121 = .ok (.aload_n 1, 1) := by decide +kernel
theorem dX6_seekWays_122 : decode cX6_seekWays 122 = .ok (.iload_n 2, 1) := by decide +kernel
theorem dX6_seekWays_123 : decode cX6_seekWays 123 = .ok (.iconst 1, 1) := by decide +kernel
theorem dX6_seekWays_124 : decode cX6_seekWays 124 = .ok (.iadd, 1) := by decide +kernel
theorem dX6_seekWays_125 : decode cX6_seekWays 125 = .ok (.iload 6, 2) := by decide +kernel
theorem dX6_seekWays_127 : decode cX6_seekWays 127 = .ok (.invokestatic 110, 3) := by decide +kernel
theorem dX6_seekWays_130 : decode cX6_seekWays 130 = .ok (.goto 9, 3) := by decide +kernel
theorem dX6_seekWays_133 : decode cX6_seekWays 133 = .ok (.aload_n 0, 1) := by decide +kernel
theorem dX6_seekWays_134 : decode cX6_seekWays 134 = .ok (.iload 6, 2) := by decide +kernel
theorem dX6_seekWays_136 : decode cX6_seekWays 136 = .ok (.invokevirtual 118, 3) := by decide +kernel
theorem dX6_seekWays_139 : decode cX6_seekWays 139 = .ok (.iinc 5 1, 3) := by decide +kernel
theorem dX6_seekWays_142 : decode cX6_seekWays 142 = .ok (.goto (-106), 3) := by decide +kernel
theorem dX6_seekWays_145 : decode cX6_seekWays 145 = .ok (.iinc 4 1, 3) := by decide +kernel
theorem dX6_seekWays_148 : decode cX6_seekWays 148 = .ok (.goto (-127), 3) := by decide +kernel
theorem dX6_seekWays_151 : decode cX6_seekWays 151 = .ok (.return_, 1) := by decide +kernel
def P_X6_seekWays_36 (REC : Nat → Nat → Int32 → Int32 → PM Unit) (k_145 : PM Unit) (p0 : Nat) (p1 : Nat) (p2 : Int32) (p3 : Int32) (p4 : Int32) : Nat → Int32 → PM Unit
  | 0, _ => failM
  | n + 1, q5 =>
    getI 0 4 p1 fun v4 =>
    ifB (decide (v4 ≤ q5)) (
    k_145) (
    getR 6 0 p0 fun v5 =>
    aldR v5 p2 fun v6 =>
    cllV 1 v6 (P_X1_behind v6 p1 p4 q5) fun v7 =>
    cllV 6 p0 (P_X6_suits p0 p2 v7) fun v8 =>
    jn (
    P_X6_seekWays_36 REC k_145 p0 p1 p2 p3 p4 n (q5 + 1)) fun k9 =>
    ifB (decide (¬ v8 = 0)) (
    getR 6 1 p0 fun v10 =>
    ast v10 p2 ((10 * p4) + q5) <|
    getI 6 4 p0 fun v11 =>
    ifB (decide (v11 ≤ (p2 + 1))) (
    cllV 6 p0 (P_X6_noteWay p0 ((p3 ||| (1 <<< (p4 &&& 31))) ||| (1 <<< (q5 &&& 31)))) fun _ =>
    k9) (
    cllV 6 p0 (P_X6_copyDeeper p0 p2) fun v12 =>
    cllV 1 v12 (P_X1_passWatch v12 p1 p4 q5) fun _ =>
    cll0 (REC p0 p1 (p2 + 1) ((p3 ||| (1 <<< (p4 &&& 31))) ||| (1 <<< (q5 &&& 31)))) fun _ =>
    k9)) (
    k9))
def P_X6_seekWays_21 (REC : Nat → Nat → Int32 → Int32 → PM Unit) (p0 : Nat) (p1 : Nat) (p2 : Int32) (p3 : Int32) : Nat → Int32 → PM Unit
  | 0, _ => failM
  | n + 1, q4 =>
    getI 0 4 p1 fun v2 =>
    ifB (decide (v2 ≤ q4)) (
    pureM ()) (
    jn (
    P_X6_seekWays_21 REC p0 p1 p2 p3 n (q4 + 1)) fun k3 =>
    P_X6_seekWays_36 REC k3 p0 p1 p2 p3 q4 4000 (q4 + 1))
def P_X6_seekWays : Nat → Nat → Nat → Int32 → Int32 → PM Unit
  | 0, _, _, _, _ => failM
  | n + 1, a0, a1, x2, x3 =>
    ifB (decide (x2 < 0)) (
    pureM ()) (
    getI 6 4 a0 fun v1 =>
    ifB (decide (v1 ≤ x2)) (
    pureM ()) (
    ifB (decide (x2 < 3)) (
    P_X6_seekWays_21 (P_X6_seekWays n) a0 a1 x2 x3 4000 0) (
    pureM ())))
set_option maxHeartbeats 4000000 in
set_option maxRecDepth 100000 in
theorem W_X6_seekWays_36 {Γ : Cx} {d0 : Nat} (ok : OKc Γ cX6_seekWays RX6 (d0 + 1 + 4) "seekWays") (okr : OKr Γ cX6_seekWays (none)) (REC : Nat → Nat → Int32 → Int32 → PM Unit) (hREC : ∀ (a0 : Nat) (a1 : Nat) (x2 : Int32) (x3 : Int32), Sim (d0 + 4) yX6_seekWays cX6_seekWays 7 (none) iU [.ref a0, .ref a1, .int x2, .int x3] (REC a0 a1 x2 x3)) (k_145 : PM Unit) (p0 : Nat) (p1 : Nat) (p2 : Int32) (p3 : Int32) (p4 : Int32) (hk_145 : SW Γ iU 145 [some (.ref p0), some (.ref p1), some (.int p2), some (.int p3), some (.int p4), none, none] [] (k_145)) : ∀ (n : Nat) (q5 : Int32), SW Γ iU 36 [some (.ref p0), some (.ref p1), some (.int p2), some (.int p3), some (.int p4), some (.int q5), none] [] (P_X6_seekWays_36 REC k_145 p0 p1 p2 p3 p4 n q5) := by
  intro n
  induction n with
  | zero =>
    intros
    exact sw_fail
  | succ n ih =>
    intro q5
    unfold P_X6_seekWays_36
    refine sw_iload (z := q5) (pc' := 38) ok dX6_seekWays_36 rfl rfl ?_
    refine sw_aload_n (z := p1) (pc' := 39) ok dX6_seekWays_38 rfl rfl ?_
    refine sw_getI (pc' := 42) ok (fr_X6_78.g) dX6_seekWays_39 rfl (fun v4 => ?_)
    refine sw_icmp_ge (tgt := 145) (pc' := 45) ok dX6_seekWays_42 (by decide) rfl ?_ ?_
    · refine sw_fg (l' := [some (.ref p0), some (.ref p1), some (.int p2), some (.int p3), some (.int p4), none, none]) [true, true, true, true, true, false, false] rfl ?_
      exact hk_145
    refine sw_aload_n (z := p0) (pc' := 46) ok dX6_seekWays_45 rfl rfl ?_
    refine sw_iload_n (z := p2) (pc' := 47) ok dX6_seekWays_46 rfl rfl ?_
    refine sw_aload_n (z := p0) (pc' := 48) ok dX6_seekWays_47 rfl rfl ?_
    refine sw_getR (pc' := 51) ok (fr_X6_11.g) dX6_seekWays_48 rfl (fun v5 => ?_)
    refine sw_iload_n (z := p2) (pc' := 52) ok dX6_seekWays_51 rfl rfl ?_
    refine sw_aldR (pc' := 53) ok dX6_seekWays_52 rfl (fun v6 => ?_)
    refine sw_aload_n (z := p1) (pc' := 54) ok dX6_seekWays_53 rfl rfl ?_
    refine sw_iload (z := p4) (pc' := 56) ok dX6_seekWays_54 rfl rfl ?_
    refine sw_iload (z := q5) (pc' := 58) ok dX6_seekWays_56 rfl rfl ?_
    refine sw_cllV_I (st := [.int p2, .ref p0]) (as := [.ref p1, .int p4, .int q5]) (pc' := 61) ok (S_X1_behind v6 p1 p4 q5) (by omega) lk_X6_91 rfl dX6_seekWays_58 rfl (Nat.le_of_ble_eq_true rfl) rfl (fun v7 => ?_)
    refine sw_cllV_I (st := []) (as := [.int p2, .int v7]) (pc' := 64) ok (S_X6_suits p0 p2 v7) (by omega) lk_X6_114 rfl dX6_seekWays_61 rfl (Nat.le_of_ble_eq_true rfl) rfl (fun v8 => ?_)
    refine sw_jn (fun k9 : PM Unit => SW Γ iU 139 [some (.ref p0), some (.ref p1), some (.int p2), some (.int p3), some (.int p4), some (.int q5), none] [] (k9)) ?_ (fun k9 hk9 => ?_)
    · refine sw_iinc (z := q5) (v := q5 + 1) (pc' := 142) (l' := [some (.ref p0), some (.ref p1), some (.int p2), some (.int p3), some (.int p4), some (.int (q5 + 1)), none]) ok dX6_seekWays_139 rfl rfl (by rw [cc_iconst_1]) rfl ?_
      refine sw_goto (tgt := 36) ok dX6_seekWays_142 (by decide) ?_
      exact ih (q5 + 1)
    refine sw_if_ne (tgt := 70) (pc' := 67) ok dX6_seekWays_64 (by decide) rfl ?_ ?_
    · refine sw_aload_n (z := p0) (pc' := 71) ok dX6_seekWays_70 rfl rfl ?_
      refine sw_getR (pc' := 74) ok (fr_X6_17.g) dX6_seekWays_71 rfl (fun v10 => ?_)
      refine sw_iload_n (z := p2) (pc' := 75) ok dX6_seekWays_74 rfl rfl ?_
      refine sw_bipush (v := 10) (pc' := 77) ok dX6_seekWays_75 rfl cc_bipush_10 ?_
      refine sw_iload (z := p4) (pc' := 79) ok dX6_seekWays_77 rfl rfl ?_
      refine sw_imul (pc' := 80) ok dX6_seekWays_79 rfl ?_
      refine sw_iload (z := q5) (pc' := 82) ok dX6_seekWays_80 rfl rfl ?_
      refine sw_iadd (pc' := 83) ok dX6_seekWays_82 rfl ?_
      refine sw_ast (pc' := 84) ok dX6_seekWays_83 rfl ?_
      refine sw_iload_n (z := p3) (pc' := 85) ok dX6_seekWays_84 rfl rfl ?_
      refine sw_iconst (v := 1) (pc' := 86) ok dX6_seekWays_85 rfl cc_iconst_1 ?_
      refine sw_iload (z := p4) (pc' := 88) ok dX6_seekWays_86 rfl rfl ?_
      refine sw_ishl (pc' := 89) ok dX6_seekWays_88 rfl ?_
      refine sw_ior (pc' := 90) ok dX6_seekWays_89 rfl ?_
      refine sw_iconst (v := 1) (pc' := 91) ok dX6_seekWays_90 rfl cc_iconst_1 ?_
      refine sw_iload (z := q5) (pc' := 93) ok dX6_seekWays_91 rfl rfl ?_
      refine sw_ishl (pc' := 94) ok dX6_seekWays_93 rfl ?_
      refine sw_ior (pc' := 95) ok dX6_seekWays_94 rfl ?_
      refine sw_istore (pc' := 97) (l' := [some (.ref p0), some (.ref p1), some (.int p2), some (.int p3), some (.int p4), some (.int q5), some (.int ((p3 ||| (1 <<< (p4 &&& 31))) ||| (1 <<< (q5 &&& 31))))]) ok dX6_seekWays_95 rfl (Nat.le_of_ble_eq_true rfl) rfl ?_
      refine sw_iload_n (z := p2) (pc' := 98) ok dX6_seekWays_97 rfl rfl ?_
      refine sw_iconst (v := 1) (pc' := 99) ok dX6_seekWays_98 rfl cc_iconst_1 ?_
      refine sw_iadd (pc' := 100) ok dX6_seekWays_99 rfl ?_
      refine sw_aload_n (z := p0) (pc' := 101) ok dX6_seekWays_100 rfl rfl ?_
      refine sw_getI (pc' := 104) ok (fr_X6_27.g) dX6_seekWays_101 rfl (fun v11 => ?_)
      refine sw_icmp_ge (tgt := 133) (pc' := 107) ok dX6_seekWays_104 (by decide) rfl ?_ ?_
      · refine sw_aload_n (z := p0) (pc' := 134) ok dX6_seekWays_133 rfl rfl ?_
        refine sw_iload (z := ((p3 ||| (1 <<< (p4 &&& 31))) ||| (1 <<< (q5 &&& 31)))) (pc' := 136) ok dX6_seekWays_134 rfl rfl ?_
        refine sw_cllV_U (st := []) (as := [.int ((p3 ||| (1 <<< (p4 &&& 31))) ||| (1 <<< (q5 &&& 31)))]) (pc' := 139) ok (S_X6_noteWay p0 ((p3 ||| (1 <<< (p4 &&& 31))) ||| (1 <<< (q5 &&& 31)))) (by omega) lk_X6_118 rfl dX6_seekWays_136 rfl (Nat.le_of_ble_eq_true rfl) rfl (fun _ => ?_)
        refine sw_fg (l' := [some (.ref p0), some (.ref p1), some (.int p2), some (.int p3), some (.int p4), some (.int q5), none]) [true, true, true, true, true, true, false] rfl ?_
        exact hk9
      refine sw_aload_n (z := p0) (pc' := 108) ok dX6_seekWays_107 rfl rfl ?_
      refine sw_iload_n (z := p2) (pc' := 109) ok dX6_seekWays_108 rfl rfl ?_
      refine sw_cllV_R (st := []) (as := [.int p2]) (pc' := 112) ok (S_X6_copyDeeper p0 p2) (by omega) lk_X6_83 rfl dX6_seekWays_109 rfl (Nat.le_of_ble_eq_true rfl) rfl (fun v12 => ?_)
      refine sw_aload_n (z := p1) (pc' := 113) ok dX6_seekWays_112 rfl rfl ?_
      refine sw_iload (z := p4) (pc' := 115) ok dX6_seekWays_113 rfl rfl ?_
      refine sw_iload (z := q5) (pc' := 117) ok dX6_seekWays_115 rfl rfl ?_
      refine sw_cllV_U (st := []) (as := [.ref p1, .int p4, .int q5]) (pc' := 120) ok (S_X1_passWatch v12 p1 p4 q5) (by omega) lk_X6_87 rfl dX6_seekWays_117 rfl (Nat.le_of_ble_eq_true rfl) rfl (fun _ => ?_)
      refine sw_aload_n (z := p0) (pc' := 121) ok dX6_seekWays_120 rfl rfl ?_
      refine sw_aload_n (z := p1) (pc' := 122) ok dX6_seekWays_121 rfl rfl ?_
      refine sw_iload_n (z := p2) (pc' := 123) ok dX6_seekWays_122 rfl rfl ?_
      refine sw_iconst (v := 1) (pc' := 124) ok dX6_seekWays_123 rfl cc_iconst_1 ?_
      refine sw_iadd (pc' := 125) ok dX6_seekWays_124 rfl ?_
      refine sw_iload (z := ((p3 ||| (1 <<< (p4 &&& 31))) ||| (1 <<< (q5 &&& 31)))) (pc' := 127) ok dX6_seekWays_125 rfl rfl ?_
      refine sw_cll0_U (st := []) (as := [.ref p0, .ref p1, .int (p2 + 1), .int ((p3 ||| (1 <<< (p4 &&& 31))) ||| (1 <<< (q5 &&& 31)))]) (pc' := 130) ok (hREC p0 p1 (p2 + 1) ((p3 ||| (1 <<< (p4 &&& 31))) ||| (1 <<< (q5 &&& 31)))) (by omega) lk_X6_110 rfl dX6_seekWays_127 rfl (Nat.le_of_ble_eq_true rfl) rfl (fun _ => ?_)
      refine sw_goto (tgt := 139) ok dX6_seekWays_130 (by decide) ?_
      refine sw_fg (l' := [some (.ref p0), some (.ref p1), some (.int p2), some (.int p3), some (.int p4), some (.int q5), none]) [true, true, true, true, true, true, false] rfl ?_
      exact hk9
    refine sw_goto (tgt := 139) ok dX6_seekWays_67 (by decide) ?_
    exact hk9
set_option maxHeartbeats 4000000 in
set_option maxRecDepth 100000 in
theorem W_X6_seekWays_21 {Γ : Cx} {d0 : Nat} (ok : OKc Γ cX6_seekWays RX6 (d0 + 1 + 4) "seekWays") (okr : OKr Γ cX6_seekWays (none)) (REC : Nat → Nat → Int32 → Int32 → PM Unit) (hREC : ∀ (a0 : Nat) (a1 : Nat) (x2 : Int32) (x3 : Int32), Sim (d0 + 4) yX6_seekWays cX6_seekWays 7 (none) iU [.ref a0, .ref a1, .int x2, .int x3] (REC a0 a1 x2 x3)) (p0 : Nat) (p1 : Nat) (p2 : Int32) (p3 : Int32) : ∀ (n : Nat) (q4 : Int32), SW Γ iU 21 [some (.ref p0), some (.ref p1), some (.int p2), some (.int p3), some (.int q4), none, none] [] (P_X6_seekWays_21 REC p0 p1 p2 p3 n q4) := by
  intro n
  induction n with
  | zero =>
    intros
    exact sw_fail
  | succ n ih =>
    intro q4
    unfold P_X6_seekWays_21
    refine sw_iload (z := q4) (pc' := 23) ok dX6_seekWays_21 rfl rfl ?_
    refine sw_aload_n (z := p1) (pc' := 24) ok dX6_seekWays_23 rfl rfl ?_
    refine sw_getI (pc' := 27) ok (fr_X6_78.g) dX6_seekWays_24 rfl (fun v2 => ?_)
    refine sw_icmp_ge (tgt := 151) (pc' := 30) ok dX6_seekWays_27 (by decide) rfl ?_ ?_
    · exact sw_ret ok okr dX6_seekWays_151 trivial rfl
    refine sw_iload (z := q4) (pc' := 32) ok dX6_seekWays_30 rfl rfl ?_
    refine sw_iconst (v := 1) (pc' := 33) ok dX6_seekWays_32 rfl cc_iconst_1 ?_
    refine sw_iadd (pc' := 34) ok dX6_seekWays_33 rfl ?_
    refine sw_istore (pc' := 36) (l' := [some (.ref p0), some (.ref p1), some (.int p2), some (.int p3), some (.int q4), some (.int (q4 + 1)), none]) ok dX6_seekWays_34 rfl (Nat.le_of_ble_eq_true rfl) rfl ?_
    refine sw_jn (fun k3 : PM Unit => SW Γ iU 145 [some (.ref p0), some (.ref p1), some (.int p2), some (.int p3), some (.int q4), none, none] [] (k3)) ?_ (fun k3 hk3 => ?_)
    · refine sw_iinc (z := q4) (v := q4 + 1) (pc' := 148) (l' := [some (.ref p0), some (.ref p1), some (.int p2), some (.int p3), some (.int (q4 + 1)), none, none]) ok dX6_seekWays_145 rfl rfl (by rw [cc_iconst_1]) rfl ?_
      refine sw_goto (tgt := 21) ok dX6_seekWays_148 (by decide) ?_
      exact ih (q4 + 1)
    exact W_X6_seekWays_36 ok okr REC hREC k3 p0 p1 p2 p3 q4 hk3 4000 (q4 + 1)
set_option maxHeartbeats 4000000 in
set_option maxRecDepth 100000 in
theorem W_X6_seekWays {Γ : Cx} {d0 : Nat} (ok : OKc Γ cX6_seekWays RX6 (d0 + 1 + 4) "seekWays") (okr : OKr Γ cX6_seekWays (none)) (n : Nat) (hREC : ∀ (a0 : Nat) (a1 : Nat) (x2 : Int32) (x3 : Int32), Sim (d0 + 4) yX6_seekWays cX6_seekWays 7 (none) iU [.ref a0, .ref a1, .int x2, .int x3] (P_X6_seekWays n a0 a1 x2 x3)) (a0 : Nat) (a1 : Nat) (x2 : Int32) (x3 : Int32) : SW Γ iU 0 [some (.ref a0), some (.ref a1), some (.int x2), some (.int x3), none, none, none] [] (P_X6_seekWays (n + 1) a0 a1 x2 x3) := by
  unfold P_X6_seekWays
  refine sw_iload_n (z := x2) (pc' := 1) ok dX6_seekWays_0 rfl rfl ?_
  refine sw_if_lt (tgt := 17) (pc' := 4) ok dX6_seekWays_1 (by decide) rfl ?_ ?_
  · exact sw_ret ok okr dX6_seekWays_17 trivial rfl
  refine sw_iload_n (z := x2) (pc' := 5) ok dX6_seekWays_4 rfl rfl ?_
  refine sw_aload_n (z := a0) (pc' := 6) ok dX6_seekWays_5 rfl rfl ?_
  refine sw_getI (pc' := 9) ok (fr_X6_27.g) dX6_seekWays_6 rfl (fun v1 => ?_)
  refine sw_icmp_ge (tgt := 17) (pc' := 12) ok dX6_seekWays_9 (by decide) rfl ?_ ?_
  · exact sw_ret ok okr dX6_seekWays_17 trivial rfl
  refine sw_iload_n (z := x2) (pc' := 13) ok dX6_seekWays_12 rfl rfl ?_
  refine sw_iconst (v := 3) (pc' := 14) ok dX6_seekWays_13 rfl cc_iconst_3 ?_
  refine sw_icmp_lt (tgt := 18) (pc' := 17) ok dX6_seekWays_14 (by decide) rfl ?_ ?_
  · refine sw_iconst (v := 0) (pc' := 19) ok dX6_seekWays_18 rfl cc_iconst_0 ?_
    refine sw_istore (pc' := 21) (l' := [some (.ref a0), some (.ref a1), some (.int x2), some (.int x3), some (.int 0), none, none]) ok dX6_seekWays_19 rfl (Nat.le_of_ble_eq_true rfl) rfl ?_
    exact W_X6_seekWays_21 ok okr (P_X6_seekWays n) hREC a0 a1 x2 x3 4000 0
  exact sw_ret ok okr dX6_seekWays_17 trivial rfl
theorem S_X6_seekWays : ∀ (n : Nat) (a0 : Nat) (a1 : Nat) (x2 : Int32) (x3 : Int32), Sim (n + 4) yX6_seekWays cX6_seekWays 7 (none) iU [.ref a0, .ref a1, .int x2, .int x3] (P_X6_seekWays n a0 a1 x2 x3) := by
  intro n
  induction n with
  | zero =>
    intros
    exact ⟨wd_988, by decide, fun _ _ _ _ _ h => by cases h⟩
  | succ n ih =>
    intro a0 a1 x2 x3
    have hd : n + 1 + 4 = n + 1 + 4 := rfl
    exact Sim.intro wd_988 (by decide) (by decide +kernel) (Nat.le_of_ble_eq_true rfl) (fun Γ ok okr => W_X6_seekWays (d0 := n) ok okr n ih a0 a1 x2 x3)
