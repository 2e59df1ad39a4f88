/-! Programs and walks, printed by program (gen.py). -/
theorem dX1_pairTells_0 : decode cX1_pairTells 0 = .ok (.aload_n 1, 1) := by decide +kernel
theorem dX1_pairTells_1 : decode cX1_pairTells 1 = .ok (.iload_n 2, 1) := by decide +kernel
theorem dX1_pairTells_2 : decode cX1_pairTells 2 = .ok (.iload_n 3, 1) := by decide +kernel
theorem dX1_pairTells_3 : decode cX1_pairTells 3 = .ok (.invokevirtual 44, 3) := by decide +kernel
theorem dX1_pairTells_6 : decode cX1_pairTells 6 = .ok (.ifCond .ne 5, 3) := by decide +kernel
theorem dX1_pairTells_9 : decode cX1_pairTells 9 = .ok (.iconst 0, 1) := by decide +kernel
theorem dX1_pairTells_10 : decode cX1_pairTells 10 = .ok (.ireturn, 1) := by decide +kernel
theorem dX1_pairTells_11 : decode cX1_pairTells 11 = .ok (.aload_n 0, 1) := by decide +kernel
theorem dX1_pairTells_12 : decode cX1_pairTells 12 = .ok (.aload_n 1, 1) := by decide +kernel
theorem dX1_pairTells_13 : decode cX1_pairTells 13 = .ok (.iload_n 2, 1) := by decide +kernel
theorem dX1_pairTells_14 : decode cX1_pairTells 14 = .ok (.iload_n 3, 1) := by decide +kernel
theorem dX1_pairTells_15 : decode cX1_pairTells 15 = .ok (.invokevirtual 48, 3) := by decide +kernel
theorem dX1_pairTells_18 : decode cX1_pairTells 18 = .ok (.istore 4, 2) := by decide +kernel
theorem dX1_pairTells_20 : decode cX1_pairTells 20 = .ok (.aload_n 1, 1) := by decide +kernel
theorem dX1_pairTells_21 : decode cX1_pairTells 21 = .ok (.getfield 52, 3) := by decide +kernel
theorem dX1_pairTells_24 : decode cX1_pairTells 24 = .ok (.iload_n 2, 1) := by decide +kernel
theorem dX1_pairTells_25 : decode cX1_pairTells 25 = .ok (.iaload, 1) := by decide +kernel
theorem dX1_pairTells_26 : decode cX1_pairTells 26 = .ok (.iconst 4, 1) := by decide +kernel
theorem dX1_pairTells_27 : decode cX1_pairTells 27 = .ok (.if_icmp .eq 13, 3) := by decide +kernel
theorem dX1_pairTells_30 : decode cX1_pairTells 30 = .ok (.aload_n 1, 1) := by decide +kernel
theorem dX1_pairTells_31 : decode cX1_pairTells 31 = .ok (.getfield 52, 3) := by decide +kernel
theorem dX1_pairTells_34 : decode cX1_pairTells 34 = .ok (.iload_n 3, 1) := by decide +kernel
theorem dX1_pairTells_35 : decode cX1_pairTells 35 = .ok (.iaload, 1) := by decide +kernel
theorem dX1_pairTells_36 : decode cX1_pairTells 36 = .ok (.iconst 4, 1) := by decide +kernel
theorem dX1_pairTells_37 : decode cX1_pairTells 37 = .ok (.if_icmp .ne 7, 3) := by decide +kernel
theorem dX1_pairTells_40 : decode cX1_pairTells 40 = .ok (.iconst 1, 1) := by decide +kernel
theorem dX1_pairTells_41 : decode cX1_pairTells 41 = .ok (.goto 4, 3) := by decide +kernel
theorem dX1_pairTells_44 : decode cX1_pairTells 44 = .ok (.iconst 0, 1) := by decide +kernel
theorem dX1_pairTells_45 : decode cX1_pairTells 45 = .ok (.istore 5, 2) := by decide +kernel
theorem dX1_pairTells_47 : decode cX1_pairTells 47 = .ok (.iconst 0, 1) := by decide +kernel
theorem dX1_pairTells_48 : decode cX1_pairTells 48 = .ok (.iload 5, 2) := by decide +kernel
theorem dX1_pairTells_50 : decode cX1_pairTells 50 = .ok (.ifCond .eq 10, 3) := by decide +kernel
theorem dX1_pairTells_53 : decode cX1_pairTells 53 = .ok (.iload 4, 2) := by decide +kernel
theorem dX1_pairTells_55 : decode cX1_pairTells 55 = .ok (.iconst 2, 1) := by decide +kernel
theorem dX1_pairTells_56 : decode cX1_pairTells 56 = .ok (.idiv, 1) := by decide +kernel
theorem dX1_pairTells_57 : decode cX1_pairTells 57 = .ok (.goto 5, 3) := by decide +kernel
theorem dX1_pairTells_60 : decode cX1_pairTells 60 = .ok (.iload 4, 2) := by decide +kernel
theorem dX1_pairTells_62 : decode cX1_pairTells 62 = .ok (.invokestatic 55, 3) := by decide +kernel
theorem dX1_pairTells_65 : decode cX1_pairTells 65 = .ok (.ireturn, 1) := by decide +kernel
def P_X1_pairTells (a0 : Nat) (a1 : Nat) (x2 : Int32) (x3 : Int32) : PM Int32 :=
cllV 0 a1 (P_X0_isPair a1 x2 x3) fun v1 =>
ifB (decide (¬ v1 = 0)) (
cllV 1 a0 (P_X1_pairMeans a0 a1 x2 x3) fun v2 =>
getR 0 0 a1 fun v3 =>
ald v3 x2 fun v4 =>
jn (fun (j5 : Int32) =>
jn (fun (j6 : Int32) (j7 : Int32) =>
cll0 (P_J9_max_7cf53 j6 j7) fun v8 =>
pureM v8) fun k9 =>
ifB (decide (j5 = 0)) (
k9 0 v2) (
divI v2 2 fun v10 =>
k9 0 v10)) fun k11 =>
jn (
k11 1) fun k12 =>
ifB (decide (v4 = 4)) (
k12) (
getR 0 0 a1 fun v13 =>
ald v13 x3 fun v14 =>
ifB (decide (¬ v14 = 4)) (
k11 0) (
k12))) (
pureM 0)
set_option maxHeartbeats 4000000 in
set_option maxRecDepth 100000 in
theorem W_X1_pairTells {Γ : Cx} (ok : OKc Γ cX1_pairTells RX1 2 "pairTells") (okr : OKr Γ cX1_pairTells (some .int)) (a0 : Nat) (a1 : Nat) (x2 : Int32) (x3 : Int32) : SW Γ iI 0 [some (.ref a0), some (.ref a1), some (.int x2), some (.int x3), none, none] [] (P_X1_pairTells a0 a1 x2 x3) := by
  unfold P_X1_pairTells
  refine sw_aload_n (z := a1) (pc' := 1) ok dX1_pairTells_0 rfl rfl ?_
  refine sw_iload_n (z := x2) (pc' := 2) ok dX1_pairTells_1 rfl rfl ?_
  refine sw_iload_n (z := x3) (pc' := 3) ok dX1_pairTells_2 rfl rfl ?_
  refine sw_cllV_I (st := []) (as := [.int x2, .int x3]) (pc' := 6) ok (S_X0_isPair a1 x2 x3) (by decide) lk_X1_44 rfl dX1_pairTells_3 rfl (Nat.le_of_ble_eq_true rfl) rfl (fun v1 => ?_)
  refine sw_if_ne (tgt := 11) (pc' := 9) ok dX1_pairTells_6 (by decide) rfl ?_ ?_
  · refine sw_aload_n (z := a0) (pc' := 12) ok dX1_pairTells_11 rfl rfl ?_
    refine sw_aload_n (z := a1) (pc' := 13) ok dX1_pairTells_12 rfl rfl ?_
    refine sw_iload_n (z := x2) (pc' := 14) ok dX1_pairTells_13 rfl rfl ?_
    refine sw_iload_n (z := x3) (pc' := 15) ok dX1_pairTells_14 rfl rfl ?_
    refine sw_cllV_I (st := []) (as := [.ref a1, .int x2, .int x3]) (pc' := 18) ok (S_X1_pairMeans a0 a1 x2 x3) (by decide) lk_X1_48 rfl dX1_pairTells_15 rfl (Nat.le_of_ble_eq_true rfl) rfl (fun v2 => ?_)
    refine sw_istore (pc' := 20) (l' := [some (.ref a0), some (.ref a1), some (.int x2), some (.int x3), some (.int v2), none]) ok dX1_pairTells_18 rfl (Nat.le_of_ble_eq_true rfl) rfl ?_
    refine sw_aload_n (z := a1) (pc' := 21) ok dX1_pairTells_20 rfl rfl ?_
    refine sw_getR (pc' := 24) ok (fr_X1_52) dX1_pairTells_21 rfl (fun v3 => ?_)
    refine sw_iload_n (z := x2) (pc' := 25) ok dX1_pairTells_24 rfl rfl ?_
    refine sw_ald (pc' := 26) ok dX1_pairTells_25 rfl (fun v4 => ?_)
    refine sw_iconst (v := 4) (pc' := 27) ok dX1_pairTells_26 rfl cc_iconst_4 ?_
    refine sw_jn (fun k11 : Int32 → PM Int32 => ∀ (j5 : Int32), SW Γ iI 45 [none, none, none, none, some (.int v2), none] [.int j5] (k11 j5)) ?_ (fun k11 hk11 => ?_)
    · intro j5
      refine sw_istore (pc' := 47) (l' := [none, none, none, none, some (.int v2), some (.int j5)]) ok dX1_pairTells_45 rfl (Nat.le_of_ble_eq_true rfl) rfl ?_
      refine sw_iconst (v := 0) (pc' := 48) ok dX1_pairTells_47 rfl cc_iconst_0 ?_
      refine sw_iload (z := j5) (pc' := 50) ok dX1_pairTells_48 rfl rfl ?_
      refine sw_jn (fun k9 : Int32 → Int32 → PM Int32 => ∀ (j6 : Int32) (j7 : Int32), SW Γ iI 62 [none, none, none, none, none, none] [.int j7, .int j6] (k9 j6 j7)) ?_ (fun k9 hk9 => ?_)
      · intro j6 j7
        refine sw_cll0_I (st := []) (as := [.int j6, .int j7]) (pc' := 65) ok (S_J9_max_7cf53 j6 j7) (by decide) lk_X1_55 rfl dX1_pairTells_62 rfl (Nat.le_of_ble_eq_true rfl) rfl (fun v8 => ?_)
        exact sw_ret ok okr dX1_pairTells_65 trivial rfl
      refine sw_if_eq (tgt := 60) (pc' := 53) ok dX1_pairTells_50 (by decide) rfl ?_ ?_
      · refine sw_iload (z := v2) (pc' := 62) ok dX1_pairTells_60 rfl rfl ?_
        refine sw_fg (l' := [none, none, none, none, none, none]) [false, false, false, false, false, false] rfl ?_
        exact hk9 0 v2
      refine sw_iload (z := v2) (pc' := 55) ok dX1_pairTells_53 rfl rfl ?_
      refine sw_iconst (v := 2) (pc' := 56) ok dX1_pairTells_55 rfl cc_iconst_2 ?_
      refine sw_divI (pc' := 57) ok dX1_pairTells_56 rfl (fun v10 => ?_)
      refine sw_goto (tgt := 62) ok dX1_pairTells_57 (by decide) ?_
      refine sw_fg (l' := [none, none, none, none, none, none]) [false, false, false, false, false, false] rfl ?_
      exact hk9 0 v10
    refine sw_jn (fun k12 : PM Int32 => SW Γ iI 40 [none, none, none, none, some (.int v2), none] [] (k12)) ?_ (fun k12 hk12 => ?_)
    · refine sw_iconst (v := 1) (pc' := 41) ok dX1_pairTells_40 rfl cc_iconst_1 ?_
      refine sw_goto (tgt := 45) ok dX1_pairTells_41 (by decide) ?_
      exact hk11 1
    refine sw_icmp_eq (tgt := 40) (pc' := 30) ok dX1_pairTells_27 (by decide) rfl ?_ ?_
    · refine sw_fg (l' := [none, none, none, none, some (.int v2), none]) [false, false, false, false, true, false] rfl ?_
      exact hk12
    refine sw_aload_n (z := a1) (pc' := 31) ok dX1_pairTells_30 rfl rfl ?_
    refine sw_getR (pc' := 34) ok (fr_X1_52) dX1_pairTells_31 rfl (fun v13 => ?_)
    refine sw_iload_n (z := x3) (pc' := 35) ok dX1_pairTells_34 rfl rfl ?_
    refine sw_ald (pc' := 36) ok dX1_pairTells_35 rfl (fun v14 => ?_)
    refine sw_iconst (v := 4) (pc' := 37) ok dX1_pairTells_36 rfl cc_iconst_4 ?_
    refine sw_icmp_ne (tgt := 44) (pc' := 40) ok dX1_pairTells_37 (by decide) rfl ?_ ?_
    · refine sw_iconst (v := 0) (pc' := 45) ok dX1_pairTells_44 rfl cc_iconst_0 ?_
      refine sw_fg (l' := [none, none, none, none, some (.int v2), none]) [false, false, false, false, true, false] rfl ?_
      exact hk11 0
    refine sw_fg (l' := [none, none, none, none, some (.int v2), none]) [false, false, false, false, true, false] rfl ?_
    exact hk12
  refine sw_iconst (v := 0) (pc' := 10) ok dX1_pairTells_9 rfl cc_iconst_0 ?_
  exact sw_ret ok okr dX1_pairTells_10 trivial rfl
theorem S_X1_pairTells (a0 : Nat) (a1 : Nat) (x2 : Int32) (x3 : Int32) : Sim 2 yX1_pairTells cX1_pairTells 6 (some .int) iI [.ref a0, .ref a1, .int x2, .int x3] (P_X1_pairTells a0 a1 x2 x3) := Sim.intro wd_943 (by decide) (by decide +kernel) (Nat.le_of_ble_eq_true rfl) (fun Γ ok okr => W_X1_pairTells ok okr a0 a1 x2 x3)
theorem dJ9_min_7cf53_0 : decode cJ9_min_7cf53 0 = .ok (.iload_n 0, 1) := by decide +kernel
theorem dJ9_min_7cf53_1 : decode cJ9_min_7cf53 1 = .ok (.iload_n 1, 1) := by decide +kernel
theorem dJ9_min_7cf53_2 : decode cJ9_min_7cf53 2 = .ok (.if_icmp .gt 7, 3) := by decide +kernel
theorem dJ9_min_7cf53_5 : decode cJ9_min_7cf53 5 = .ok (.iload_n 0, 1) := by decide +kernel
theorem dJ9_min_7cf53_6 : decode cJ9_min_7cf53 6 = .ok (.goto 4, 3) := by decide +kernel
theorem dJ9_min_7cf53_9 : decode cJ9_min_7cf53 9 = .ok (.iload_n 1, 1) := by decide +kernel
theorem dJ9_min_7cf53_10 : decode cJ9_min_7cf53 10 = .ok (.ireturn, 1) := by decide +kernel
def P_J9_min_7cf53 (x0 : Int32) (x1 : Int32) : PM Int32 :=
ifB (decide (x1 < x0)) (
pureM x1) (
pureM x0)
set_option maxHeartbeats 4000000 in
set_option maxRecDepth 100000 in
theorem W_J9_min_7cf53 {Γ : Cx} (ok : OKc Γ cJ9_min_7cf53 RJ9 0 "min") (okr : OKr Γ cJ9_min_7cf53 (some .int)) (x0 : Int32) (x1 : Int32) : SW Γ iI 0 [some (.int x0), some (.int x1)] [] (P_J9_min_7cf53 x0 x1) := by
  unfold P_J9_min_7cf53
  refine sw_iload_n (z := x0) (pc' := 1) ok dJ9_min_7cf53_0 rfl rfl ?_
  refine sw_iload_n (z := x1) (pc' := 2) ok dJ9_min_7cf53_1 rfl rfl ?_
  refine sw_icmp_gt (tgt := 9) (pc' := 5) ok dJ9_min_7cf53_2 (by decide) rfl ?_ ?_
  · refine sw_iload_n (z := x1) (pc' := 10) ok dJ9_min_7cf53_9 rfl rfl ?_
    exact sw_ret ok okr dJ9_min_7cf53_10 trivial rfl
  refine sw_iload_n (z := x0) (pc' := 6) ok dJ9_min_7cf53_5 rfl rfl ?_
  refine sw_goto (tgt := 10) ok dJ9_min_7cf53_6 (by decide) ?_
  exact sw_ret ok okr dJ9_min_7cf53_10 trivial rfl
theorem S_J9_min_7cf53 (x0 : Int32) (x1 : Int32) : Sim 0 yJ9_min_7cf53 cJ9_min_7cf53 2 (some .int) iI [.int x0, .int x1] (P_J9_min_7cf53 x0 x1) := Sim.introF wd_944 (by decide) (by decide +kernel) (Nat.le_of_ble_eq_true rfl) (fun Γ ok okr => W_J9_min_7cf53 ok okr x0 x1)
theorem dX1_strengthWith_0 : decode cX1_strengthWith 0 = .ok (.bipush 60, 2) := by decide +kernel
theorem dX1_strengthWith_2 : decode cX1_strengthWith 2 = .ok (.aload_n 0, 1) := by decide +kernel
theorem dX1_strengthWith_3 : decode cX1_strengthWith 3 = .ok (.getfield 20, 3) := by decide +kernel
theorem dX1_strengthWith_6 : decode cX1_strengthWith 6 = .ok (.iconst 2, 1) := by decide +kernel
theorem dX1_strengthWith_7 : decode cX1_strengthWith 7 = .ok (.idiv, 1) := by decide +kernel
theorem dX1_strengthWith_8 : decode cX1_strengthWith 8 = .ok (.iload_n 1, 1) := by decide +kernel
theorem dX1_strengthWith_9 : decode cX1_strengthWith 9 = .ok (.iadd, 1) := by decide +kernel
theorem dX1_strengthWith_10 : decode cX1_strengthWith 10 = .ok (.invokestatic 75, 3) := by decide +kernel
theorem dX1_strengthWith_13 : decode cX1_strengthWith 13 = .ok (.ireturn, 1) := by decide +kernel
def P_X1_strengthWith (a0 : Nat) (x1 : Int32) : PM Int32 :=
getI 1 2 a0 fun v1 =>
divI v1 2 fun v2 =>
cll0 (P_J9_min_7cf53 60 (v2 + x1)) fun v3 =>
pureM v3
set_option maxHeartbeats 4000000 in
set_option maxRecDepth 100000 in
theorem W_X1_strengthWith {Γ : Cx} (ok : OKc Γ cX1_strengthWith RX1 1 "strengthWith") (okr : OKr Γ cX1_strengthWith (some .int)) (a0 : Nat) (x1 : Int32) : SW Γ iI 0 [some (.ref a0), some (.int x1)] [] (P_X1_strengthWith a0 x1) := by
  unfold P_X1_strengthWith
  refine sw_bipush (v := 60) (pc' := 2) ok dX1_strengthWith_0 rfl cc_bipush_60 ?_
  refine sw_aload_n (z := a0) (pc' := 3) ok dX1_strengthWith_2 rfl rfl ?_
  refine sw_getI (pc' := 6) ok (fr_X1_20.g) dX1_strengthWith_3 rfl (fun v1 => ?_)
  refine sw_iconst (v := 2) (pc' := 7) ok dX1_strengthWith_6 rfl cc_iconst_2 ?_
  refine sw_divI (pc' := 8) ok dX1_strengthWith_7 rfl (fun v2 => ?_)
  refine sw_iload_n (z := x1) (pc' := 9) ok dX1_strengthWith_8 rfl rfl ?_
  refine sw_iadd (pc' := 10) ok dX1_strengthWith_9 rfl ?_
  refine sw_cll0_I (st := []) (as := [.int 60, .int (v2 + x1)]) (pc' := 13) ok (S_J9_min_7cf53 60 (v2 + x1)) (by decide) lk_X1_75 rfl dX1_strengthWith_10 rfl (Nat.le_of_ble_eq_true rfl) rfl (fun v3 => ?_)
  exact sw_ret ok okr dX1_strengthWith_13 trivial rfl
theorem S_X1_strengthWith (a0 : Nat) (x1 : Int32) : Sim 1 yX1_strengthWith cX1_strengthWith 2 (some .int) iI [.ref a0, .int x1] (P_X1_strengthWith a0 x1) := Sim.intro wd_945 (by decide) (by decide +kernel) (Nat.le_of_ble_eq_true rfl) (fun Γ ok okr => W_X1_strengthWith ok okr a0 x1)
theorem dX1_behind_0 : decode cX1_behind 0 = .ok (.aload_n 0, 1) := by decide +kernel
theorem dX1_behind_1 : decode cX1_behind 1 = .ok (.aload_n 0, 1) := by decide +kernel
theorem dX1_behind_2 : decode cX1_behind 2 = .ok (.aload_n 1, 1) := by decide +kernel
theorem dX1_behind_3 : decode cX1_behind 3 = .ok (.iload_n 2, 1) := by decide +kernel
theorem dX1_behind_4 : decode cX1_behind 4 = .ok (.iload_n 3, 1) := by decide +kernel
theorem dX1_behind_5 : decode cX1_behind 5 = .ok (.invokevirtual 65, 3) := by decide +kernel
theorem dX1_behind_8 : decode cX1_behind 8 = .ok (.invokevirtual 68, 3) := by decide +kernel
theorem dX1_behind_11 : decode cX1_behind 11 = .ok (.ireturn, 1) := by decide +kernel
def P_X1_behind (a0 : Nat) (a1 : Nat) (x2 : Int32) (x3 : Int32) : PM Int32 :=
cllV 1 a0 (P_X1_pairTells a0 a1 x2 x3) fun v1 =>
cllV 1 a0 (P_X1_strengthWith a0 v1) fun v2 =>
pureM v2
set_option maxHeartbeats 4000000 in
set_option maxRecDepth 100000 in
theorem W_X1_behind {Γ : Cx} (ok : OKc Γ cX1_behind RX1 3 "behind") (okr : OKr Γ cX1_behind (some .int)) (a0 : Nat) (a1 : Nat) (x2 : Int32) (x3 : Int32) : SW Γ iI 0 [some (.ref a0), some (.ref a1), some (.int x2), some (.int x3)] [] (P_X1_behind a0 a1 x2 x3) := by
  unfold P_X1_behind
  refine sw_aload_n (z := a0) (pc' := 1) ok dX1_behind_0 rfl rfl ?_
  refine sw_aload_n (z := a0) (pc' := 2) ok dX1_behind_1 rfl rfl ?_
  refine sw_aload_n (z := a1) (pc' := 3) ok dX1_behind_2 rfl rfl ?_
  refine sw_iload_n (z := x2) (pc' := 4) ok dX1_behind_3 rfl rfl ?_
  refine sw_iload_n (z := x3) (pc' := 5) ok dX1_behind_4 rfl rfl ?_
  refine sw_cllV_I (st := [.ref a0]) (as := [.ref a1, .int x2, .int x3]) (pc' := 8) ok (S_X1_pairTells a0 a1 x2 x3) (by decide) lk_X1_65 rfl dX1_behind_5 rfl (Nat.le_of_ble_eq_true rfl) rfl (fun v1 => ?_)
  refine sw_cllV_I (st := []) (as := [.int v1]) (pc' := 11) ok (S_X1_strengthWith a0 v1) (by decide) lk_X1_68 rfl dX1_behind_8 rfl (Nat.le_of_ble_eq_true rfl) rfl (fun v2 => ?_)
  exact sw_ret ok okr dX1_behind_11 trivial rfl
theorem S_X1_behind (a0 : Nat) (a1 : Nat) (x2 : Int32) (x3 : Int32) : Sim 3 yX1_behind cX1_behind 4 (some .int) iI [.ref a0, .ref a1, .int x2, .int x3] (P_X1_behind a0 a1 x2 x3) := Sim.intro wd_946 (by decide) (by decide +kernel) (Nat.le_of_ble_eq_true rfl) (fun Γ ok okr => W_X1_behind ok okr a0 a1 x2 x3)
theorem dX1_behindHalfAsleep_0 : decode cX1_behindHalfAsleep 0 = .ok (.aload_n 1, 1) := by decide +kernel
theorem dX1_behindHalfAsleep_1 : decode cX1_behindHalfAsleep 1 = .ok (.iload_n 2, 1) := by decide +kernel
theorem dX1_behindHalfAsleep_2 : decode cX1_behindHalfAsleep 2 = .ok (.iload_n 3, 1) := by decide +kernel
theorem dX1_behindHalfAsleep_3 : decode cX1_behindHalfAsleep 3 = .ok (.invokevirtual 44, 3) := by decide +kernel
theorem dX1_behindHalfAsleep_6 : decode cX1_behindHalfAsleep 6 = .ok (.ifCond .eq 8, 3) := by decide +kernel
theorem dX1_behindHalfAsleep_9 : decode cX1_behindHalfAsleep 9 = .ok (.iload 4, 2) := by decide +kernel
theorem dX1_behindHalfAsleep_11 : decode cX1_behindHalfAsleep 11 = .ok (.ifCond .ne 9, 3) := by decide +kernel
theorem dX1_behindHalfAsleep_14 : decode cX1_behindHalfAsleep 14 = .ok (.aload_n 0, 1) := by decide +kernel
theorem dX1_behindHalfAsleep_15 : decode cX1_behindHalfAsleep 15 = .ok (.iconst 0, 1) := by decide +kernel
theorem dX1_behindHalfAsleep_16 : decode cX1_behindHalfAsleep 16 = .ok (.invokevirtual 68, 3) := by decide +kernel
theorem dX1_behindHalfAsleep_19 : decode cX1_behindHalfAsleep 19 = .ok (.ireturn, 1) := by decide +kernel
theorem dX1_behindHalfAsleep_20 : decode cX1_behindHalfAsleep 20 = .ok (.iload 4, 2) := by decide +kernel
theorem dX1_behindHalfAsleep_22 : decode cX1_behindHalfAsleep 22 = .ok (.iconst 3, 1) := by decide +kernel
theorem dX1_behindHalfAsleep_23 : decode cX1_behindHalfAsleep 23 = .ok (.if_icmp .ne 11, 3) := by decide +kernel
theorem dX1_behindHalfAsleep_26 : decode cX1_behindHalfAsleep 26 = .ok (.aload_n 0, 1) := by decide +kernel
theorem dX1_behindHalfAsleep_27 : decode cX1_behindHalfAsleep 27 = .ok (.aload_n 1, 1) := by decide +kernel
theorem dX1_behindHalfAsleep_28 : decode cX1_behindHalfAsleep 28 = .ok (.iload_n 2, 1) := by decide +kernel
theorem dX1_behindHalfAsleep_29 : decode cX1_behindHalfAsleep 29 = .ok (.iload_n 3, 1) := by decide +kernel
theorem dX1_behindHalfAsleep_30 : decode cX1_behindHalfAsleep 30 = .ok (.invokevirtual 72, 3) := by decide +kernel
theorem dX1_behindHalfAsleep_33 : decode cX1_behindHalfAsleep 33 = .ok (.ireturn, 1) := by decide +kernel
theorem dX1_behindHalfAsleep_34 : decode cX1_behindHalfAsleep 34 = .ok (.aload_n 0, 1) := by decide +kernel
theorem dX1_behindHalfAsleep_35 : decode cX1_behindHalfAsleep 35 = .ok (.iload 4, 2) := by decide +kernel
theorem dX1_behindHalfAsleep_37 : decode cX1_behindHalfAsleep 37 = .ok (.iconst 1, 1) := by decide +kernel
theorem dX1_behindHalfAsleep_38 : decode cX1_behindHalfAsleep 38 = .ok (.if_icmp .ne 12, 3) := by decide +kernel
theorem dX1_behindHalfAsleep_41 : decode cX1_behindHalfAsleep 41 = .ok (.aload_n 0, 1) := by decide +kernel
theorem dX1_behindHalfAsleep_42 : decode cX1_behindHalfAsleep 42 = .ok (.getfield 17, 3) := by decide +kernel
theorem dX1_behindHalfAsleep_45 : decode cX1_behindHalfAsleep 45 = .ok (.iload_n 2, 1) := by decide +kernel
theorem dX1_behindHalfAsleep_46 : decode cX1_behindHalfAsleep 46 = .ok (.iaload, 1) := by decide +kernel
theorem dX1_behindHalfAsleep_47 : decode cX1_behindHalfAsleep 47 = .ok (.goto 9, 3) := by decide +kernel
theorem dX1_behindHalfAsleep_50 : decode cX1_behindHalfAsleep 50 = .ok (.aload_n 0, 1) := by decide +kernel
theorem dX1_behindHalfAsleep_51 : decode cX1_behindHalfAsleep 51 = .ok (.getfield 17, 3) := by decide +kernel
theorem dX1_behindHalfAsleep_54 : decode cX1_behindHalfAsleep 54 = .ok (.iload_n 3, 1) := by decide +kernel
theorem dX1_behindHalfAsleep_55 : decode cX1_behindHalfAsleep 55 = .ok (.iaload, 1) := by decide +kernel
theorem dX1_behindHalfAsleep_56 : decode cX1_behindHalfAsleep 56 = .ok (.invokevirtual 68, 3) := by decide +kernel
theorem dX1_behindHalfAsleep_59 : decode cX1_behindHalfAsleep 59 = .ok (.ireturn, 1) := by decide +kernel
def P_X1_behindHalfAsleep (a0 : Nat) (a1 : Nat) (x2 : Int32) (x3 : Int32) (x4 : Int32) : PM Int32 :=
cllV 0 a1 (P_X0_isPair a1 x2 x3) fun v1 =>
jn (
cllV 1 a0 (P_X1_strengthWith a0 0) fun v2 =>
pureM v2) fun k3 =>
ifB (decide (v1 = 0)) (
k3) (
ifB (decide (¬ x4 = 0)) (
ifB (decide (¬ x4 = 3)) (
jn (fun (j4 : Nat) (j5 : Int32) =>
cllV 1 j4 (P_X1_strengthWith j4 j5) fun v6 =>
pureM v6) fun k7 =>
ifB (decide (¬ x4 = 1)) (
getR 1 1 a0 fun v8 =>
ald v8 x3 fun v9 =>
k7 a0 v9) (
getR 1 1 a0 fun v10 =>
ald v10 x2 fun v11 =>
k7 a0 v11)) (
cllV 1 a0 (P_X1_behind a0 a1 x2 x3) fun v12 =>
pureM v12)) (
k3))
set_option maxHeartbeats 4000000 in
set_option maxRecDepth 100000 in
theorem W_X1_behindHalfAsleep {Γ : Cx} (ok : OKc Γ cX1_behindHalfAsleep RX1 4 "behindHalfAsleep") (okr : OKr Γ cX1_behindHalfAsleep (some .int)) (a0 : Nat) (a1 : Nat) (x2 : Int32) (x3 : Int32) (x4 : Int32) : SW Γ iI 0 [some (.ref a0), some (.ref a1), some (.int x2), some (.int x3), some (.int x4)] [] (P_X1_behindHalfAsleep a0 a1 x2 x3 x4) := by
  unfold P_X1_behindHalfAsleep
  refine sw_aload_n (z := a1) (pc' := 1) ok dX1_behindHalfAsleep_0 rfl rfl ?_
  refine sw_iload_n (z := x2) (pc' := 2) ok dX1_behindHalfAsleep_1 rfl rfl ?_
  refine sw_iload_n (z := x3) (pc' := 3) ok dX1_behindHalfAsleep_2 rfl rfl ?_
  refine sw_cllV_I (st := []) (as := [.int x2, .int x3]) (pc' := 6) ok (S_X0_isPair a1 x2 x3) (by decide) lk_X1_44 rfl dX1_behindHalfAsleep_3 rfl (Nat.le_of_ble_eq_true rfl) rfl (fun v1 => ?_)
  refine sw_jn (fun k3 : PM Int32 => SW Γ iI 14 [some (.ref a0), none, none, none, none] [] (k3)) ?_ (fun k3 hk3 => ?_)
  · refine sw_aload_n (z := a0) (pc' := 15) ok dX1_behindHalfAsleep_14 rfl rfl ?_
    refine sw_iconst (v := 0) (pc' := 16) ok dX1_behindHalfAsleep_15 rfl cc_iconst_0 ?_
    refine sw_cllV_I (st := []) (as := [.int 0]) (pc' := 19) ok (S_X1_strengthWith a0 0) (by decide) lk_X1_68 rfl dX1_behindHalfAsleep_16 rfl (Nat.le_of_ble_eq_true rfl) rfl (fun v2 => ?_)
    exact sw_ret ok okr dX1_behindHalfAsleep_19 trivial rfl
  refine sw_if_eq (tgt := 14) (pc' := 9) ok dX1_behindHalfAsleep_6 (by decide) rfl ?_ ?_
  · refine sw_fg (l' := [some (.ref a0), none, none, none, none]) [true, false, false, false, false] rfl ?_
    exact hk3
  refine sw_iload (z := x4) (pc' := 11) ok dX1_behindHalfAsleep_9 rfl rfl ?_
  refine sw_if_ne (tgt := 20) (pc' := 14) ok dX1_behindHalfAsleep_11 (by decide) rfl ?_ ?_
  · refine sw_iload (z := x4) (pc' := 22) ok dX1_behindHalfAsleep_20 rfl rfl ?_
    refine sw_iconst (v := 3) (pc' := 23) ok dX1_behindHalfAsleep_22 rfl cc_iconst_3 ?_
    refine sw_icmp_ne (tgt := 34) (pc' := 26) ok dX1_behindHalfAsleep_23 (by decide) rfl ?_ ?_
    · refine sw_aload_n (z := a0) (pc' := 35) ok dX1_behindHalfAsleep_34 rfl rfl ?_
      refine sw_iload (z := x4) (pc' := 37) ok dX1_behindHalfAsleep_35 rfl rfl ?_
      refine sw_iconst (v := 1) (pc' := 38) ok dX1_behindHalfAsleep_37 rfl cc_iconst_1 ?_
      refine sw_jn (fun k7 : Nat → Int32 → PM Int32 => ∀ (j4 : Nat) (j5 : Int32), SW Γ iI 56 [none, none, none, none, none] [.int j5, .ref j4] (k7 j4 j5)) ?_ (fun k7 hk7 => ?_)
      · intro j4 j5
        refine sw_cllV_I (st := []) (as := [.int j5]) (pc' := 59) ok (S_X1_strengthWith j4 j5) (by decide) lk_X1_68 rfl dX1_behindHalfAsleep_56 rfl (Nat.le_of_ble_eq_true rfl) rfl (fun v6 => ?_)
        exact sw_ret ok okr dX1_behindHalfAsleep_59 trivial rfl
      refine sw_icmp_ne (tgt := 50) (pc' := 41) ok dX1_behindHalfAsleep_38 (by decide) rfl ?_ ?_
      · refine sw_aload_n (z := a0) (pc' := 51) ok dX1_behindHalfAsleep_50 rfl rfl ?_
        refine sw_getR (pc' := 54) ok (fr_X1_17.g) dX1_behindHalfAsleep_51 rfl (fun v8 => ?_)
        refine sw_iload_n (z := x3) (pc' := 55) ok dX1_behindHalfAsleep_54 rfl rfl ?_
        refine sw_ald (pc' := 56) ok dX1_behindHalfAsleep_55 rfl (fun v9 => ?_)
        refine sw_fg (l' := [none, none, none, none, none]) [false, false, false, false, false] rfl ?_
        exact hk7 a0 v9
      refine sw_aload_n (z := a0) (pc' := 42) ok dX1_behindHalfAsleep_41 rfl rfl ?_
      refine sw_getR (pc' := 45) ok (fr_X1_17.g) dX1_behindHalfAsleep_42 rfl (fun v10 => ?_)
      refine sw_iload_n (z := x2) (pc' := 46) ok dX1_behindHalfAsleep_45 rfl rfl ?_
      refine sw_ald (pc' := 47) ok dX1_behindHalfAsleep_46 rfl (fun v11 => ?_)
      refine sw_goto (tgt := 56) ok dX1_behindHalfAsleep_47 (by decide) ?_
      refine sw_fg (l' := [none, none, none, none, none]) [false, false, false, false, false] rfl ?_
      exact hk7 a0 v11
    refine sw_aload_n (z := a0) (pc' := 27) ok dX1_behindHalfAsleep_26 rfl rfl ?_
    refine sw_aload_n (z := a1) (pc' := 28) ok dX1_behindHalfAsleep_27 rfl rfl ?_
    refine sw_iload_n (z := x2) (pc' := 29) ok dX1_behindHalfAsleep_28 rfl rfl ?_
    refine sw_iload_n (z := x3) (pc' := 30) ok dX1_behindHalfAsleep_29 rfl rfl ?_
    refine sw_cllV_I (st := []) (as := [.ref a1, .int x2, .int x3]) (pc' := 33) ok (S_X1_behind a0 a1 x2 x3) (by decide) lk_X1_72 rfl dX1_behindHalfAsleep_30 rfl (Nat.le_of_ble_eq_true rfl) rfl (fun v12 => ?_)
    exact sw_ret ok okr dX1_behindHalfAsleep_33 trivial rfl
  refine sw_fg (l' := [some (.ref a0), none, none, none, none]) [true, false, false, false, false] rfl ?_
  exact hk3
theorem S_X1_behindHalfAsleep (a0 : Nat) (a1 : Nat) (x2 : Int32) (x3 : Int32) (x4 : Int32) : Sim 4 yX1_behindHalfAsleep cX1_behindHalfAsleep 5 (some .int) iI [.ref a0, .ref a1, .int x2, .int x3, .int x4] (P_X1_behindHalfAsleep a0 a1 x2 x3 x4) := Sim.intro wd_947 (by decide) (by decide +kernel) (Nat.le_of_ble_eq_true rfl) (fun Γ ok okr => W_X1_behindHalfAsleep ok okr a0 a1 x2 x3 x4)
theorem dX1_passWatch_0 : decode cX1_passWatch 0 = .ok (.aload_n 0, 1) := by decide +kernel
theorem dX1_passWatch_1 : decode cX1_passWatch 1 = .ok (.aload_n 0, 1) := by decide +kernel
theorem dX1_passWatch_2 : decode cX1_passWatch 2 = .ok (.aload_n 0, 1) := by decide +kernel
theorem dX1_passWatch_3 : decode cX1_passWatch 3 = .ok (.aload_n 1, 1) := by decide +kernel
theorem dX1_passWatch_4 : decode cX1_passWatch 4 = .ok (.iload_n 2, 1) := by decide +kernel
theorem dX1_passWatch_5 : decode cX1_passWatch 5 = .ok (.iload_n 3, 1) := by decide +kernel
theorem dX1_passWatch_6 : decode cX1_passWatch 6 = .ok (.invokevirtual 65, 3) := by decide +kernel
theorem dX1_passWatch_9 : decode cX1_passWatch 9 = .ok (.invokevirtual 68, 3) := by decide +kernel
theorem dX1_passWatch_12 : decode cX1_passWatch 12 = .ok (.putfield 20, 3) := by decide +kernel
theorem dX1_passWatch_15 : decode cX1_passWatch 15 = .ok (.aload_n 0, 1) := by decide +kernel
theorem dX1_passWatch_16 : decode cX1_passWatch 16 = .ok (.dup, 1) := by decide +kernel
theorem dX1_passWatch_17 : decode cX1_passWatch 17 = .ok (.getfield 24, 3) := by decide +kernel
theorem dX1_passWatch_20 : decode cX1_passWatch 20 = .ok (.iconst 1, 1) := by decide +kernel
theorem dX1_passWatch_21 : decode cX1_passWatch 21 = .ok (.iadd, 1) := by decide +kernel
theorem dX1_passWatch_22 : decode cX1_passWatch 22 = .ok (.putfield 24, 3) := by decide +kernel
theorem dX1_passWatch_25 : decode cX1_passWatch 25 = .ok (.iconst 0, 1) := by decide +kernel
theorem dX1_passWatch_26 : decode cX1_passWatch 26 = .ok (.istore 4, 2) := by decide +kernel
theorem dX1_passWatch_28 : decode cX1_passWatch 28 = .ok (.iload 4, 2) := by decide +kernel
theorem dX1_passWatch_30 : decode cX1_passWatch 30 = .ok (.bipush 6, 2) := by decide +kernel
theorem dX1_passWatch_32 : decode cX1_passWatch 32 = .ok (.if_icmp .ge 58, 3) := by decide +kernel
theorem dX1_passWatch_35 : decode cX1_passWatch 35 = .ok (.aload_n 0, 1) := by decide +kernel
theorem dX1_passWatch_36 : decode cX1_passWatch 36 = .ok (.getfield 11, 3) := by decide +kernel
theorem dX1_passWatch_39 : decode cX1_passWatch 39 = .ok (.iload 4, 2) := by decide +kernel
theorem dX1_passWatch_41 : decode cX1_passWatch 41 = .ok (.iload 4, 2) := by decide +kernel
theorem dX1_passWatch_43 : decode cX1_passWatch 43 = .ok (.iload_n 2, 1) := by decide +kernel
theorem dX1_passWatch_44 : decode cX1_passWatch 44 = .ok (.if_icmp .eq 9, 3) := by decide +kernel
theorem dX1_passWatch_47 : decode cX1_passWatch 47 = .ok (.iload 4, 2) := by decide +kernel
theorem dX1_passWatch_49 : decode cX1_passWatch 49 = .ok (.iload_n 3, 1) := by decide +kernel
theorem dX1_passWatch_50 : decode cX1_passWatch 50 = .ok (.if_icmp .ne 20, 3) := by decide +kernel
theorem dX1_passWatch_53 : decode cX1_passWatch 53 = .ok (.bipush 30, 2) := by decide +kernel
theorem dX1_passWatch_55 : decode cX1_passWatch 55 = .ok (.aload_n 0, 1) := by decide +kernel
theorem dX1_passWatch_56 : decode cX1_passWatch 56 = .ok (.getfield 11, 3) := by decide +kernel
theorem dX1_passWatch_59 : decode cX1_passWatch 59 = .ok (.iload 4, 2) := by decide +kernel
theorem dX1_passWatch_61 : decode cX1_passWatch 61 = .ok (.iaload, 1) := by decide +kernel
theorem dX1_passWatch_62 : decode cX1_passWatch 62 = .ok (.iconst 1, 1) := by decide +kernel
theorem dX1_passWatch_63 : decode cX1_passWatch 63 = .ok (.iadd, 1) := by decide +kernel
theorem dX1_passWatch_64 : decode cX1_passWatch 64 = .ok (.invokestatic 75, 3) := by decide +kernel
theorem dX1_passWatch_67 : decode cX1_passWatch 67 = .ok (.goto 16, 3) := by decide +kernel
theorem dX1_passWatch_70 : decode cX1_passWatch 70 = .ok (.iconst 0, 1) := by decide +kernel
theorem dX1_passWatch_71 : decode cX1_passWatch 71 = .ok (.aload_n 0, 1) := by decide +kernel
theorem dX1_passWatch_72 : decode cX1_passWatch 72 = .ok (.getfield 11, 3) := by decide +kernel
theorem dX1_passWatch_75 : decode cX1_passWatch 75 = .ok (.iload 4, 2) := by decide +kernel
theorem dX1_passWatch_77 : decode cX1_passWatch 77 = .ok (.iaload, 1) := by decide +kernel
theorem dX1_passWatch_78 : decode cX1_passWatch 78 = .ok (.iconst 2, 1) := by decide +kernel
theorem dX1_passWatch_79 : decode cX1_passWatch 79 = .ok (.isub, 1) := by decide +kernel
theorem dX1_passWatch_80 : decode cX1_passWatch 80 = .ok (.invokestatic 55, 3) := by decide +kernel
theorem dX1_passWatch_83 : decode cX1_passWatch 83 = .ok (.iastore, 1) := by decide +kernel
theorem dX1_passWatch_84 : decode cX1_passWatch 84 = .ok (.iinc 4 1, 3) := by decide +kernel
theorem dX1_passWatch_87 : decode cX1_passWatch 87 = .ok (.goto (-59), 3) := by decide +kernel
theorem dX1_passWatch_90 : decode cX1_passWatch 90 = .ok (.aload_n 0, 1) := by decide +kernel
theorem dX1_passWatch_91 : decode cX1_passWatch 91 = .ok (.aload_n 1, 1) := by decide +kernel
theorem dX1_passWatch_92 : decode cX1_passWatch 92 = .ok (.invokevirtual 34, 3) := by decide +kernel
theorem dX1_passWatch_95 : decode cX1_passWatch 95 = .ok (.return_, 1) := by decide +kernel
def P_X1_passWatch_28 (k_90 : PM Unit) (p0 : Nat) (p1 : Nat) (p2 : Int32) (p3 : Int32) : Nat → Int32 → PM Unit
  | 0, _ => failM
  | n + 1, q4 =>
    ifB (decide (6 ≤ q4)) (
    k_90) (
    getR 1 0 p0 fun v5 =>
    jn (fun (j6 : Nat) (j7 : Int32) (j8 : Int32) =>
    ast j6 j7 j8 <|
    P_X1_passWatch_28 k_90 p0 p1 p2 p3 n (q4 + 1)) fun k9 =>
    jn (fun (j10 : Nat) (j11 : Int32) =>
    getR 1 0 p0 fun v12 =>
    ald v12 q4 fun v13 =>
    cll0 (P_J9_min_7cf53 30 (v13 + 1)) fun v14 =>
    k9 j10 j11 v14) fun k15 =>
    ifB (decide (q4 = p2)) (
    k15 v5 q4) (
    ifB (decide (¬ q4 = p3)) (
    getR 1 0 p0 fun v16 =>
    ald v16 q4 fun v17 =>
    cll0 (P_J9_max_7cf53 0 (v17 - 2)) fun v18 =>
    k9 v5 q4 v18) (
    k15 v5 q4)))
def P_X1_passWatch (a0 : Nat) (a1 : Nat) (x2 : Int32) (x3 : Int32) : PM Unit :=
cllV 1 a0 (P_X1_pairTells a0 a1 x2 x3) fun v1 =>
cllV 1 a0 (P_X1_strengthWith a0 v1) fun v2 =>
setI 1 2 a0 v2 <|
getI 1 3 a0 fun v3 =>
setI 1 3 a0 (v3 + 1) <|
jn (
cllV 1 a0 (P_X1_listen a0 a1) fun _ =>
pureM ()) fun k4 =>
P_X1_passWatch_28 k4 a0 a1 x2 x3 4000 0
set_option maxHeartbeats 4000000 in
set_option maxRecDepth 100000 in
theorem W_X1_passWatch_28 {Γ : Cx} (ok : OKc Γ cX1_passWatch RX1 3 "passWatch") (okr : OKr Γ cX1_passWatch (none)) (k_90 : PM Unit) (p0 : Nat) (p1 : Nat) (p2 : Int32) (p3 : Int32) (hk_90 : SW Γ iU 90 [some (.ref p0), some (.ref p1), none, none, none] [] (k_90)) : ∀ (n : Nat) (q4 : Int32), SW Γ iU 28 [some (.ref p0), some (.ref p1), some (.int p2), some (.int p3), some (.int q4)] [] (P_X1_passWatch_28 k_90 p0 p1 p2 p3 n q4) := by
  intro n
  induction n with
  | zero =>
    intros
    exact sw_fail
  | succ n ih =>
    intro q4
    unfold P_X1_passWatch_28
    refine sw_iload (z := q4) (pc' := 30) ok dX1_passWatch_28 rfl rfl ?_
    refine sw_bipush (v := 6) (pc' := 32) ok dX1_passWatch_30 rfl cc_bipush_6 ?_
    refine sw_icmp_ge (tgt := 90) (pc' := 35) ok dX1_passWatch_32 (by decide) rfl ?_ ?_
    · refine sw_fg (l' := [some (.ref p0), some (.ref p1), none, none, none]) [true, true, false, false, false] rfl ?_
      exact hk_90
    refine sw_aload_n (z := p0) (pc' := 36) ok dX1_passWatch_35 rfl rfl ?_
    refine sw_getR (pc' := 39) ok (fr_X1_11.g) dX1_passWatch_36 rfl (fun v5 => ?_)
    refine sw_iload (z := q4) (pc' := 41) ok dX1_passWatch_39 rfl rfl ?_
    refine sw_iload (z := q4) (pc' := 43) ok dX1_passWatch_41 rfl rfl ?_
    refine sw_iload_n (z := p2) (pc' := 44) ok dX1_passWatch_43 rfl rfl ?_
    refine sw_jn (fun k9 : Nat → Int32 → Int32 → PM Unit => ∀ (j6 : Nat) (j7 : Int32) (j8 : Int32), SW Γ iU 83 [some (.ref p0), some (.ref p1), some (.int p2), some (.int p3), some (.int q4)] [.int j8, .int j7, .ref j6] (k9 j6 j7 j8)) ?_ (fun k9 hk9 => ?_)
    · intro j6 j7 j8
      refine sw_ast (pc' := 84) ok dX1_passWatch_83 rfl ?_
      refine sw_iinc (z := q4) (v := q4 + 1) (pc' := 87) (l' := [some (.ref p0), some (.ref p1), some (.int p2), some (.int p3), some (.int (q4 + 1))]) ok dX1_passWatch_84 rfl rfl (by rw [cc_iconst_1]) rfl ?_
      refine sw_goto (tgt := 28) ok dX1_passWatch_87 (by decide) ?_
      exact ih (q4 + 1)
    refine sw_jn (fun k15 : Nat → Int32 → PM Unit => ∀ (j10 : Nat) (j11 : Int32), SW Γ iU 53 [some (.ref p0), some (.ref p1), some (.int p2), some (.int p3), some (.int q4)] [.int j11, .ref j10] (k15 j10 j11)) ?_ (fun k15 hk15 => ?_)
    · intro j10 j11
      refine sw_bipush (v := 30) (pc' := 55) ok dX1_passWatch_53 rfl cc_bipush_30 ?_
      refine sw_aload_n (z := p0) (pc' := 56) ok dX1_passWatch_55 rfl rfl ?_
      refine sw_getR (pc' := 59) ok (fr_X1_11.g) dX1_passWatch_56 rfl (fun v12 => ?_)
      refine sw_iload (z := q4) (pc' := 61) ok dX1_passWatch_59 rfl rfl ?_
      refine sw_ald (pc' := 62) ok dX1_passWatch_61 rfl (fun v13 => ?_)
      refine sw_iconst (v := 1) (pc' := 63) ok dX1_passWatch_62 rfl cc_iconst_1 ?_
      refine sw_iadd (pc' := 64) ok dX1_passWatch_63 rfl ?_
      refine sw_cll0_I (st := [.int j11, .ref j10]) (as := [.int 30, .int (v13 + 1)]) (pc' := 67) ok (S_J9_min_7cf53 30 (v13 + 1)) (by decide) lk_X1_75 rfl dX1_passWatch_64 rfl (Nat.le_of_ble_eq_true rfl) rfl (fun v14 => ?_)
      refine sw_goto (tgt := 83) ok dX1_passWatch_67 (by decide) ?_
      exact hk9 j10 j11 v14
    refine sw_icmp_eq (tgt := 53) (pc' := 47) ok dX1_passWatch_44 (by decide) rfl ?_ ?_
    · exact hk15 v5 q4
    refine sw_iload (z := q4) (pc' := 49) ok dX1_passWatch_47 rfl rfl ?_
    refine sw_iload_n (z := p3) (pc' := 50) ok dX1_passWatch_49 rfl rfl ?_
    refine sw_icmp_ne (tgt := 70) (pc' := 53) ok dX1_passWatch_50 (by decide) rfl ?_ ?_
    · refine sw_iconst (v := 0) (pc' := 71) ok dX1_passWatch_70 rfl cc_iconst_0 ?_
      refine sw_aload_n (z := p0) (pc' := 72) ok dX1_passWatch_71 rfl rfl ?_
      refine sw_getR (pc' := 75) ok (fr_X1_11.g) dX1_passWatch_72 rfl (fun v16 => ?_)
      refine sw_iload (z := q4) (pc' := 77) ok dX1_passWatch_75 rfl rfl ?_
      refine sw_ald (pc' := 78) ok dX1_passWatch_77 rfl (fun v17 => ?_)
      refine sw_iconst (v := 2) (pc' := 79) ok dX1_passWatch_78 rfl cc_iconst_2 ?_
      refine sw_isub (pc' := 80) ok dX1_passWatch_79 rfl ?_
      refine sw_cll0_I (st := [.int q4, .ref v5]) (as := [.int 0, .int (v17 - 2)]) (pc' := 83) ok (S_J9_max_7cf53 0 (v17 - 2)) (by decide) lk_X1_55 rfl dX1_passWatch_80 rfl (Nat.le_of_ble_eq_true rfl) rfl (fun v18 => ?_)
      exact hk9 v5 q4 v18
    exact hk15 v5 q4
set_option maxHeartbeats 4000000 in
set_option maxRecDepth 100000 in
theorem W_X1_passWatch {Γ : Cx} (ok : OKc Γ cX1_passWatch RX1 3 "passWatch") (okr : OKr Γ cX1_passWatch (none)) (a0 : Nat) (a1 : Nat) (x2 : Int32) (x3 : Int32) : SW Γ iU 0 [some (.ref a0), some (.ref a1), some (.int x2), some (.int x3), none] [] (P_X1_passWatch a0 a1 x2 x3) := by
  unfold P_X1_passWatch
  refine sw_aload_n (z := a0) (pc' := 1) ok dX1_passWatch_0 rfl rfl ?_
  refine sw_aload_n (z := a0) (pc' := 2) ok dX1_passWatch_1 rfl rfl ?_
  refine sw_aload_n (z := a0) (pc' := 3) ok dX1_passWatch_2 rfl rfl ?_
  refine sw_aload_n (z := a1) (pc' := 4) ok dX1_passWatch_3 rfl rfl ?_
  refine sw_iload_n (z := x2) (pc' := 5) ok dX1_passWatch_4 rfl rfl ?_
  refine sw_iload_n (z := x3) (pc' := 6) ok dX1_passWatch_5 rfl rfl ?_
  refine sw_cllV_I (st := [.ref a0, .ref a0]) (as := [.ref a1, .int x2, .int x3]) (pc' := 9) ok (S_X1_pairTells a0 a1 x2 x3) (by decide) lk_X1_65 rfl dX1_passWatch_6 rfl (Nat.le_of_ble_eq_true rfl) rfl (fun v1 => ?_)
  refine sw_cllV_I (st := [.ref a0]) (as := [.int v1]) (pc' := 12) ok (S_X1_strengthWith a0 v1) (by decide) lk_X1_68 rfl dX1_passWatch_9 rfl (Nat.le_of_ble_eq_true rfl) rfl (fun v2 => ?_)
  refine sw_setI (pc' := 15) ok fr_X1_20 dX1_passWatch_12 (fun h => by cases h) rfl ?_
  refine sw_aload_n (z := a0) (pc' := 16) ok dX1_passWatch_15 rfl rfl ?_
  refine sw_dup (pc' := 17) ok dX1_passWatch_16 rfl rfl ?_
  refine sw_getI (pc' := 20) ok (fr_X1_24.g) dX1_passWatch_17 rfl (fun v3 => ?_)
  refine sw_iconst (v := 1) (pc' := 21) ok dX1_passWatch_20 rfl cc_iconst_1 ?_
  refine sw_iadd (pc' := 22) ok dX1_passWatch_21 rfl ?_
  refine sw_setI (pc' := 25) ok fr_X1_24 dX1_passWatch_22 (fun h => by cases h) rfl ?_
  refine sw_iconst (v := 0) (pc' := 26) ok dX1_passWatch_25 rfl cc_iconst_0 ?_
  refine sw_istore (pc' := 28) (l' := [some (.ref a0), some (.ref a1), some (.int x2), some (.int x3), some (.int 0)]) ok dX1_passWatch_26 rfl (Nat.le_of_ble_eq_true rfl) rfl ?_
  refine sw_jn (fun k4 : PM Unit => SW Γ iU 90 [some (.ref a0), some (.ref a1), none, none, none] [] (k4)) ?_ (fun k4 hk4 => ?_)
  · refine sw_aload_n (z := a0) (pc' := 91) ok dX1_passWatch_90 rfl rfl ?_
    refine sw_aload_n (z := a1) (pc' := 92) ok dX1_passWatch_91 rfl rfl ?_
    refine sw_cllV_U (st := []) (as := [.ref a1]) (pc' := 95) ok (S_X1_listen a0 a1) (by decide) lk_X1_34 rfl dX1_passWatch_92 rfl (Nat.le_of_ble_eq_true rfl) rfl (fun _ => ?_)
    exact sw_ret ok okr dX1_passWatch_95 trivial rfl
  exact W_X1_passWatch_28 ok okr k4 a0 a1 x2 x3 hk4 4000 0
theorem S_X1_passWatch (a0 : Nat) (a1 : Nat) (x2 : Int32) (x3 : Int32) : Sim 3 yX1_passWatch cX1_passWatch 5 (none) iU [.ref a0, .ref a1, .int x2, .int x3] (P_X1_passWatch a0 a1 x2 x3) := Sim.intro wd_948 (by decide) (by decide +kernel) (Nat.le_of_ble_eq_true rfl) (fun Γ ok okr => W_X1_passWatch ok okr a0 a1 x2 x3)
theorem dX1_drink_0 : decode cX1_drink 0 = .ok (.aload_n 1, 1) := by decide +kernel
theorem dX1_drink_1 : decode cX1_drink 1 = .ok (.iload_n 2, 1) := by decide +kernel
theorem dX1_drink_2 : decode cX1_drink 2 = .ok (.invokevirtual 58, 3) := by decide +kernel
theorem dX1_drink_5 : decode cX1_drink 5 = .ok (.ifCond .eq 15, 3) := by decide +kernel
theorem dX1_drink_8 : decode cX1_drink 8 = .ok (.aload_n 0, 1) := by decide +kernel
theorem dX1_drink_9 : decode cX1_drink 9 = .ok (.getfield 11, 3) := by decide +kernel
theorem dX1_drink_12 : decode cX1_drink 12 = .ok (.iload_n 2, 1) := by decide +kernel
theorem dX1_drink_13 : decode cX1_drink 13 = .ok (.iconst 0, 1) := by decide +kernel
theorem dX1_drink_14 : decode cX1_drink 14 = .ok (.iastore, 1) := by decide +kernel
theorem dX1_drink_15 : decode cX1_drink 15 = .ok (.aload_n 0, 1) := by decide +kernel
theorem dX1_drink_16 : decode cX1_drink 16 = .ok (.aload_n 1, 1) := by decide +kernel
theorem dX1_drink_17 : decode cX1_drink 17 = .ok (.invokevirtual 34, 3) := by decide +kernel
theorem dX1_drink_20 : decode cX1_drink 20 = .ok (.return_, 1) := by decide +kernel
def P_X1_drink (a0 : Nat) (a1 : Nat) (x2 : Int32) : PM Unit :=
cllV 0 a1 (P_X0_has a1 x2) fun v1 =>
ifB (decide (v1 = 0)) (
pureM ()) (
getR 1 0 a0 fun v2 =>
ast v2 x2 0 <|
cllV 1 a0 (P_X1_listen a0 a1) fun _ =>
pureM ())
set_option maxHeartbeats 4000000 in
set_option maxRecDepth 100000 in
theorem W_X1_drink {Γ : Cx} (ok : OKc Γ cX1_drink RX1 3 "drink") (okr : OKr Γ cX1_drink (none)) (a0 : Nat) (a1 : Nat) (x2 : Int32) : SW Γ iU 0 [some (.ref a0), some (.ref a1), some (.int x2)] [] (P_X1_drink a0 a1 x2) := by
  unfold P_X1_drink
  refine sw_aload_n (z := a1) (pc' := 1) ok dX1_drink_0 rfl rfl ?_
  refine sw_iload_n (z := x2) (pc' := 2) ok dX1_drink_1 rfl rfl ?_
  refine sw_cllV_I (st := []) (as := [.int x2]) (pc' := 5) ok (S_X0_has a1 x2) (by decide) lk_X1_58 rfl dX1_drink_2 rfl (Nat.le_of_ble_eq_true rfl) rfl (fun v1 => ?_)
  refine sw_if_eq (tgt := 20) (pc' := 8) ok dX1_drink_5 (by decide) rfl ?_ ?_
  · exact sw_ret ok okr dX1_drink_20 trivial rfl
  refine sw_aload_n (z := a0) (pc' := 9) ok dX1_drink_8 rfl rfl ?_
  refine sw_getR (pc' := 12) ok (fr_X1_11.g) dX1_drink_9 rfl (fun v2 => ?_)
  refine sw_iload_n (z := x2) (pc' := 13) ok dX1_drink_12 rfl rfl ?_
  refine sw_iconst (v := 0) (pc' := 14) ok dX1_drink_13 rfl cc_iconst_0 ?_
  refine sw_ast (pc' := 15) ok dX1_drink_14 rfl ?_
  refine sw_aload_n (z := a0) (pc' := 16) ok dX1_drink_15 rfl rfl ?_
  refine sw_aload_n (z := a1) (pc' := 17) ok dX1_drink_16 rfl rfl ?_
  refine sw_cllV_U (st := []) (as := [.ref a1]) (pc' := 20) ok (S_X1_listen a0 a1) (by decide) lk_X1_34 rfl dX1_drink_17 rfl (Nat.le_of_ble_eq_true rfl) rfl (fun _ => ?_)
  exact sw_ret ok okr dX1_drink_20 trivial rfl
theorem S_X1_drink (a0 : Nat) (a1 : Nat) (x2 : Int32) : Sim 3 yX1_drink cX1_drink 3 (none) iU [.ref a0, .ref a1, .int x2] (P_X1_drink a0 a1 x2) := Sim.intro wd_949 (by decide) (by decide +kernel) (Nat.le_of_ble_eq_true rfl) (fun Γ ok okr => W_X1_drink ok okr a0 a1 x2)
theorem dX2_init_0 : decode cX2_init 0 = .ok (.aload_n 0, 1) := by decide +kernel
theorem dX2_init_1 : decode cX2_init 1 = .ok (.invokespecial 3, 3) := by decide +kernel
theorem dX2_init_4 : decode cX2_init 4 = .ok (.aload_n 0, 1) := by decide +kernel
theorem dX2_init_5 : decode cX2_init 5 = .ok (.bipush 6, 2) := by decide +kernel
theorem dX2_init_7 : decode cX2_init 7 = .ok (.newarray .int, 2) := by decide +kernel
theorem dX2_init_9 : decode cX2_init 9 = .ok (.putfield 11, 3) := by decide +kernel
theorem dX2_init_12 : decode cX2_init 12 = .ok (.aload_n 0, 1) := by decide +kernel
theorem dX2_init_13 : decode cX2_init 13 = .ok (.bipush 6, 2) := by decide +kernel
theorem dX2_init_15 : decode cX2_init 15 = .ok (.newarray .int, 2) := by decide +kernel
theorem dX2_init_17 : decode cX2_init 17 = .ok (.putfield 17, 3) := by decide +kernel
theorem dX2_init_20 : decode cX2_init 20 = .ok (.aload_n 0, 1) := by decide +kernel
theorem dX2_init_21 : decode cX2_init 21 = .ok (.iconst 0, 1) := by decide +kernel
theorem dX2_init_22 : decode cX2_init 22 = .ok (.putfield 20, 3) := by decide +kernel
theorem dX2_init_25 : decode cX2_init 25 = .ok (.return_, 1) := by decide +kernel
def P_X2_init (a0 : Nat) : PM Unit :=
newA 6 fun o1 =>
setR 2 0 a0 o1 <|
newA 6 fun o2 =>
setR 2 1 a0 o2 <|
setI 2 2 a0 0 <|
pureM ()
set_option maxHeartbeats 4000000 in
set_option maxRecDepth 100000 in
theorem W_X2_init {Γ : Cx} (ok : OKc Γ cX2_init RX2 1 "<init>") (okr : OKr Γ cX2_init (none)) (a0 : Nat) : SW Γ iU 0 [some (.ref a0)] [] (P_X2_init a0) := by
  unfold P_X2_init
  refine sw_aload_n (z := a0) (pc' := 1) ok dX2_init_0 rfl rfl ?_
  refine sw_obj (pc' := 4) ok wd_66 wd_1 wd_2 (by decide) dX2_init_1 rfl (Nat.le_of_ble_eq_true rfl) ?_
  refine sw_aload_n (z := a0) (pc' := 5) ok dX2_init_4 rfl rfl ?_
  refine sw_bipush (v := 6) (pc' := 7) ok dX2_init_5 rfl cc_bipush_6 ?_
  refine sw_newA (pc' := 9) ok wd_3 dX2_init_7 rfl (fun o1 => ?_)
  refine sw_setR (pc' := 12) ok fr_X2_11 (fun _ => ⟨rfl, rfl⟩) dX2_init_9 (fun _ => rfl) rfl ?_
  refine sw_aload_n (z := a0) (pc' := 13) ok dX2_init_12 rfl rfl ?_
  refine sw_bipush (v := 6) (pc' := 15) ok dX2_init_13 rfl cc_bipush_6 ?_
  refine sw_newA (pc' := 17) ok wd_3 dX2_init_15 rfl (fun o2 => ?_)
  refine sw_setR (pc' := 20) ok fr_X2_17 (fun _ => ⟨rfl, rfl⟩) dX2_init_17 (fun _ => rfl) rfl ?_
  refine sw_aload_n (z := a0) (pc' := 21) ok dX2_init_20 rfl rfl ?_
  refine sw_iconst (v := 0) (pc' := 22) ok dX2_init_21 rfl cc_iconst_0 ?_
  refine sw_setI (pc' := 25) ok fr_X2_20 dX2_init_22 (fun h => by cases h) rfl ?_
  exact sw_ret ok okr dX2_init_25 trivial rfl
theorem S_X2_init (a0 : Nat) : Sim 1 yX2_init cX2_init 1 (none) iU [.ref a0] (P_X2_init a0) := Sim.intro wd_950 (by decide) (by decide +kernel) (Nat.le_of_ble_eq_true rfl) (fun Γ ok okr => W_X2_init ok okr a0)
theorem dX2_noteWay_0 : decode cX2_noteWay 0 = .ok (.iconst 0, 1) := by decide +kernel
theorem dX2_noteWay_1 : decode cX2_noteWay 1 = .ok (.istore_n 3, 1) := by decide +kernel
theorem dX2_noteWay_2 : decode cX2_noteWay 2 = .ok (.iconst 0, 1) := by decide +kernel
theorem dX2_noteWay_3 : decode cX2_noteWay 3 = .ok (.istore 4, 2) := by decide +kernel
theorem dX2_noteWay_5 : decode cX2_noteWay 5 = .ok (.iload 4, 2) := by decide +kernel
theorem dX2_noteWay_7 : decode cX2_noteWay 7 = .ok (.aload_n 1, 1) := by decide +kernel
theorem dX2_noteWay_8 : decode cX2_noteWay 8 = .ok (.getfield 30, 3) := by decide +kernel
theorem dX2_noteWay_11 : decode cX2_noteWay 11 = .ok (.if_icmp .ge 38, 3) := by decide +kernel
theorem dX2_noteWay_14 : decode cX2_noteWay 14 = .ok (.aload_n 0, 1) := by decide +kernel
theorem dX2_noteWay_15 : decode cX2_noteWay 15 = .ok (.getfield 11, 3) := by decide +kernel
theorem dX2_noteWay_18 : decode cX2_noteWay 18 = .ok (.iload 4, 2) := by decide +kernel
theorem dX2_noteWay_20 : decode cX2_noteWay 20 = .ok (.iaload, 1) := by decide +kernel
theorem dX2_noteWay_21 : decode cX2_noteWay 21 = .ok (.iload 4, 2) := by decide +kernel
theorem dX2_noteWay_23 : decode cX2_noteWay 23 = .ok (.if_icmp .le 20, 3) := by decide +kernel
theorem dX2_noteWay_26 : decode cX2_noteWay 26 = .ok (.iload_n 3, 1) := by decide +kernel
theorem dX2_noteWay_27 : decode cX2_noteWay 27 = .ok (.aload_n 2, 1) := by decide +kernel
theorem dX2_noteWay_28 : decode cX2_noteWay 28 = .ok (.aload_n 1, 1) := by decide +kernel
theorem dX2_noteWay_29 : decode cX2_noteWay 29 = .ok (.iload 4, 2) := by decide +kernel
theorem dX2_noteWay_31 : decode cX2_noteWay 31 = .ok (.aload_n 0, 1) := by decide +kernel
theorem dX2_noteWay_32 : decode cX2_noteWay 32 = .ok (.getfield 11, 3) := by decide +kernel
theorem dX2_noteWay_35 : decode cX2_noteWay 35 = .ok (.iload 4, 2) := by decide +kernel
theorem dX2_noteWay_37 : decode cX2_noteWay 37 = .ok (.iaload, 1) := by decide +kernel
theorem dX2_noteWay_38 : decode cX2_noteWay 38 = .ok (.invokevirtual 41, 3) := by decide +kernel
theorem dX2_noteWay_41 : decode cX2_noteWay 41 = .ok (.iadd, 1) := by decide +kernel
theorem dX2_noteWay_42 : decode cX2_noteWay 42 = .ok (.istore_n 3, 1) := by decide +kernel
theorem dX2_noteWay_43 : decode cX2_noteWay 43 = .ok (.iinc 4 1, 3) := by decide +kernel
theorem dX2_noteWay_46 : decode cX2_noteWay 46 = .ok (.goto (-41), 3) := by decide +kernel
theorem dX2_noteWay_49 : decode cX2_noteWay 49 = .ok (.iload_n 3, 1) := by decide +kernel
theorem dX2_noteWay_50 : decode cX2_noteWay 50 = .ok (.aload_n 0, 1) := by decide +kernel
theorem dX2_noteWay_51 : decode cX2_noteWay 51 = .ok (.getfield 20, 3) := by decide +kernel
theorem dX2_noteWay_54 : decode cX2_noteWay 54 = .ok (.if_icmp .le 38, 3) := by decide +kernel
theorem dX2_noteWay_57 : decode cX2_noteWay 57 = .ok (.aload_n 0, 1) := by decide +kernel
theorem dX2_noteWay_58 : decode cX2_noteWay 58 = .ok (.iload_n 3, 1) := by decide +kernel
theorem dX2_noteWay_59 : decode cX2_noteWay 59 = .ok (.putfield 20, 3) := by decide +kernel
theorem dX2_noteWay_62 : decode cX2_noteWay 62 = .ok (.iconst 0, 1) := by decide +kernel
theorem dX2_noteWay_63 : decode cX2_noteWay 63 = .ok (.istore 4, 2) := by decide +kernel
theorem dX2_noteWay_65 : decode cX2_noteWay 65 = .ok (.iload 4, 2) := by decide +kernel
theorem dX2_noteWay_67 : decode cX2_noteWay 67 = .ok (.bipush 6, 2) := by decide +kernel
theorem dX2_noteWay_69 : decode cX2_noteWay 69 = .ok (.if_icmp .ge 23, 3) := by decide +kernel
theorem dX2_noteWay_72 : decode cX2_noteWay 72 = .ok (.aload_n 0, 1) := by decide +kernel
theorem dX2_noteWay_73 : decode cX2_noteWay 73 = .ok (.getfield 17, 3) := by decide +kernel
theorem dX2_noteWay_76 : decode cX2_noteWay 76 = .ok (.iload 4, 2) := by decide +kernel
theorem dX2_noteWay_78 : decode cX2_noteWay 78 = .ok (.aload_n 0, 1) := by decide +kernel
theorem dX2_noteWay_79 : decode cX2_noteWay 79 = .ok (.getfield 11, 3) := by decide +kernel
theorem dX2_noteWay_82 : decode cX2_noteWay 82 = .ok (.iload 4, 2) := by decide +kernel
theorem dX2_noteWay_84 : decode cX2_noteWay 84 = .ok (.iaload, 1) := by decide +kernel
theorem dX2_noteWay_85 : decode cX2_noteWay 85 = .ok (.iastore, 1) := by decide +kernel
theorem dX2_noteWay_86 : decode cX2_noteWay 86 = .ok (.iinc 4 1, 3) := by decide +kernel
theorem dX2_noteWay_89 : decode cX2_noteWay 89 = .ok (.goto (-24), 3) := by decide +kernel
theorem dX2_noteWay_92 : decode cX2_noteWay 92 = .ok (.return_, 1) := by decide +kernel
def P_X2_noteWay_65 (p0 : Nat) : Nat → Int32 → PM Unit
  | 0, _ => failM
  | n + 1, q4 =>
    ifB (decide (6 ≤ q4)) (
    pureM ()) (
    getR 2 1 p0 fun v3 =>
    getR 2 0 p0 fun v4 =>
    ald v4 q4 fun v5 =>
    ast v3 q4 v5 <|
    P_X2_noteWay_65 p0 n (q4 + 1))
def P_X2_noteWay_5 (k_49 : Int32 → PM Unit) (p0 : Nat) (p1 : Nat) (p2 : Nat) : Nat → Int32 → Int32 → PM Unit
  | 0, _, _ => failM
  | n + 1, q3, q4 =>
    getI 0 4 p1 fun v7 =>
    ifB (decide (v7 ≤ q4)) (
    k_49 q3) (
    getR 2 0 p0 fun v8 =>
    ald v8 q4 fun v9 =>
    jn (fun (j10 : Int32) =>
    P_X2_noteWay_5 k_49 p0 p1 p2 n j10 (q4 + 1)) fun k11 =>
    ifB (decide (v9 ≤ q4)) (
    k11 q3) (
    getR 2 0 p0 fun v12 =>
    ald v12 q4 fun v13 =>
    cllV 1 p2 (P_X1_pairTells p2 p1 q4 v13) fun v14 =>
    k11 (q3 + v14)))
def P_X2_noteWay (a0 : Nat) (a1 : Nat) (a2 : Nat) : PM Unit :=
jn (fun (e1 : Int32) =>
getI 2 2 a0 fun v2 =>
ifB (decide (e1 ≤ v2)) (
pureM ()) (
setI 2 2 a0 e1 <|
P_X2_noteWay_65 a0 4000 0)) fun k6 =>
P_X2_noteWay_5 k6 a0 a1 a2 4000 0 0
set_option maxHeartbeats 4000000 in
set_option maxRecDepth 100000 in
theorem W_X2_noteWay_65 {Γ : Cx} (ok : OKc Γ cX2_noteWay RX2 3 "noteWay") (okr : OKr Γ cX2_noteWay (none)) (p0 : Nat) : ∀ (n : Nat) (q4 : Int32), SW Γ iU 65 [some (.ref p0), none, none, none, some (.int q4)] [] (P_X2_noteWay_65 p0 n q4) := by
  intro n
  induction n with
  | zero =>
    intros
    exact sw_fail
  | succ n ih =>
    intro q4
    unfold P_X2_noteWay_65
    refine sw_iload (z := q4) (pc' := 67) ok dX2_noteWay_65 rfl rfl ?_
    refine sw_bipush (v := 6) (pc' := 69) ok dX2_noteWay_67 rfl cc_bipush_6 ?_
    refine sw_icmp_ge (tgt := 92) (pc' := 72) ok dX2_noteWay_69 (by decide) rfl ?_ ?_
    · exact sw_ret ok okr dX2_noteWay_92 trivial rfl
    refine sw_aload_n (z := p0) (pc' := 73) ok dX2_noteWay_72 rfl rfl ?_
    refine sw_getR (pc' := 76) ok (fr_X2_17.g) dX2_noteWay_73 rfl (fun v3 => ?_)
    refine sw_iload (z := q4) (pc' := 78) ok dX2_noteWay_76 rfl rfl ?_
    refine sw_aload_n (z := p0) (pc' := 79) ok dX2_noteWay_78 rfl rfl ?_
    refine sw_getR (pc' := 82) ok (fr_X2_11.g) dX2_noteWay_79 rfl (fun v4 => ?_)
    refine sw_iload (z := q4) (pc' := 84) ok dX2_noteWay_82 rfl rfl ?_
    refine sw_ald (pc' := 85) ok dX2_noteWay_84 rfl (fun v5 => ?_)
    refine sw_ast (pc' := 86) ok dX2_noteWay_85 rfl ?_
    refine sw_iinc (z := q4) (v := q4 + 1) (pc' := 89) (l' := [some (.ref p0), none, none, none, some (.int (q4 + 1))]) ok dX2_noteWay_86 rfl rfl (by rw [cc_iconst_1]) rfl ?_
    refine sw_goto (tgt := 65) ok dX2_noteWay_89 (by decide) ?_
    exact ih (q4 + 1)
set_option maxHeartbeats 4000000 in
set_option maxRecDepth 100000 in
theorem W_X2_noteWay_5 {Γ : Cx} (ok : OKc Γ cX2_noteWay RX2 3 "noteWay") (okr : OKr Γ cX2_noteWay (none)) (k_49 : Int32 → PM Unit) (p0 : Nat) (p1 : Nat) (p2 : Nat) (hk_49 : ∀ (y3 : Int32), SW Γ iU 49 [some (.ref p0), none, none, some (.int y3), none] [] (k_49 y3)) : ∀ (n : Nat) (q3 : Int32) (q4 : Int32), SW Γ iU 5 [some (.ref p0), some (.ref p1), some (.ref p2), some (.int q3), some (.int q4)] [] (P_X2_noteWay_5 k_49 p0 p1 p2 n q3 q4) := by
  intro n
  induction n with
  | zero =>
    intros
    exact sw_fail
  | succ n ih =>
    intro q3 q4
    unfold P_X2_noteWay_5
    refine sw_iload (z := q4) (pc' := 7) ok dX2_noteWay_5 rfl rfl ?_
    refine sw_aload_n (z := p1) (pc' := 8) ok dX2_noteWay_7 rfl rfl ?_
    refine sw_getI (pc' := 11) ok (fr_X2_30.g) dX2_noteWay_8 rfl (fun v7 => ?_)
    refine sw_icmp_ge (tgt := 49) (pc' := 14) ok dX2_noteWay_11 (by decide) rfl ?_ ?_
    · refine sw_fg (l' := [some (.ref p0), none, none, some (.int q3), none]) [true, false, false, true, false] rfl ?_
      exact hk_49 q3
    refine sw_aload_n (z := p0) (pc' := 15) ok dX2_noteWay_14 rfl rfl ?_
    refine sw_getR (pc' := 18) ok (fr_X2_11.g) dX2_noteWay_15 rfl (fun v8 => ?_)
    refine sw_iload (z := q4) (pc' := 20) ok dX2_noteWay_18 rfl rfl ?_
    refine sw_ald (pc' := 21) ok dX2_noteWay_20 rfl (fun v9 => ?_)
    refine sw_iload (z := q4) (pc' := 23) ok dX2_noteWay_21 rfl rfl ?_
    refine sw_jn (fun k11 : Int32 → PM Unit => ∀ (j10 : Int32), SW Γ iU 43 [some (.ref p0), some (.ref p1), some (.ref p2), some (.int j10), some (.int q4)] [] (k11 j10)) ?_ (fun k11 hk11 => ?_)
    · intro j10
      refine sw_iinc (z := q4) (v := q4 + 1) (pc' := 46) (l' := [some (.ref p0), some (.ref p1), some (.ref p2), some (.int j10), some (.int (q4 + 1))]) ok dX2_noteWay_43 rfl rfl (by rw [cc_iconst_1]) rfl ?_
      refine sw_goto (tgt := 5) ok dX2_noteWay_46 (by decide) ?_
      exact ih j10 (q4 + 1)
    refine sw_icmp_le (tgt := 43) (pc' := 26) ok dX2_noteWay_23 (by decide) rfl ?_ ?_
    · exact hk11 q3
    refine sw_iload_n (z := q3) (pc' := 27) ok dX2_noteWay_26 rfl rfl ?_
    refine sw_aload_n (z := p2) (pc' := 28) ok dX2_noteWay_27 rfl rfl ?_
    refine sw_aload_n (z := p1) (pc' := 29) ok dX2_noteWay_28 rfl rfl ?_
    refine sw_iload (z := q4) (pc' := 31) ok dX2_noteWay_29 rfl rfl ?_
    refine sw_aload_n (z := p0) (pc' := 32) ok dX2_noteWay_31 rfl rfl ?_
    refine sw_getR (pc' := 35) ok (fr_X2_11.g) dX2_noteWay_32 rfl (fun v12 => ?_)
    refine sw_iload (z := q4) (pc' := 37) ok dX2_noteWay_35 rfl rfl ?_
    refine sw_ald (pc' := 38) ok dX2_noteWay_37 rfl (fun v13 => ?_)
    refine sw_cllV_I (st := [.int q3]) (as := [.ref p1, .int q4, .int v13]) (pc' := 41) ok (S_X1_pairTells p2 p1 q4 v13) (by decide) lk_X2_41 rfl dX2_noteWay_38 rfl (Nat.le_of_ble_eq_true rfl) rfl (fun v14 => ?_)
    refine sw_iadd (pc' := 42) ok dX2_noteWay_41 rfl ?_
    refine sw_istore_n (pc' := 43) (l' := [some (.ref p0), some (.ref p1), some (.ref p2), some (.int (q3 + v14)), some (.int q4)]) ok dX2_noteWay_42 rfl (Nat.le_of_ble_eq_true rfl) rfl ?_
    exact hk11 (q3 + v14)
set_option maxHeartbeats 4000000 in
set_option maxRecDepth 100000 in
theorem W_X2_noteWay {Γ : Cx} (ok : OKc Γ cX2_noteWay RX2 3 "noteWay") (okr : OKr Γ cX2_noteWay (none)) (a0 : Nat) (a1 : Nat) (a2 : Nat) : SW Γ iU 0 [some (.ref a0), some (.ref a1), some (.ref a2), none, none] [] (P_X2_noteWay a0 a1 a2) := by
  unfold P_X2_noteWay
  refine sw_iconst (v := 0) (pc' := 1) ok dX2_noteWay_0 rfl cc_iconst_0 ?_
  refine sw_istore_n (pc' := 2) (l' := [some (.ref a0), some (.ref a1), some (.ref a2), some (.int 0), none]) ok dX2_noteWay_1 rfl (Nat.le_of_ble_eq_true rfl) rfl ?_
  refine sw_iconst (v := 0) (pc' := 3) ok dX2_noteWay_2 rfl cc_iconst_0 ?_
  refine sw_istore (pc' := 5) (l' := [some (.ref a0), some (.ref a1), some (.ref a2), some (.int 0), some (.int 0)]) ok dX2_noteWay_3 rfl (Nat.le_of_ble_eq_true rfl) rfl ?_
  refine sw_jn (fun k6 : Int32 → PM Unit => ∀ (e1 : Int32), SW Γ iU 49 [some (.ref a0), none, none, some (.int e1), none] [] (k6 e1)) ?_ (fun k6 hk6 => ?_)
  · intro e1
    refine sw_iload_n (z := e1) (pc' := 50) ok dX2_noteWay_49 rfl rfl ?_
    refine sw_aload_n (z := a0) (pc' := 51) ok dX2_noteWay_50 rfl rfl ?_
    refine sw_getI (pc' := 54) ok (fr_X2_20.g) dX2_noteWay_51 rfl (fun v2 => ?_)
    refine sw_icmp_le (tgt := 92) (pc' := 57) ok dX2_noteWay_54 (by decide) rfl ?_ ?_
    · exact sw_ret ok okr dX2_noteWay_92 trivial rfl
    refine sw_aload_n (z := a0) (pc' := 58) ok dX2_noteWay_57 rfl rfl ?_
    refine sw_iload_n (z := e1) (pc' := 59) ok dX2_noteWay_58 rfl rfl ?_
    refine sw_setI (pc' := 62) ok fr_X2_20 dX2_noteWay_59 (fun h => by cases h) rfl ?_
    refine sw_iconst (v := 0) (pc' := 63) ok dX2_noteWay_62 rfl cc_iconst_0 ?_
    refine sw_istore (pc' := 65) (l' := [some (.ref a0), none, none, some (.int e1), some (.int 0)]) ok dX2_noteWay_63 rfl (Nat.le_of_ble_eq_true rfl) rfl ?_
    refine sw_fg (l' := [some (.ref a0), none, none, none, some (.int 0)]) [true, false, false, false, true] rfl ?_
    exact W_X2_noteWay_65 ok okr a0 4000 0
  exact W_X2_noteWay_5 ok okr k6 a0 a1 a2 hk6 4000 0 0
theorem S_X2_noteWay (a0 : Nat) (a1 : Nat) (a2 : Nat) : Sim 3 yX2_noteWay cX2_noteWay 5 (none) iU [.ref a0, .ref a1, .ref a2] (P_X2_noteWay a0 a1 a2) := Sim.intro wd_951 (by decide) (by decide +kernel) (Nat.le_of_ble_eq_true rfl) (fun Γ ok okr => W_X2_noteWay ok okr a0 a1 a2)
theorem dX2_pairFrom_0 : decode cX2_pairFrom 0 = .ok (.iload_n 3, 1) := by decide +kernel
theorem dX2_pairFrom_1 : decode cX2_pairFrom 1 = .ok (.ifCond .lt 17, 3) := by decide +kernel
theorem dX2_pairFrom_4 : decode cX2_pairFrom 4 = .ok (.iload_n 3, 1) := by decide +kernel
theorem dX2_pairFrom_5 : decode cX2_pairFrom 5 = .ok (.aload_n 1, 1) := by decide +kernel
theorem dX2_pairFrom_6 : decode cX2_pairFrom 6 = .ok (.getfield 30, 3) := by decide +kernel
theorem dX2_pairFrom_9 : decode cX2_pairFrom 9 = .ok (.if_icmp .ge 9, 3) := by decide +kernel
theorem dX2_pairFrom_12 : decode cX2_pairFrom 12 = .ok (.iload_n 3, 1) := by decide +kernel
theorem dX2_pairFrom_13 : decode cX2_pairFrom 13 = .ok (.bipush 6, 2) := by decide +kernel
theorem dX2_pairFrom_15 : decode cX2_pairFrom 15 = .ok (.if_icmp .lt 10, 3) := by decide +kernel
theorem dX2_pairFrom_18 : decode cX2_pairFrom 18 = .ok (.aload_n 0, 1) := by decide +kernel
theorem dX2_pairFrom_19 : decode cX2_pairFrom 19 = .ok (.aload_n 1, 1) := by decide +kernel
theorem dX2_pairFrom_20 : decode cX2_pairFrom 20 = .ok (.aload_n 2, 1) := by decide +kernel
theorem dX2_pairFrom_21 : decode cX2_pairFrom 21 = .ok (.invokevirtual 37, 3) := by decide +kernel
theorem dX2_pairFrom_24 : decode cX2_pairFrom 24 = .ok (.return_, 1) := by decide +kernel
theorem dX2_pairFrom_25 : decode cX2_pairFrom 25 = .ok (.aload_n 0, 1) := by decide +kernel
theorem dX2_pairFrom_26 : decode cX2_pairFrom 26 = .ok (.getfield 11, 3) := by decide +kernel
theorem dX2_pairFrom_29 : decode cX2_pairFrom 29 = .ok (.iload_n 3, 1) := by decide +kernel
theorem dX2_pairFrom_30 : decode cX2_pairFrom 30 = .ok (.iaload, 1) := by decide +kernel
theorem dX2_pairFrom_31 : decode cX2_pairFrom 31 = .ok (.iconst (-1), 1) := by decide +kernel
theorem dX2_pairFrom_32 : decode cX2_pairFrom 32 = .ok (.if_icmp .eq 15, 3) := by decide +kernel
theorem dX2_pairFrom_35 : decode cX2_pairFrom 35 = .ok (.aload_n 0, 1) := by decide +kernel
theorem dX2_pairFrom_36 : decode cX2_pairFrom 36 = .ok (.aload_n 1, 1) := by decide +kernel
theorem dX2_pairFrom_37 : decode cX2_pairFrom 37 = .ok (.aload_n 2, 1) := by decide +kernel
theorem dX2_pairFrom_38 : decode cX2_pairFrom 38 = .ok (.iload_n 3, 1) := by decide +kernel
theorem dX2_pairFrom_39 : decode cX2_pairFrom 39 = .ok (.iconst 1, 1) := by decide +kernel
theorem dX2_pairFrom_40 : decode cX2_pairFrom 40 = .ok (.iadd, 1) := by decide +kernel
theorem dX2_pairFrom_41 : decode cX2_pairFrom 41 = .ok (.iload 4, 2) := by decide +kernel
theorem dX2_pairFrom_43 : decode cX2_pairFrom 43 = .ok (.invokestatic 33, 3) := by decide +kernel
theorem dX2_pairFrom_46 : decode cX2_pairFrom 46 = .ok (.return_, 1) := by decide +kernel
theorem dX2_pairFrom_47 : decode cX2_pairFrom 47 = .ok (.iload 4, 2) := by decide +kernel
theorem dX2_pairFrom_49 : decode cX2_pairFrom 49 = .ok (.ifCond .eq 21, 3) := by decide +kernel
theorem dX2_pairFrom_52 : decode cX2_pairFrom 52 = .ok (.aload_n 0, 1) := by decide +kernel
theorem dX2_pairFrom_53 : decode cX2_pairFrom 53 = .ok (.getfield 11, 3) := by decide +kernel
theorem dX2_pairFrom_56 : decode cX2_pairFrom 56 = .ok (.iload_n 3, 1) := by decide +kernel
theorem dX2_pairFrom_57 : decode cX2_pairFrom 57 = .ok (.bipush (-9), 2) := by decide +kernel
theorem dX2_pairFrom_59 : decode cX2_pairFrom 59 = .ok (.iastore, 1) := by decide +kernel
theorem dX2_pairFrom_60 : decode cX2_pairFrom 60 = .ok (.aload_n 0, 1) := by decide +kernel
theorem dX2_pairFrom_61 : decode cX2_pairFrom 61 = .ok (.aload_n 1, 1) := by decide +kernel
theorem dX2_pairFrom_62 : decode cX2_pairFrom 62 = .ok (.aload_n 2, 1) := by decide +kernel
theorem dX2_pairFrom_63 : decode cX2_pairFrom 63 = .ok (.iload_n 3, 1) := by decide +kernel
theorem dX2_pairFrom_64 : decode cX2_pairFrom 64 = .ok (.iconst 1, 1) := by decide +kernel
theorem dX2_pairFrom_65 : decode cX2_pairFrom 65 = .ok (.iadd, 1) := by decide +kernel
theorem dX2_pairFrom_66 : decode cX2_pairFrom 66 = .ok (.iconst 0, 1) := by decide +kernel
theorem dX2_pairFrom_67 : decode cX2_pairFrom 67 = .ok (.invokestatic 33, 3) := by decide +kernel
theorem dX2_pairFrom_70 : decode cX2_pairFrom 70 = .ok (.iload_n 3, 1) := by decide +kernel
theorem dX2_pairFrom_71 : decode cX2_pairFrom 71 = .ok (.iconst 1, 1) := by decide +kernel
theorem dX2_pairFrom_72 : decode cX2_pairFrom 72 = .ok (.iadd, 1) := by decide +kernel
theorem dX2_pairFrom_73 : decode cX2_pairFrom 73 = .ok (.istore 5, 2) := by decide +kernel
theorem dX2_pairFrom_75 : decode cX2_pairFrom 75 = .ok (.iload 5, 2) := by decide +kernel
theorem dX2_pairFrom_77 : decode cX2_pairFrom 77 = .ok (.aload_n 1, 1) := by decide +kernel
theorem dX2_pairFrom_78 : decode cX2_pairFrom 78 = .ok (.getfield 30, 3) := by decide +kernel
theorem dX2_pairFrom_81 : decode cX2_pairFrom 81 = .ok (.if_icmp .ge 55, 3) := by decide +kernel
theorem dX2_pairFrom_84 : decode cX2_pairFrom 84 = .ok (.aload_n 0, 1) := by decide +kernel
theorem dX2_pairFrom_85 : decode cX2_pairFrom 85 = .ok (.getfield 11, 3) := by decide +kernel
theorem dX2_pairFrom_88 : decode cX2_pairFrom 88 = .ok (.iload 5, 2) := by decide +kernel
theorem dX2_pairFrom_90 : decode cX2_pairFrom 90 = .ok (.iaload, 1) := by decide +kernel
theorem dX2_pairFrom_91 : decode cX2_pairFrom 91 = .ok (.iconst (-1), 1) := by decide +kernel
theorem dX2_pairFrom_92 : decode cX2_pairFrom 92 = .ok (.if_icmp .ne 38, 3) := by decide +kernel
theorem dX2_pairFrom_95 : decode cX2_pairFrom 95 = .ok (.aload_n 0, 1) := by decide +kernel
theorem dX2_pairFrom_96 : decode cX2_pairFrom 96 = .ok (.getfield 11, 3) := by decide +kernel
theorem dX2_pairFrom_99 : decode cX2_pairFrom 99 = .ok (.iload_n 3, 1) := by decide +kernel
theorem dX2_pairFrom_100 : decode cX2_pairFrom 100 = .ok (.iload 5, 2) := by decide +kernel
theorem dX2_pairFrom_102 : decode cX2_pairFrom 102 = .ok (.iastore, 1) := by decide +kernel
theorem dX2_pairFrom_103 : decode cX2_pairFrom 103 = .ok (.aload_n 0, 1) := by decide +kernel
theorem dX2_pairFrom_104 : decode cX2_pairFrom 104 = .ok (.getfield 11, 3) := by decide +kernel
theorem dX2_pairFrom_107 : decode cX2_pairFrom 107 = .ok (.iload 5, 2) := by decide +kernel
theorem dX2_pairFrom_109 : decode cX2_pairFrom 109 = .ok (.iload_n 3, 1) := by decide +kernel
theorem dX2_pairFrom_110 : decode cX2_pairFrom 110 = .ok (.iastore, 1) := by decide +kernel
theorem dX2_pairFrom_111 : decode cX2_pairFrom 111 = .ok (.aload_n 0, 1) := by decide +kernel
theorem dX2_pairFrom_112 : decode cX2_pairFrom 112 = .ok (.aload_n 1, 1) := by decide +kernel
theorem dX2_pairFrom_113 : decode cX2_pairFrom 113 = .ok (.aload_n 2, 1) := by decide +kernel
theorem dX2_pairFrom_114 : decode cX2_pairFrom 114 = .ok (.iload_n 3, 1) := by decide +kernel
theorem dX2_pairFrom_115 : decode cX2_pairFrom 115 = .ok (.iconst 1, 1) := by decide +kernel
theorem dX2_pairFrom_116 : decode cX2_pairFrom 116 = .ok (.iadd, 1) := by decide +kernel
theorem dX2_pairFrom_117 : decode cX2_pairFrom 117 = .ok (.iload 4, 2) := by decide +kernel
theorem dX2_pairFrom_119 : decode cX2_pairFrom 119 = .ok (.invokestatic 33, 3) := by decide +kernel
theorem dX2_pairFrom_122 : decode cX2_pairFrom 122 = .ok (.aload_n 0, 1) := by decide +kernel
theorem dX2_pairFrom_123 : decode cX2_pairFrom 123 = .ok (.getfield 11, 3) := by decide +kernel
theorem dX2_pairFrom_126 : decode cX2_pairFrom 126 = .ok (.iload 5, 2) := by decide +kernel
theorem dX2_pairFrom_128 : decode cX2_pairFrom 128 = .ok (.iconst (-1), 1) := by decide +kernel
theorem dX2_pairFrom_129 : decode cX2_pairFrom 129 = .ok (.iastore, 1) := by decide +kernel
theorem dX2_pairFrom_130 : decode cX2_pairFrom 130 = .ok (.iinc 5 1, 3) := by decide +kernel
theorem dX2_pairFrom_133 : decode cX2_pairFrom 133 = .ok (.goto (-58), 3) := by decide +kernel
theorem dX2_pairFrom_136 : decode cX2_pairFrom 136 = .ok (.aload_n 0, 1) := by decide +kernel
theorem dX2_pairFrom_137 : decode cX2_pairFrom 137 = .ok (.getfield 11, 3) := by decide +kernel
theorem dX2_pairFrom_140 : decode cX2_pairFrom 140 = .ok (.iload_n 3, 1) := by decide +kernel
theorem dX2_pairFrom_141 : decode cX2_pairFrom 141 = .ok (.iconst (-1), 1) := by decide +kernel
theorem dX2_pairFrom_142 : decode cX2_pairFrom 142 = .ok (.iastore, 1) := by decide +kernel
theorem dX2_pairFrom_143 : decode cX2_pairFrom 143 = .ok (.return_, 1) := by decide +kernel
def P_X2_pairFrom_75 (REC : Nat → Nat → Nat → Int32 → Int32 → PM Unit) (k_136 : PM Unit) (p0 : Nat) (p1 : Nat) (p2 : Nat) (p3 : Int32) (p4 : Int32) : Nat → Int32 → PM Unit
  | 0, _ => failM
  | n + 1, q5 =>
    getI 0 4 p1 fun v7 =>
    ifB (decide (v7 ≤ q5)) (
    k_136) (
    getR 2 0 p0 fun v8 =>
    ald v8 q5 fun v9 =>
    jn (
    P_X2_pairFrom_75 REC k_136 p0 p1 p2 p3 p4 n (q5 + 1)) fun k10 =>
    ifB (decide (¬ v9 = ((-1)))) (
    k10) (
    getR 2 0 p0 fun v11 =>
    ast v11 p3 q5 <|
    getR 2 0 p0 fun v12 =>
    ast v12 q5 p3 <|
    cll0 (REC p0 p1 p2 (p3 + 1) p4) fun _ =>
    getR 2 0 p0 fun v13 =>
    ast v13 q5 ((-1)) <|
    k10))
def P_X2_pairFrom : Nat → Nat → Nat → Nat → Int32 → Int32 → PM Unit
  | 0, _, _, _, _, _ => failM
  | n + 1, a0, a1, a2, x3, x4 =>
    jn (
    cllV 2 a0 (P_X2_noteWay a0 a1 a2) fun _ =>
    pureM ()) fun k1 =>
    ifB (decide (x3 < 0)) (
    k1) (
    getI 0 4 a1 fun v2 =>
    ifB (decide (v2 ≤ x3)) (
    k1) (
    ifB (decide (x3 < 6)) (
    getR 2 0 a0 fun v3 =>
    ald v3 x3 fun v4 =>
    ifB (decide (v4 = ((-1)))) (
    jn (
    jn (
    getR 2 0 a0 fun v5 =>
    ast v5 x3 ((-1)) <|
    pureM ()) fun k6 =>
    P_X2_pairFrom_75 (P_X2_pairFrom n) k6 a0 a1 a2 x3 x4 4000 (x3 + 1)) fun k14 =>
    ifB (decide (x4 = 0)) (
    k14) (
    getR 2 0 a0 fun v15 =>
    ast v15 x3 ((-9)) <|
    cll0 ((P_X2_pairFrom n) a0 a1 a2 (x3 + 1) 0) fun _ =>
    k14)) (
    cll0 ((P_X2_pairFrom n) a0 a1 a2 (x3 + 1) x4) fun _ =>
    pureM ())) (
    k1)))
set_option maxHeartbeats 4000000 in
set_option maxRecDepth 100000 in
theorem W_X2_pairFrom_75 {Γ : Cx} {d0 : Nat} (ok : OKc Γ cX2_pairFrom RX2 (d0 + 1 + 4) "pairFrom") (okr : OKr Γ cX2_pairFrom (none)) (REC : Nat → Nat → Nat → Int32 → Int32 → PM Unit) (hREC : ∀ (a0 : Nat) (a1 : Nat) (a2 : Nat) (x3 : Int32) (x4 : Int32), Sim (d0 + 4) yX2_pairFrom cX2_pairFrom 6 (none) iU [.ref a0, .ref a1, .ref a2, .int x3, .int x4] (REC a0 a1 a2 x3 x4)) (k_136 : PM Unit) (p0 : Nat) (p1 : Nat) (p2 : Nat) (p3 : Int32) (p4 : Int32) (hk_136 : SW Γ iU 136 [some (.ref p0), none, none, some (.int p3), none, none] [] (k_136)) : ∀ (n : Nat) (q5 : Int32), SW Γ iU 75 [some (.ref p0), some (.ref p1), some (.ref p2), some (.int p3), some (.int p4), some (.int q5)] [] (P_X2_pairFrom_75 REC k_136 p0 p1 p2 p3 p4 n q5) := by
  intro n
  induction n with
  | zero =>
    intros
    exact sw_fail
  | succ n ih =>
    intro q5
    unfold P_X2_pairFrom_75
    refine sw_iload (z := q5) (pc' := 77) ok dX2_pairFrom_75 rfl rfl ?_
    refine sw_aload_n (z := p1) (pc' := 78) ok dX2_pairFrom_77 rfl rfl ?_
    refine sw_getI (pc' := 81) ok (fr_X2_30.g) dX2_pairFrom_78 rfl (fun v7 => ?_)
    refine sw_icmp_ge (tgt := 136) (pc' := 84) ok dX2_pairFrom_81 (by decide) rfl ?_ ?_
    · refine sw_fg (l' := [some (.ref p0), none, none, some (.int p3), none, none]) [true, false, false, true, false, false] rfl ?_
      exact hk_136
    refine sw_aload_n (z := p0) (pc' := 85) ok dX2_pairFrom_84 rfl rfl ?_
    refine sw_getR (pc' := 88) ok (fr_X2_11.g) dX2_pairFrom_85 rfl (fun v8 => ?_)
    refine sw_iload (z := q5) (pc' := 90) ok dX2_pairFrom_88 rfl rfl ?_
    refine sw_ald (pc' := 91) ok dX2_pairFrom_90 rfl (fun v9 => ?_)
    refine sw_iconst (v := (-1)) (pc' := 92) ok dX2_pairFrom_91 rfl cc_iconst_m1 ?_
    refine sw_jn (fun k10 : PM Unit => SW Γ iU 130 [some (.ref p0), some (.ref p1), some (.ref p2), some (.int p3), some (.int p4), some (.int q5)] [] (k10)) ?_ (fun k10 hk10 => ?_)
    · refine sw_iinc (z := q5) (v := q5 + 1) (pc' := 133) (l' := [some (.ref p0), some (.ref p1), some (.ref p2), some (.int p3), some (.int p4), some (.int (q5 + 1))]) ok dX2_pairFrom_130 rfl rfl (by rw [cc_iconst_1]) rfl ?_
      refine sw_goto (tgt := 75) ok dX2_pairFrom_133 (by decide) ?_
      exact ih (q5 + 1)
    refine sw_icmp_ne (tgt := 130) (pc' := 95) ok dX2_pairFrom_92 (by decide) rfl ?_ ?_
    · exact hk10
    refine sw_aload_n (z := p0) (pc' := 96) ok dX2_pairFrom_95 rfl rfl ?_
    refine sw_getR (pc' := 99) ok (fr_X2_11.g) dX2_pairFrom_96 rfl (fun v11 => ?_)
    refine sw_iload_n (z := p3) (pc' := 100) ok dX2_pairFrom_99 rfl rfl ?_
    refine sw_iload (z := q5) (pc' := 102) ok dX2_pairFrom_100 rfl rfl ?_
    refine sw_ast (pc' := 103) ok dX2_pairFrom_102 rfl ?_
    refine sw_aload_n (z := p0) (pc' := 104) ok dX2_pairFrom_103 rfl rfl ?_
    refine sw_getR (pc' := 107) ok (fr_X2_11.g) dX2_pairFrom_104 rfl (fun v12 => ?_)
    refine sw_iload (z := q5) (pc' := 109) ok dX2_pairFrom_107 rfl rfl ?_
    refine sw_iload_n (z := p3) (pc' := 110) ok dX2_pairFrom_109 rfl rfl ?_
    refine sw_ast (pc' := 111) ok dX2_pairFrom_110 rfl ?_
    refine sw_aload_n (z := p0) (pc' := 112) ok dX2_pairFrom_111 rfl rfl ?_
    refine sw_aload_n (z := p1) (pc' := 113) ok dX2_pairFrom_112 rfl rfl ?_
    refine sw_aload_n (z := p2) (pc' := 114) ok dX2_pairFrom_113 rfl rfl ?_
    refine sw_iload_n (z := p3) (pc' := 115) ok dX2_pairFrom_114 rfl rfl ?_
    refine sw_iconst (v := 1) (pc' := 116) ok dX2_pairFrom_115 rfl cc_iconst_1 ?_
    refine sw_iadd (pc' := 117) ok dX2_pairFrom_116 rfl ?_
    refine sw_iload (z := p4) (pc' := 119) ok dX2_pairFrom_117 rfl rfl ?_
    refine sw_cll0_U (st := []) (as := [.ref p0, .ref p1, .ref p2, .int (p3 + 1), .int p4]) (pc' := 122) ok (hREC p0 p1 p2 (p3 + 1) p4) (by omega) lk_X2_33 rfl dX2_pairFrom_119 rfl (Nat.le_of_ble_eq_true rfl) rfl (fun _ => ?_)
    refine sw_aload_n (z := p0) (pc' := 123) ok dX2_pairFrom_122 rfl rfl ?_
    refine sw_getR (pc' := 126) ok (fr_X2_11.g) dX2_pairFrom_123 rfl (fun v13 => ?_)
    refine sw_iload (z := q5) (pc' := 128) ok dX2_pairFrom_126 rfl rfl ?_
    refine sw_iconst (v := (-1)) (pc' := 129) ok dX2_pairFrom_128 rfl cc_iconst_m1 ?_
    refine sw_ast (pc' := 130) ok dX2_pairFrom_129 rfl ?_
    exact hk10
set_option maxHeartbeats 4000000 in
set_option maxRecDepth 100000 in
theorem W_X2_pairFrom {Γ : Cx} {d0 : Nat} (ok : OKc Γ cX2_pairFrom RX2 (d0 + 1 + 4) "pairFrom") (okr : OKr Γ cX2_pairFrom (none)) (n : Nat) (hREC : ∀ (a0 : Nat) (a1 : Nat) (a2 : Nat) (x3 : Int32) (x4 : Int32), Sim (d0 + 4) yX2_pairFrom cX2_pairFrom 6 (none) iU [.ref a0, .ref a1, .ref a2, .int x3, .int x4] (P_X2_pairFrom n a0 a1 a2 x3 x4)) (a0 : Nat) (a1 : Nat) (a2 : Nat) (x3 : Int32) (x4 : Int32) : SW Γ iU 0 [some (.ref a0), some (.ref a1), some (.ref a2), some (.int x3), some (.int x4), none] [] (P_X2_pairFrom (n + 1) a0 a1 a2 x3 x4) := by
  unfold P_X2_pairFrom
  refine sw_iload_n (z := x3) (pc' := 1) ok dX2_pairFrom_0 rfl rfl ?_
  refine sw_jn (fun k1 : PM Unit => SW Γ iU 18 [some (.ref a0), some (.ref a1), some (.ref a2), none, none, none] [] (k1)) ?_ (fun k1 hk1 => ?_)
  · refine sw_aload_n (z := a0) (pc' := 19) ok dX2_pairFrom_18 rfl rfl ?_
    refine sw_aload_n (z := a1) (pc' := 20) ok dX2_pairFrom_19 rfl rfl ?_
    refine sw_aload_n (z := a2) (pc' := 21) ok dX2_pairFrom_20 rfl rfl ?_
    refine sw_cllV_U (st := []) (as := [.ref a1, .ref a2]) (pc' := 24) ok (S_X2_noteWay a0 a1 a2) (by omega) lk_X2_37 rfl dX2_pairFrom_21 rfl (Nat.le_of_ble_eq_true rfl) rfl (fun _ => ?_)
    exact sw_ret ok okr dX2_pairFrom_24 trivial rfl
  refine sw_if_lt (tgt := 18) (pc' := 4) ok dX2_pairFrom_1 (by decide) rfl ?_ ?_
  · refine sw_fg (l' := [some (.ref a0), some (.ref a1), some (.ref a2), none, none, none]) [true, true, true, false, false, false] rfl ?_
    exact hk1
  refine sw_iload_n (z := x3) (pc' := 5) ok dX2_pairFrom_4 rfl rfl ?_
  refine sw_aload_n (z := a1) (pc' := 6) ok dX2_pairFrom_5 rfl rfl ?_
  refine sw_getI (pc' := 9) ok (fr_X2_30.g) dX2_pairFrom_6 rfl (fun v2 => ?_)
  refine sw_icmp_ge (tgt := 18) (pc' := 12) ok dX2_pairFrom_9 (by decide) rfl ?_ ?_
  · refine sw_fg (l' := [some (.ref a0), some (.ref a1), some (.ref a2), none, none, none]) [true, true, true, false, false, false] rfl ?_
    exact hk1
  refine sw_iload_n (z := x3) (pc' := 13) ok dX2_pairFrom_12 rfl rfl ?_
  refine sw_bipush (v := 6) (pc' := 15) ok dX2_pairFrom_13 rfl cc_bipush_6 ?_
  refine sw_icmp_lt (tgt := 25) (pc' := 18) ok dX2_pairFrom_15 (by decide) rfl ?_ ?_
  · refine sw_aload_n (z := a0) (pc' := 26) ok dX2_pairFrom_25 rfl rfl ?_
    refine sw_getR (pc' := 29) ok (fr_X2_11.g) dX2_pairFrom_26 rfl (fun v3 => ?_)
    refine sw_iload_n (z := x3) (pc' := 30) ok dX2_pairFrom_29 rfl rfl ?_
    refine sw_ald (pc' := 31) ok dX2_pairFrom_30 rfl (fun v4 => ?_)
    refine sw_iconst (v := (-1)) (pc' := 32) ok dX2_pairFrom_31 rfl cc_iconst_m1 ?_
    refine sw_icmp_eq (tgt := 47) (pc' := 35) ok dX2_pairFrom_32 (by decide) rfl ?_ ?_
    · refine sw_iload (z := x4) (pc' := 49) ok dX2_pairFrom_47 rfl rfl ?_
      refine sw_jn (fun k14 : PM Unit => SW Γ iU 70 [some (.ref a0), some (.ref a1), some (.ref a2), some (.int x3), some (.int x4), none] [] (k14)) ?_ (fun k14 hk14 => ?_)
      · refine sw_iload_n (z := x3) (pc' := 71) ok dX2_pairFrom_70 rfl rfl ?_
        refine sw_iconst (v := 1) (pc' := 72) ok dX2_pairFrom_71 rfl cc_iconst_1 ?_
        refine sw_iadd (pc' := 73) ok dX2_pairFrom_72 rfl ?_
        refine sw_istore (pc' := 75) (l' := [some (.ref a0), some (.ref a1), some (.ref a2), some (.int x3), some (.int x4), some (.int (x3 + 1))]) ok dX2_pairFrom_73 rfl (Nat.le_of_ble_eq_true rfl) rfl ?_
        refine sw_jn (fun k6 : PM Unit => SW Γ iU 136 [some (.ref a0), none, none, some (.int x3), none, none] [] (k6)) ?_ (fun k6 hk6 => ?_)
        · refine sw_aload_n (z := a0) (pc' := 137) ok dX2_pairFrom_136 rfl rfl ?_
          refine sw_getR (pc' := 140) ok (fr_X2_11.g) dX2_pairFrom_137 rfl (fun v5 => ?_)
          refine sw_iload_n (z := x3) (pc' := 141) ok dX2_pairFrom_140 rfl rfl ?_
          refine sw_iconst (v := (-1)) (pc' := 142) ok dX2_pairFrom_141 rfl cc_iconst_m1 ?_
          refine sw_ast (pc' := 143) ok dX2_pairFrom_142 rfl ?_
          exact sw_ret ok okr dX2_pairFrom_143 trivial rfl
        exact W_X2_pairFrom_75 ok okr (P_X2_pairFrom n) hREC k6 a0 a1 a2 x3 x4 hk6 4000 (x3 + 1)
      refine sw_if_eq (tgt := 70) (pc' := 52) ok dX2_pairFrom_49 (by decide) rfl ?_ ?_
      · exact hk14
      refine sw_aload_n (z := a0) (pc' := 53) ok dX2_pairFrom_52 rfl rfl ?_
      refine sw_getR (pc' := 56) ok (fr_X2_11.g) dX2_pairFrom_53 rfl (fun v15 => ?_)
      refine sw_iload_n (z := x3) (pc' := 57) ok dX2_pairFrom_56 rfl rfl ?_
      refine sw_bipush (v := (-9)) (pc' := 59) ok dX2_pairFrom_57 rfl cc_bipush_m9 ?_
      refine sw_ast (pc' := 60) ok dX2_pairFrom_59 rfl ?_
      refine sw_aload_n (z := a0) (pc' := 61) ok dX2_pairFrom_60 rfl rfl ?_
      refine sw_aload_n (z := a1) (pc' := 62) ok dX2_pairFrom_61 rfl rfl ?_
      refine sw_aload_n (z := a2) (pc' := 63) ok dX2_pairFrom_62 rfl rfl ?_
      refine sw_iload_n (z := x3) (pc' := 64) ok dX2_pairFrom_63 rfl rfl ?_
      refine sw_iconst (v := 1) (pc' := 65) ok dX2_pairFrom_64 rfl cc_iconst_1 ?_
      refine sw_iadd (pc' := 66) ok dX2_pairFrom_65 rfl ?_
      refine sw_iconst (v := 0) (pc' := 67) ok dX2_pairFrom_66 rfl cc_iconst_0 ?_
      refine sw_cll0_U (st := []) (as := [.ref a0, .ref a1, .ref a2, .int (x3 + 1), .int 0]) (pc' := 70) ok (hREC a0 a1 a2 (x3 + 1) 0) (by omega) lk_X2_33 rfl dX2_pairFrom_67 rfl (Nat.le_of_ble_eq_true rfl) rfl (fun _ => ?_)
      exact hk14
    refine sw_aload_n (z := a0) (pc' := 36) ok dX2_pairFrom_35 rfl rfl ?_
    refine sw_aload_n (z := a1) (pc' := 37) ok dX2_pairFrom_36 rfl rfl ?_
    refine sw_aload_n (z := a2) (pc' := 38) ok dX2_pairFrom_37 rfl rfl ?_
    refine sw_iload_n (z := x3) (pc' := 39) ok dX2_pairFrom_38 rfl rfl ?_
    refine sw_iconst (v := 1) (pc' := 40) ok dX2_pairFrom_39 rfl cc_iconst_1 ?_
    refine sw_iadd (pc' := 41) ok dX2_pairFrom_40 rfl ?_
    refine sw_iload (z := x4) (pc' := 43) ok dX2_pairFrom_41 rfl rfl ?_
    refine sw_cll0_U (st := []) (as := [.ref a0, .ref a1, .ref a2, .int (x3 + 1), .int x4]) (pc' := 46) ok (hREC a0 a1 a2 (x3 + 1) x4) (by omega) lk_X2_33 rfl dX2_pairFrom_43 rfl (Nat.le_of_ble_eq_true rfl) rfl (fun _ => ?_)
    exact sw_ret ok okr dX2_pairFrom_46 trivial rfl
  refine sw_fg (l' := [some (.ref a0), some (.ref a1), some (.ref a2), none, none, none]) [true, true, true, false, false, false] rfl ?_
  exact hk1
theorem S_X2_pairFrom : ∀ (n : Nat) (a0 : Nat) (a1 : Nat) (a2 : Nat) (x3 : Int32) (x4 : Int32), Sim (n + 4) yX2_pairFrom cX2_pairFrom 6 (none) iU [.ref a0, .ref a1, .ref a2, .int x3, .int x4] (P_X2_pairFrom n a0 a1 a2 x3 x4) := by
  intro n
  induction n with
  | zero =>
    intros
    exact ⟨wd_952, by decide, fun _ _ _ _ _ h => by cases h⟩
  | succ n ih =>
    intro a0 a1 a2 x3 x4
    have hd : n + 1 + 4 = n + 1 + 4 := rfl
    exact Sim.intro wd_952 (by decide) (by decide +kernel) (Nat.le_of_ble_eq_true rfl) (fun Γ ok okr => W_X2_pairFrom (d0 := n) ok okr n ih a0 a1 a2 x3 x4)
theorem dX2_pairAll_0 : decode cX2_pairAll 0 = .ok (.aload_n 0, 1) := by decide +kernel
theorem dX2_pairAll_1 : decode cX2_pairAll 1 = .ok (.getfield 11, 3) := by decide +kernel
theorem dX2_pairAll_4 : decode cX2_pairAll 4 = .ok (.iconst (-1), 1) := by decide +kernel
theorem dX2_pairAll_5 : decode cX2_pairAll 5 = .ok (.invokestatic 24, 3) := by decide +kernel
theorem dX2_pairAll_8 : decode cX2_pairAll 8 = .ok (.aload_n 0, 1) := by decide +kernel
theorem dX2_pairAll_9 : decode cX2_pairAll 9 = .ok (.iconst (-1), 1) := by decide +kernel
theorem dX2_pairAll_10 : decode cX2_pairAll 10 = .ok (.putfield 20, 3) := by decide +kernel
theorem dX2_pairAll_13 : decode cX2_pairAll 13 = .ok (.aload_n 0, 1) := by decide +kernel
theorem dX2_pairAll_14 : decode cX2_pairAll 14 = .ok (.aload_n 1, 1) := by decide +kernel
theorem dX2_pairAll_15 : decode cX2_pairAll 15 = .ok (.aload_n 2, 1) := by decide +kernel
theorem dX2_pairAll_16 : decode cX2_pairAll 16 = .ok (.iconst 0, 1) := by decide +kernel
theorem dX2_pairAll_17 : decode cX2_pairAll 17 = .ok (.aload_n 1, 1) := by decide +kernel
theorem dX2_pairAll_18 : decode cX2_pairAll 18 = .ok (.getfield 30, 3) := by decide +kernel
theorem dX2_pairAll_21 : decode cX2_pairAll 21 = .ok (.iconst 2, 1) := by decide +kernel
theorem dX2_pairAll_22 : decode cX2_pairAll 22 = .ok (.irem, 1) := by decide +kernel
theorem dX2_pairAll_23 : decode cX2_pairAll 23 = .ok (.iconst 1, 1) := by decide +kernel
theorem dX2_pairAll_24 : decode cX2_pairAll 24 = .ok (.if_icmp .ne 7, 3) := by decide +kernel
theorem dX2_pairAll_27 : decode cX2_pairAll 27 = .ok (.iconst 1, 1) := by decide +kernel
theorem dX2_pairAll_28 : decode cX2_pairAll 28 = .ok (.goto 4, 3) := by decide +kernel
theorem dX2_pairAll_31 : decode cX2_pairAll 31 = .ok (.iconst 0, 1) := by decide +kernel
theorem dX2_pairAll_32 : decode cX2_pairAll 32 = .ok (.invokestatic 33, 3) := by decide +kernel
theorem dX2_pairAll_35 : decode cX2_pairAll 35 = .ok (.aload_n 0, 1) := by decide +kernel
theorem dX2_pairAll_36 : decode cX2_pairAll 36 = .ok (.getfield 20, 3) := by decide +kernel
theorem dX2_pairAll_39 : decode cX2_pairAll 39 = .ok (.ireturn, 1) := by decide +kernel
def P_X2_pairAll (a0 : Nat) (a1 : Nat) (a2 : Nat) : PM Int32 :=
getR 2 0 a0 fun v1 =>
cll0 (P_J7_fill_53178 v1 ((-1))) fun _ =>
setI 2 2 a0 ((-1)) <|
getI 0 4 a1 fun v2 =>
remI v2 2 fun v3 =>
jn (fun (j4 : Nat) (j5 : Nat) (j6 : Nat) (j7 : Int32) (j8 : Int32) =>
cll0 (P_X2_pairFrom 10 j4 j5 j6 j7 j8) fun _ =>
getI 2 2 a0 fun v9 =>
pureM v9) fun k10 =>
ifB (decide (¬ v3 = 1)) (
k10 a0 a1 a2 0 0) (
k10 a0 a1 a2 0 1)
set_option maxHeartbeats 4000000 in
set_option maxRecDepth 100000 in
theorem W_X2_pairAll {Γ : Cx} (ok : OKc Γ cX2_pairAll RX2 15 "pairAll") (okr : OKr Γ cX2_pairAll (some .int)) (a0 : Nat) (a1 : Nat) (a2 : Nat) : SW Γ iI 0 [some (.ref a0), some (.ref a1), some (.ref a2)] [] (P_X2_pairAll a0 a1 a2) := by
  unfold P_X2_pairAll
  refine sw_aload_n (z := a0) (pc' := 1) ok dX2_pairAll_0 rfl rfl ?_
  refine sw_getR (pc' := 4) ok (fr_X2_11.g) dX2_pairAll_1 rfl (fun v1 => ?_)
  refine sw_iconst (v := (-1)) (pc' := 5) ok dX2_pairAll_4 rfl cc_iconst_m1 ?_
  refine sw_cll0_U (st := []) (as := [.ref v1, .int ((-1))]) (pc' := 8) ok (S_J7_fill_53178 v1 ((-1))) (by decide) lk_X2_24 rfl dX2_pairAll_5 rfl (Nat.le_of_ble_eq_true rfl) rfl (fun _ => ?_)
  refine sw_aload_n (z := a0) (pc' := 9) ok dX2_pairAll_8 rfl rfl ?_
  refine sw_iconst (v := (-1)) (pc' := 10) ok dX2_pairAll_9 rfl cc_iconst_m1 ?_
  refine sw_setI (pc' := 13) ok fr_X2_20 dX2_pairAll_10 (fun h => by cases h) rfl ?_
  refine sw_aload_n (z := a0) (pc' := 14) ok dX2_pairAll_13 rfl rfl ?_
  refine sw_aload_n (z := a1) (pc' := 15) ok dX2_pairAll_14 rfl rfl ?_
  refine sw_aload_n (z := a2) (pc' := 16) ok dX2_pairAll_15 rfl rfl ?_
  refine sw_iconst (v := 0) (pc' := 17) ok dX2_pairAll_16 rfl cc_iconst_0 ?_
  refine sw_aload_n (z := a1) (pc' := 18) ok dX2_pairAll_17 rfl rfl ?_
  refine sw_getI (pc' := 21) ok (fr_X2_30.g) dX2_pairAll_18 rfl (fun v2 => ?_)
  refine sw_iconst (v := 2) (pc' := 22) ok dX2_pairAll_21 rfl cc_iconst_2 ?_
  refine sw_remI (pc' := 23) ok dX2_pairAll_22 rfl (fun v3 => ?_)
  refine sw_iconst (v := 1) (pc' := 24) ok dX2_pairAll_23 rfl cc_iconst_1 ?_
  refine sw_jn (fun k10 : Nat → Nat → Nat → Int32 → Int32 → PM Int32 => ∀ (j4 : Nat) (j5 : Nat) (j6 : Nat) (j7 : Int32) (j8 : Int32), SW Γ iI 32 [some (.ref a0), none, none] [.int j8, .int j7, .ref j6, .ref j5, .ref j4] (k10 j4 j5 j6 j7 j8)) ?_ (fun k10 hk10 => ?_)
  · intro j4 j5 j6 j7 j8
    refine sw_cll0_U (st := []) (as := [.ref j4, .ref j5, .ref j6, .int j7, .int j8]) (pc' := 35) ok (S_X2_pairFrom 10 j4 j5 j6 j7 j8) (by decide) lk_X2_33 rfl dX2_pairAll_32 rfl (Nat.le_of_ble_eq_true rfl) rfl (fun _ => ?_)
    refine sw_aload_n (z := a0) (pc' := 36) ok dX2_pairAll_35 rfl rfl ?_
    refine sw_getI (pc' := 39) ok (fr_X2_20.g) dX2_pairAll_36 rfl (fun v9 => ?_)
    exact sw_ret ok okr dX2_pairAll_39 trivial rfl
  refine sw_icmp_ne (tgt := 31) (pc' := 27) ok dX2_pairAll_24 (by decide) rfl ?_ ?_
  · refine sw_iconst (v := 0) (pc' := 32) ok dX2_pairAll_31 rfl cc_iconst_0 ?_
    refine sw_fg (l' := [some (.ref a0), none, none]) [true, false, false] rfl ?_
    exact hk10 a0 a1 a2 0 0
  refine sw_iconst (v := 1) (pc' := 28) ok dX2_pairAll_27 rfl cc_iconst_1 ?_
  refine sw_goto (tgt := 32) ok dX2_pairAll_28 (by decide) ?_
  refine sw_fg (l' := [some (.ref a0), none, none]) [true, false, false] rfl ?_
  exact hk10 a0 a1 a2 0 1
theorem S_X2_pairAll (a0 : Nat) (a1 : Nat) (a2 : Nat) : Sim 15 yX2_pairAll cX2_pairAll 3 (some .int) iI [.ref a0, .ref a1, .ref a2] (P_X2_pairAll a0 a1 a2) := Sim.intro wd_953 (by decide) (by decide +kernel) (Nat.le_of_ble_eq_true rfl) (fun Γ ok okr => W_X2_pairAll ok okr a0 a1 a2)
theorem dX3_init_0 : decode cX3_init 0 = .ok (.aload_n 0, 1) := by decide +kernel
theorem dX3_init_1 : decode cX3_init 1 = .ok (.invokespecial 1, 3) := by decide +kernel
theorem dX3_init_4 : decode cX3_init 4 = .ok (.aload_n 0, 1) := by decide +kernel
theorem dX3_init_5 : decode cX3_init 5 = .ok (.new 7, 3) := by decide +kernel
theorem dX3_init_8 : decode cX3_init 8 = .ok (.dup, 1) := by decide +kernel
theorem dX3_init_9 : decode cX3_init 9 = .ok (.invokespecial 9, 3) := by decide +kernel
theorem dX3_init_12 : decode cX3_init 12 = .ok (.putfield 10, 3) := by decide +kernel
theorem dX3_init_15 : decode cX3_init 15 = .ok (.aload_n 0, 1) := by decide +kernel
theorem dX3_init_16 : decode cX3_init 16 = .ok (.bipush 40, 2) := by decide +kernel
theorem dX3_init_18 : decode cX3_init 18 = .ok (.newarray .int, 2) := by decide +kernel
theorem dX3_init_20 : decode cX3_init 20 = .ok (.putfield 16, 3) := by decide +kernel
theorem dX3_init_23 : decode cX3_init 23 = .ok (.aload_n 0, 1) := by decide +kernel
theorem dX3_init_24 : decode cX3_init 24 = .ok (.iconst 0, 1) := by decide +kernel
theorem dX3_init_25 : decode cX3_init 25 = .ok (.putfield 20, 3) := by decide +kernel
theorem dX3_init_28 : decode cX3_init 28 = .ok (.aload_n 0, 1) := by decide +kernel
theorem dX3_init_29 : decode cX3_init 29 = .ok (.iconst 0, 1) := by decide +kernel
theorem dX3_init_30 : decode cX3_init 30 = .ok (.putfield 24, 3) := by decide +kernel
theorem dX3_init_33 : decode cX3_init 33 = .ok (.aload_n 0, 1) := by decide +kernel
theorem dX3_init_34 : decode cX3_init 34 = .ok (.iconst 0, 1) := by decide +kernel
theorem dX3_init_35 : decode cX3_init 35 = .ok (.putfield 27, 3) := by decide +kernel
theorem dX3_init_38 : decode cX3_init 38 = .ok (.aload_n 0, 1) := by decide +kernel
theorem dX3_init_39 : decode cX3_init 39 = .ok (.iconst 0, 1) := by decide +kernel
theorem dX3_init_40 : decode cX3_init 40 = .ok (.putfield 30, 3) := by decide +kernel
theorem dX3_init_43 : decode cX3_init 43 = .ok (.aload_n 0, 1) := by decide +kernel
theorem dX3_init_44 : decode cX3_init 44 = .ok (.iconst 0, 1) := by decide +kernel
theorem dX3_init_45 : decode cX3_init 45 = .ok (.putfield 33, 3) := by decide +kernel
theorem dX3_init_48 : decode cX3_init 48 = .ok (.return_, 1) := by decide +kernel
def P_X3_init (a0 : Nat) : PM Unit :=
newO 1 4 [.null, .null, .int 0, .int 0] fun o1 =>
cllA (P_X1_init o1) fun _ =>
setR 3 0 a0 o1 <|
newA 40 fun o2 =>
setR 3 1 a0 o2 <|
setI 3 2 a0 0 <|
setI 3 3 a0 0 <|
setI 3 4 a0 0 <|
setI 3 5 a0 0 <|
setZ 3 6 a0 0 <|
pureM ()
set_option maxHeartbeats 4000000 in
set_option maxRecDepth 100000 in
theorem W_X3_init {Γ : Cx} (ok : OKc Γ cX3_init RX3 2 "<init>") (okr : OKr Γ cX3_init (none)) (a0 : Nat) : SW Γ iU 0 [some (.ref a0)] [] (P_X3_init a0) := by
  unfold P_X3_init
  refine sw_aload_n (z := a0) (pc' := 1) ok dX3_init_0 rfl rfl ?_
  refine sw_obj (pc' := 4) ok wd_79 wd_1 wd_2 (by decide) dX3_init_1 rfl (Nat.le_of_ble_eq_true rfl) ?_
  refine sw_aload_n (z := a0) (pc' := 5) ok dX3_init_4 rfl rfl ?_
  refine sw_newO (T := TX1) (pc' := 8) ok rfl ck_X1 tyX1_ok wd_80 wd_81 wd_36 df_X1 dX3_init_5 rfl (fun o1 => ?_)
  refine sw_dup (pc' := 9) ok dX3_init_8 rfl rfl ?_
  refine sw_cllA_U (st := [.ref o1, .ref a0]) (as := []) (pc' := 12) ok (S_X1_init o1) (by decide) lk_X3_9 rfl dX3_init_9 rfl (Nat.le_of_ble_eq_true rfl) rfl (fun _ => ?_)
  refine sw_setR (pc' := 15) ok fr_X3_10 (fun _ => ⟨rfl, rfl⟩) dX3_init_12 (fun _ => rfl) rfl ?_
  refine sw_aload_n (z := a0) (pc' := 16) ok dX3_init_15 rfl rfl ?_
  refine sw_bipush (v := 40) (pc' := 18) ok dX3_init_16 rfl cc_bipush_40 ?_
  refine sw_newA (pc' := 20) ok wd_3 dX3_init_18 rfl (fun o2 => ?_)
  refine sw_setR (pc' := 23) ok fr_X3_16 (fun _ => ⟨rfl, rfl⟩) dX3_init_20 (fun _ => rfl) rfl ?_
  refine sw_aload_n (z := a0) (pc' := 24) ok dX3_init_23 rfl rfl ?_
  refine sw_iconst (v := 0) (pc' := 25) ok dX3_init_24 rfl cc_iconst_0 ?_
  refine sw_setI (pc' := 28) ok fr_X3_20 dX3_init_25 (fun h => by cases h) rfl ?_
  refine sw_aload_n (z := a0) (pc' := 29) ok dX3_init_28 rfl rfl ?_
  refine sw_iconst (v := 0) (pc' := 30) ok dX3_init_29 rfl cc_iconst_0 ?_
  refine sw_setI (pc' := 33) ok fr_X3_24 dX3_init_30 (fun h => by cases h) rfl ?_
  refine sw_aload_n (z := a0) (pc' := 34) ok dX3_init_33 rfl rfl ?_
  refine sw_iconst (v := 0) (pc' := 35) ok dX3_init_34 rfl cc_iconst_0 ?_
  refine sw_setI (pc' := 38) ok fr_X3_27 dX3_init_35 (fun h => by cases h) rfl ?_
  refine sw_aload_n (z := a0) (pc' := 39) ok dX3_init_38 rfl rfl ?_
  refine sw_iconst (v := 0) (pc' := 40) ok dX3_init_39 rfl cc_iconst_0 ?_
  refine sw_setI (pc' := 43) ok fr_X3_30 dX3_init_40 (fun h => by cases h) rfl ?_
  refine sw_aload_n (z := a0) (pc' := 44) ok dX3_init_43 rfl rfl ?_
  refine sw_iconst (v := 0) (pc' := 45) ok dX3_init_44 rfl cc_iconst_0 ?_
  refine sw_setZ (pc' := 48) ok fr_X3_33 dX3_init_45 (fun h => by cases h) rfl ?_
  exact sw_ret ok okr dX3_init_48 trivial rfl
theorem S_X3_init (a0 : Nat) : Sim 2 yX3_init cX3_init 1 (none) iU [.ref a0] (P_X3_init a0) := Sim.intro wd_954 (by decide) (by decide +kernel) (Nat.le_of_ble_eq_true rfl) (fun Γ ok okr => W_X3_init ok okr a0)
theorem dX3_begin_0 : decode cX3_begin 0 = .ok (.aload_n 0, 1) := by decide +kernel
theorem dX3_begin_1 : decode cX3_begin 1 = .ok (.getfield 10, 3) := by decide +kernel
theorem dX3_begin_4 : decode cX3_begin 4 = .ok (.aload_n 1, 1) := by decide +kernel
theorem dX3_begin_5 : decode cX3_begin 5 = .ok (.invokevirtual 37, 3) := by decide +kernel
theorem dX3_begin_8 : decode cX3_begin 8 = .ok (.aload_n 0, 1) := by decide +kernel
theorem dX3_begin_9 : decode cX3_begin 9 = .ok (.iconst 0, 1) := by decide +kernel
theorem dX3_begin_10 : decode cX3_begin 10 = .ok (.putfield 20, 3) := by decide +kernel
theorem dX3_begin_13 : decode cX3_begin 13 = .ok (.aload_n 0, 1) := by decide +kernel
theorem dX3_begin_14 : decode cX3_begin 14 = .ok (.aload_n 1, 1) := by decide +kernel
theorem dX3_begin_15 : decode cX3_begin 15 = .ok (.getfield 41, 3) := by decide +kernel
theorem dX3_begin_18 : decode cX3_begin 18 = .ok (.putfield 24, 3) := by decide +kernel
theorem dX3_begin_21 : decode cX3_begin 21 = .ok (.aload_n 0, 1) := by decide +kernel
theorem dX3_begin_22 : decode cX3_begin 22 = .ok (.iconst 0, 1) := by decide +kernel
theorem dX3_begin_23 : decode cX3_begin 23 = .ok (.putfield 27, 3) := by decide +kernel
theorem dX3_begin_26 : decode cX3_begin 26 = .ok (.aload_n 0, 1) := by decide +kernel
theorem dX3_begin_27 : decode cX3_begin 27 = .ok (.iconst 0, 1) := by decide +kernel
theorem dX3_begin_28 : decode cX3_begin 28 = .ok (.putfield 30, 3) := by decide +kernel
theorem dX3_begin_31 : decode cX3_begin 31 = .ok (.return_, 1) := by decide +kernel
def P_X3_begin (a0 : Nat) (a1 : Nat) : PM Unit :=
getR 3 0 a0 fun v1 =>
cllV 1 v1 (P_X1_begin v1 a1) fun _ =>
setI 3 2 a0 0 <|
getI 0 6 a1 fun v2 =>
setI 3 3 a0 v2 <|
setI 3 4 a0 0 <|
setI 3 5 a0 0 <|
pureM ()
set_option maxHeartbeats 4000000 in
set_option maxRecDepth 100000 in
theorem W_X3_begin {Γ : Cx} (ok : OKc Γ cX3_begin RX3 4 "begin") (okr : OKr Γ cX3_begin (none)) (a0 : Nat) (a1 : Nat) : SW Γ iU 0 [some (.ref a0), some (.ref a1)] [] (P_X3_begin a0 a1) := by
  unfold P_X3_begin
  refine sw_aload_n (z := a0) (pc' := 1) ok dX3_begin_0 rfl rfl ?_
  refine sw_getR (pc' := 4) ok (fr_X3_10.g) dX3_begin_1 rfl (fun v1 => ?_)
  refine sw_aload_n (z := a1) (pc' := 5) ok dX3_begin_4 rfl rfl ?_
  refine sw_cllV_U (st := []) (as := [.ref a1]) (pc' := 8) ok (S_X1_begin v1 a1) (by decide) lk_X3_37 rfl dX3_begin_5 rfl (Nat.le_of_ble_eq_true rfl) rfl (fun _ => ?_)
  refine sw_aload_n (z := a0) (pc' := 9) ok dX3_begin_8 rfl rfl ?_
  refine sw_iconst (v := 0) (pc' := 10) ok dX3_begin_9 rfl cc_iconst_0 ?_
  refine sw_setI (pc' := 13) ok fr_X3_20 dX3_begin_10 (fun h => by cases h) rfl ?_
  refine sw_aload_n (z := a0) (pc' := 14) ok dX3_begin_13 rfl rfl ?_
  refine sw_aload_n (z := a1) (pc' := 15) ok dX3_begin_14 rfl rfl ?_
  refine sw_getI (pc' := 18) ok (fr_X3_41.g) dX3_begin_15 rfl (fun v2 => ?_)
  refine sw_setI (pc' := 21) ok fr_X3_24 dX3_begin_18 (fun h => by cases h) rfl ?_
  refine sw_aload_n (z := a0) (pc' := 22) ok dX3_begin_21 rfl rfl ?_
  refine sw_iconst (v := 0) (pc' := 23) ok dX3_begin_22 rfl cc_iconst_0 ?_
  refine sw_setI (pc' := 26) ok fr_X3_27 dX3_begin_23 (fun h => by cases h) rfl ?_
  refine sw_aload_n (z := a0) (pc' := 27) ok dX3_begin_26 rfl rfl ?_
  refine sw_iconst (v := 0) (pc' := 28) ok dX3_begin_27 rfl cc_iconst_0 ?_
  refine sw_setI (pc' := 31) ok fr_X3_30 dX3_begin_28 (fun h => by cases h) rfl ?_
  exact sw_ret ok okr dX3_begin_31 trivial rfl
theorem S_X3_begin (a0 : Nat) (a1 : Nat) : Sim 4 yX3_begin cX3_begin 2 (none) iU [.ref a0, .ref a1] (P_X3_begin a0 a1) := Sim.intro wd_955 (by decide) (by decide +kernel) (Nat.le_of_ble_eq_true rfl) (fun Γ ok okr => W_X3_begin ok okr a0 a1)
theorem dX3_become_0 : decode cX3_become 0 = .ok (.aload_n 0, 1) := by decide +kernel
theorem dX3_become_1 : decode cX3_become 1 = .ok (.getfield 10, 3) := by decide +kernel
theorem dX3_become_4 : decode cX3_become 4 = .ok (.aload_n 1, 1) := by decide +kernel
theorem dX3_become_5 : decode cX3_become 5 = .ok (.getfield 10, 3) := by decide +kernel
theorem dX3_become_8 : decode cX3_become 8 = .ok (.invokevirtual 44, 3) := by decide +kernel
theorem dX3_become_11 : decode cX3_become 11 = .ok (.iconst 0, 1) := by decide +kernel
theorem dX3_become_12 : decode cX3_become 12 = .ok (.istore_n 2, 1) := by decide +kernel
theorem dX3_become_13 : decode cX3_become 13 = .ok (.iload_n 2, 1) := by decide +kernel
theorem dX3_become_14 : decode cX3_become 14 = .ok (.bipush 40, 2) := by decide +kernel
theorem dX3_become_16 : decode cX3_become 16 = .ok (.if_icmp .ge 21, 3) := by decide +kernel
theorem dX3_become_19 : decode cX3_become 19 = .ok (.aload_n 0, 1) := by decide +kernel
theorem dX3_become_20 : decode cX3_become 20 = .ok (.getfield 16, 3) := by decide +kernel
theorem dX3_become_23 : decode cX3_become 23 = .ok (.iload_n 2, 1) := by decide +kernel
theorem dX3_become_24 : decode cX3_become 24 = .ok (.aload_n 1, 1) := by decide +kernel
theorem dX3_become_25 : decode cX3_become 25 = .ok (.getfield 16, 3) := by decide +kernel
theorem dX3_become_28 : decode cX3_become 28 = .ok (.iload_n 2, 1) := by decide +kernel
theorem dX3_become_29 : decode cX3_become 29 = .ok (.iaload, 1) := by decide +kernel
theorem dX3_become_30 : decode cX3_become 30 = .ok (.iastore, 1) := by decide +kernel
theorem dX3_become_31 : decode cX3_become 31 = .ok (.iinc 2 1, 3) := by decide +kernel
theorem dX3_become_34 : decode cX3_become 34 = .ok (.goto (-21), 3) := by decide +kernel
theorem dX3_become_37 : decode cX3_become 37 = .ok (.aload_n 0, 1) := by decide +kernel
theorem dX3_become_38 : decode cX3_become 38 = .ok (.aload_n 1, 1) := by decide +kernel
theorem dX3_become_39 : decode cX3_become 39 = .ok (.getfield 20, 3) := by decide +kernel
theorem dX3_become_42 : decode cX3_become 42 = .ok (.putfield 20, 3) := by decide +kernel
theorem dX3_become_45 : decode cX3_become 45 = .ok (.aload_n 0, 1) := by decide +kernel
theorem dX3_become_46 : decode cX3_become 46 = .ok (.aload_n 1, 1) := by decide +kernel
theorem dX3_become_47 : decode cX3_become 47 = .ok (.getfield 24, 3) := by decide +kernel
theorem dX3_become_50 : decode cX3_become 50 = .ok (.putfield 24, 3) := by decide +kernel
theorem dX3_become_53 : decode cX3_become 53 = .ok (.aload_n 0, 1) := by decide +kernel
theorem dX3_become_54 : decode cX3_become 54 = .ok (.aload_n 1, 1) := by decide +kernel
theorem dX3_become_55 : decode cX3_become 55 = .ok (.getfield 27, 3) := by decide +kernel
theorem dX3_become_58 : decode cX3_become 58 = .ok (.putfield 27, 3) := by decide +kernel
theorem dX3_become_61 : decode cX3_become 61 = .ok (.aload_n 0, 1) := by decide +kernel
theorem dX3_become_62 : decode cX3_become 62 = .ok (.aload_n 1, 1) := by decide +kernel
theorem dX3_become_63 : decode cX3_become 63 = .ok (.getfield 30, 3) := by decide +kernel
theorem dX3_become_66 : decode cX3_become 66 = .ok (.putfield 30, 3) := by decide +kernel
theorem dX3_become_69 : decode cX3_become 69 = .ok (.return_, 1) := by decide +kernel
def P_X3_become_13 (k_37 : PM Unit) (p0 : Nat) (p1 : Nat) : Nat → Int32 → PM Unit
  | 0, _ => failM
  | n + 1, q2 =>
    ifB (decide (40 ≤ q2)) (
    k_37) (
    getR 3 1 p0 fun v8 =>
    getR 3 1 p1 fun v9 =>
    ald v9 q2 fun v10 =>
    ast v8 q2 v10 <|
    P_X3_become_13 k_37 p0 p1 n (q2 + 1))
def P_X3_become (a0 : Nat) (a1 : Nat) : PM Unit :=
getR 3 0 a0 fun v1 =>
getR 3 0 a1 fun v2 =>
cllV 1 v1 (P_X1_become v1 v2) fun _ =>
jn (
getI 3 2 a1 fun v3 =>
setI 3 2 a0 v3 <|
getI 3 3 a1 fun v4 =>
setI 3 3 a0 v4 <|
getI 3 4 a1 fun v5 =>
setI 3 4 a0 v5 <|
getI 3 5 a1 fun v6 =>
setI 3 5 a0 v6 <|
pureM ()) fun k7 =>
P_X3_become_13 k7 a0 a1 4000 0
set_option maxHeartbeats 4000000 in
set_option maxRecDepth 100000 in
theorem W_X3_become_13 {Γ : Cx} (ok : OKc Γ cX3_become RX3 1 "become") (okr : OKr Γ cX3_become (none)) (k_37 : PM Unit) (p0 : Nat) (p1 : Nat) (hk_37 : SW Γ iU 37 [some (.ref p0), some (.ref p1), none] [] (k_37)) : ∀ (n : Nat) (q2 : Int32), SW Γ iU 13 [some (.ref p0), some (.ref p1), some (.int q2)] [] (P_X3_become_13 k_37 p0 p1 n q2) := by
  intro n
  induction n with
  | zero =>
    intros
    exact sw_fail
  | succ n ih =>
    intro q2
    unfold P_X3_become_13
    refine sw_iload_n (z := q2) (pc' := 14) ok dX3_become_13 rfl rfl ?_
    refine sw_bipush (v := 40) (pc' := 16) ok dX3_become_14 rfl cc_bipush_40 ?_
    refine sw_icmp_ge (tgt := 37) (pc' := 19) ok dX3_become_16 (by decide) rfl ?_ ?_
    · refine sw_fg (l' := [some (.ref p0), some (.ref p1), none]) [true, true, false] rfl ?_
      exact hk_37
    refine sw_aload_n (z := p0) (pc' := 20) ok dX3_become_19 rfl rfl ?_
    refine sw_getR (pc' := 23) ok (fr_X3_16.g) dX3_become_20 rfl (fun v8 => ?_)
    refine sw_iload_n (z := q2) (pc' := 24) ok dX3_become_23 rfl rfl ?_
    refine sw_aload_n (z := p1) (pc' := 25) ok dX3_become_24 rfl rfl ?_
    refine sw_getR (pc' := 28) ok (fr_X3_16.g) dX3_become_25 rfl (fun v9 => ?_)
    refine sw_iload_n (z := q2) (pc' := 29) ok dX3_become_28 rfl rfl ?_
    refine sw_ald (pc' := 30) ok dX3_become_29 rfl (fun v10 => ?_)
    refine sw_ast (pc' := 31) ok dX3_become_30 rfl ?_
    refine sw_iinc (z := q2) (v := q2 + 1) (pc' := 34) (l' := [some (.ref p0), some (.ref p1), some (.int (q2 + 1))]) ok dX3_become_31 rfl rfl (by rw [cc_iconst_1]) rfl ?_
    refine sw_goto (tgt := 13) ok dX3_become_34 (by decide) ?_
    exact ih (q2 + 1)
set_option maxHeartbeats 4000000 in
set_option maxRecDepth 100000 in
theorem W_X3_become {Γ : Cx} (ok : OKc Γ cX3_become RX3 1 "become") (okr : OKr Γ cX3_become (none)) (a0 : Nat) (a1 : Nat) : SW Γ iU 0 [some (.ref a0), some (.ref a1), none] [] (P_X3_become a0 a1) := by
  unfold P_X3_become
  refine sw_aload_n (z := a0) (pc' := 1) ok dX3_become_0 rfl rfl ?_
  refine sw_getR (pc' := 4) ok (fr_X3_10.g) dX3_become_1 rfl (fun v1 => ?_)
  refine sw_aload_n (z := a1) (pc' := 5) ok dX3_become_4 rfl rfl ?_
  refine sw_getR (pc' := 8) ok (fr_X3_10.g) dX3_become_5 rfl (fun v2 => ?_)
  refine sw_cllV_U (st := []) (as := [.ref v2]) (pc' := 11) ok (S_X1_become v1 v2) (by decide) lk_X3_44 rfl dX3_become_8 rfl (Nat.le_of_ble_eq_true rfl) rfl (fun _ => ?_)
  refine sw_iconst (v := 0) (pc' := 12) ok dX3_become_11 rfl cc_iconst_0 ?_
  refine sw_istore_n (pc' := 13) (l' := [some (.ref a0), some (.ref a1), some (.int 0)]) ok dX3_become_12 rfl (Nat.le_of_ble_eq_true rfl) rfl ?_
  refine sw_jn (fun k7 : PM Unit => SW Γ iU 37 [some (.ref a0), some (.ref a1), none] [] (k7)) ?_ (fun k7 hk7 => ?_)
  · refine sw_aload_n (z := a0) (pc' := 38) ok dX3_become_37 rfl rfl ?_
    refine sw_aload_n (z := a1) (pc' := 39) ok dX3_become_38 rfl rfl ?_
    refine sw_getI (pc' := 42) ok (fr_X3_20.g) dX3_become_39 rfl (fun v3 => ?_)
    refine sw_setI (pc' := 45) ok fr_X3_20 dX3_become_42 (fun h => by cases h) rfl ?_
    refine sw_aload_n (z := a0) (pc' := 46) ok dX3_become_45 rfl rfl ?_
    refine sw_aload_n (z := a1) (pc' := 47) ok dX3_become_46 rfl rfl ?_
    refine sw_getI (pc' := 50) ok (fr_X3_24.g) dX3_become_47 rfl (fun v4 => ?_)
    refine sw_setI (pc' := 53) ok fr_X3_24 dX3_become_50 (fun h => by cases h) rfl ?_
    refine sw_aload_n (z := a0) (pc' := 54) ok dX3_become_53 rfl rfl ?_
    refine sw_aload_n (z := a1) (pc' := 55) ok dX3_become_54 rfl rfl ?_
    refine sw_getI (pc' := 58) ok (fr_X3_27.g) dX3_become_55 rfl (fun v5 => ?_)
    refine sw_setI (pc' := 61) ok fr_X3_27 dX3_become_58 (fun h => by cases h) rfl ?_
    refine sw_aload_n (z := a0) (pc' := 62) ok dX3_become_61 rfl rfl ?_
    refine sw_aload_n (z := a1) (pc' := 63) ok dX3_become_62 rfl rfl ?_
    refine sw_getI (pc' := 66) ok (fr_X3_30.g) dX3_become_63 rfl (fun v6 => ?_)
    refine sw_setI (pc' := 69) ok fr_X3_30 dX3_become_66 (fun h => by cases h) rfl ?_
    exact sw_ret ok okr dX3_become_69 trivial rfl
  exact W_X3_become_13 ok okr k7 a0 a1 hk7 4000 0
theorem S_X3_become (a0 : Nat) (a1 : Nat) : Sim 1 yX3_become cX3_become 3 (none) iU [.ref a0, .ref a1] (P_X3_become a0 a1) := Sim.intro wd_956 (by decide) (by decide +kernel) (Nat.le_of_ble_eq_true rfl) (fun Γ ok okr => W_X3_become ok okr a0 a1)
theorem dX3_hasRoom_0 : decode cX3_hasRoom 0 = .ok (.iload_n 1, 1) := by decide +kernel
theorem dX3_hasRoom_1 : decode cX3_hasRoom 1 = .ok (.bipush 40, 2) := by decide +kernel
theorem dX3_hasRoom_3 : decode cX3_hasRoom 3 = .ok (.aload_n 0, 1) := by decide +kernel
theorem dX3_hasRoom_4 : decode cX3_hasRoom 4 = .ok (.getfield 20, 3) := by decide +kernel
theorem dX3_hasRoom_7 : decode cX3_hasRoom 7 = .ok (.isub, 1) := by decide +kernel
theorem dX3_hasRoom_8 : decode cX3_hasRoom 8 = .ok (.if_icmp .gt 7, 3) := by decide +kernel
theorem dX3_hasRoom_11 : decode cX3_hasRoom 11 = .ok (.iconst 1, 1) := by decide +kernel
theorem dX3_hasRoom_12 : decode cX3_hasRoom 12 = .ok (.goto 4, 3) := by decide +kernel
theorem dX3_hasRoom_15 : decode cX3_hasRoom 15 = .ok (.iconst 0, 1) := by decide +kernel
theorem dX3_hasRoom_16 : decode cX3_hasRoom 16 = .ok (.ireturn, 1) := by decide +kernel
def P_X3_hasRoom (a0 : Nat) (x1 : Int32) : PM Int32 :=
getI 3 2 a0 fun v1 =>
ifB (decide ((40 - v1) < x1)) (
retZ 0) (
retZ 1)
set_option maxHeartbeats 4000000 in
set_option maxRecDepth 100000 in
theorem W_X3_hasRoom {Γ : Cx} (ok : OKc Γ cX3_hasRoom RX3 0 "hasRoom") (okr : OKr Γ cX3_hasRoom (some .boolean)) (a0 : Nat) (x1 : Int32) : SW Γ iI 0 [some (.ref a0), some (.int x1)] [] (P_X3_hasRoom a0 x1) := by
  unfold P_X3_hasRoom
  refine sw_iload_n (z := x1) (pc' := 1) ok dX3_hasRoom_0 rfl rfl ?_
  refine sw_bipush (v := 40) (pc' := 3) ok dX3_hasRoom_1 rfl cc_bipush_40 ?_
  refine sw_aload_n (z := a0) (pc' := 4) ok dX3_hasRoom_3 rfl rfl ?_
  refine sw_getI (pc' := 7) ok (fr_X3_20.g) dX3_hasRoom_4 rfl (fun v1 => ?_)
  refine sw_isub (pc' := 8) ok dX3_hasRoom_7 rfl ?_
  refine sw_icmp_gt (tgt := 15) (pc' := 11) ok dX3_hasRoom_8 (by decide) rfl ?_ ?_
  · refine sw_iconst (v := 0) (pc' := 16) ok dX3_hasRoom_15 rfl cc_iconst_0 ?_
    exact sw_retZ ok okr dX3_hasRoom_16
  refine sw_iconst (v := 1) (pc' := 12) ok dX3_hasRoom_11 rfl cc_iconst_1 ?_
  refine sw_goto (tgt := 16) ok dX3_hasRoom_12 (by decide) ?_
  exact sw_retZ ok okr dX3_hasRoom_16
theorem S_X3_hasRoom (a0 : Nat) (x1 : Int32) : Sim 0 yX3_hasRoom cX3_hasRoom 2 (some .boolean) iI [.ref a0, .int x1] (P_X3_hasRoom a0 x1) := Sim.intro wd_957 (by decide) (by decide +kernel) (Nat.le_of_ble_eq_true rfl) (fun Γ ok okr => W_X3_hasRoom ok okr a0 x1)
theorem dX3_note_0 : decode cX3_note 0 = .ok (.aload_n 0, 1) := by decide +kernel
theorem dX3_note_1 : decode cX3_note 1 = .ok (.getfield 20, 3) := by decide +kernel
theorem dX3_note_4 : decode cX3_note 4 = .ok (.ifCond .lt 32, 3) := by decide +kernel
theorem dX3_note_7 : decode cX3_note 7 = .ok (.aload_n 0, 1) := by decide +kernel
theorem dX3_note_8 : decode cX3_note 8 = .ok (.getfield 20, 3) := by decide +kernel
theorem dX3_note_11 : decode cX3_note 11 = .ok (.bipush 40, 2) := by decide +kernel
theorem dX3_note_13 : decode cX3_note 13 = .ok (.if_icmp .ge 23, 3) := by decide +kernel
theorem dX3_note_16 : decode cX3_note 16 = .ok (.aload_n 0, 1) := by decide +kernel
theorem dX3_note_17 : decode cX3_note 17 = .ok (.getfield 16, 3) := by decide +kernel
theorem dX3_note_20 : decode cX3_note 20 = .ok (.aload_n 0, 1) := by decide +kernel
theorem dX3_note_21 : decode cX3_note 21 = .ok (.getfield 20, 3) := by decide +kernel
theorem dX3_note_24 : decode cX3_note 24 = .ok (.iload_n 1, 1) := by decide +kernel
theorem dX3_note_25 : decode cX3_note 25 = .ok (.iastore, 1) := by decide +kernel
theorem dX3_note_26 : decode cX3_note 26 = .ok (.aload_n 0, 1) := by decide +kernel
theorem dX3_note_27 : decode cX3_note 27 = .ok (.dup, 1) := by decide +kernel
theorem dX3_note_28 : decode cX3_note 28 = .ok (.getfield 20, 3) := by decide +kernel
theorem dX3_note_31 : decode cX3_note 31 = .ok (.iconst 1, 1) := by decide +kernel
theorem dX3_note_32 : decode cX3_note 32 = .ok (.iadd, 1) := by decide +kernel
theorem dX3_note_33 : decode cX3_note 33 = .ok (.putfield 20, 3) := by decide +kernel
theorem dX3_note_36 : decode cX3_note 36 = .ok (.return_, 1) := by decide +kernel
def P_X3_note (a0 : Nat) (x1 : Int32) : PM Unit :=
getI 3 2 a0 fun v1 =>
ifB (decide (v1 < 0)) (
pureM ()) (
getI 3 2 a0 fun v2 =>
ifB (decide (40 ≤ v2)) (
pureM ()) (
getR 3 1 a0 fun v3 =>
getI 3 2 a0 fun v4 =>
ast v3 v4 x1 <|
getI 3 2 a0 fun v5 =>
setI 3 2 a0 (v5 + 1) <|
pureM ()))
set_option maxHeartbeats 4000000 in
set_option maxRecDepth 100000 in
theorem W_X3_note {Γ : Cx} (ok : OKc Γ cX3_note RX3 0 "note") (okr : OKr Γ cX3_note (none)) (a0 : Nat) (x1 : Int32) : SW Γ iU 0 [some (.ref a0), some (.int x1)] [] (P_X3_note a0 x1) := by
  unfold P_X3_note
  refine sw_aload_n (z := a0) (pc' := 1) ok dX3_note_0 rfl rfl ?_
  refine sw_getI (pc' := 4) ok (fr_X3_20.g) dX3_note_1 rfl (fun v1 => ?_)
  refine sw_if_lt (tgt := 36) (pc' := 7) ok dX3_note_4 (by decide) rfl ?_ ?_
  · exact sw_ret ok okr dX3_note_36 trivial rfl
  refine sw_aload_n (z := a0) (pc' := 8) ok dX3_note_7 rfl rfl ?_
  refine sw_getI (pc' := 11) ok (fr_X3_20.g) dX3_note_8 rfl (fun v2 => ?_)
  refine sw_bipush (v := 40) (pc' := 13) ok dX3_note_11 rfl cc_bipush_40 ?_
  refine sw_icmp_ge (tgt := 36) (pc' := 16) ok dX3_note_13 (by decide) rfl ?_ ?_
  · exact sw_ret ok okr dX3_note_36 trivial rfl
  refine sw_aload_n (z := a0) (pc' := 17) ok dX3_note_16 rfl rfl ?_
  refine sw_getR (pc' := 20) ok (fr_X3_16.g) dX3_note_17 rfl (fun v3 => ?_)
  refine sw_aload_n (z := a0) (pc' := 21) ok dX3_note_20 rfl rfl ?_
  refine sw_getI (pc' := 24) ok (fr_X3_20.g) dX3_note_21 rfl (fun v4 => ?_)
  refine sw_iload_n (z := x1) (pc' := 25) ok dX3_note_24 rfl rfl ?_
  refine sw_ast (pc' := 26) ok dX3_note_25 rfl ?_
  refine sw_aload_n (z := a0) (pc' := 27) ok dX3_note_26 rfl rfl ?_
  refine sw_dup (pc' := 28) ok dX3_note_27 rfl rfl ?_
  refine sw_getI (pc' := 31) ok (fr_X3_20.g) dX3_note_28 rfl (fun v5 => ?_)
  refine sw_iconst (v := 1) (pc' := 32) ok dX3_note_31 rfl cc_iconst_1 ?_
  refine sw_iadd (pc' := 33) ok dX3_note_32 rfl ?_
  refine sw_setI (pc' := 36) ok fr_X3_20 dX3_note_33 (fun h => by cases h) rfl ?_
  exact sw_ret ok okr dX3_note_36 trivial rfl
theorem S_X3_note (a0 : Nat) (x1 : Int32) : Sim 0 yX3_note cX3_note 2 (none) iU [.ref a0, .int x1] (P_X3_note a0 x1) := Sim.intro wd_958 (by decide) (by decide +kernel) (Nat.le_of_ble_eq_true rfl) (fun Γ ok okr => W_X3_note ok okr a0 x1)
theorem dX3_doWatch_0 : decode cX3_doWatch 0 = .ok (.aload_n 0, 1) := by decide +kernel
theorem dX3_doWatch_1 : decode cX3_doWatch 1 = .ok (.bipush 10, 2) := by decide +kernel
theorem dX3_doWatch_3 : decode cX3_doWatch 3 = .ok (.iload_n 2, 1) := by decide +kernel
theorem dX3_doWatch_4 : decode cX3_doWatch 4 = .ok (.imul, 1) := by decide +kernel
theorem dX3_doWatch_5 : decode cX3_doWatch 5 = .ok (.iload_n 3, 1) := by decide +kernel
theorem dX3_doWatch_6 : decode cX3_doWatch 6 = .ok (.iadd, 1) := by decide +kernel
theorem dX3_doWatch_7 : decode cX3_doWatch 7 = .ok (.invokevirtual 48, 3) := by decide +kernel
theorem dX3_doWatch_10 : decode cX3_doWatch 10 = .ok (.aload_n 0, 1) := by decide +kernel
theorem dX3_doWatch_11 : decode cX3_doWatch 11 = .ok (.getfield 10, 3) := by decide +kernel
theorem dX3_doWatch_14 : decode cX3_doWatch 14 = .ok (.aload_n 1, 1) := by decide +kernel
theorem dX3_doWatch_15 : decode cX3_doWatch 15 = .ok (.iload_n 2, 1) := by decide +kernel
theorem dX3_doWatch_16 : decode cX3_doWatch 16 = .ok (.iload_n 3, 1) := by decide +kernel
theorem dX3_doWatch_17 : decode cX3_doWatch 17 = .ok (.invokevirtual 52, 3) := by decide +kernel
theorem dX3_doWatch_20 : decode cX3_doWatch 20 = .ok (.aload_n 0, 1) := by decide +kernel
theorem dX3_doWatch_21 : decode cX3_doWatch 21 = .ok (.getfield 10, 3) := by decide +kernel
theorem dX3_doWatch_24 : decode cX3_doWatch 24 = .ok (.getfield 56, 3) := by decide +kernel
theorem dX3_doWatch_27 : decode cX3_doWatch 27 = .ok (.ireturn, 1) := by decide +kernel
def P_X3_doWatch (a0 : Nat) (a1 : Nat) (x2 : Int32) (x3 : Int32) : PM Int32 :=
cllV 3 a0 (P_X3_note a0 ((10 * x2) + x3)) fun _ =>
getR 3 0 a0 fun v1 =>
cllV 1 v1 (P_X1_passWatch v1 a1 x2 x3) fun _ =>
getR 3 0 a0 fun v2 =>
getI 1 2 v2 fun v3 =>
pureM v3
set_option maxHeartbeats 4000000 in
set_option maxRecDepth 100000 in
theorem W_X3_doWatch {Γ : Cx} (ok : OKc Γ cX3_doWatch RX3 4 "doWatch") (okr : OKr Γ cX3_doWatch (some .int)) (a0 : Nat) (a1 : Nat) (x2 : Int32) (x3 : Int32) : SW Γ iI 0 [some (.ref a0), some (.ref a1), some (.int x2), some (.int x3)] [] (P_X3_doWatch a0 a1 x2 x3) := by
  unfold P_X3_doWatch
  refine sw_aload_n (z := a0) (pc' := 1) ok dX3_doWatch_0 rfl rfl ?_
  refine sw_bipush (v := 10) (pc' := 3) ok dX3_doWatch_1 rfl cc_bipush_10 ?_
  refine sw_iload_n (z := x2) (pc' := 4) ok dX3_doWatch_3 rfl rfl ?_
  refine sw_imul (pc' := 5) ok dX3_doWatch_4 rfl ?_
  refine sw_iload_n (z := x3) (pc' := 6) ok dX3_doWatch_5 rfl rfl ?_
  refine sw_iadd (pc' := 7) ok dX3_doWatch_6 rfl ?_
  refine sw_cllV_U (st := []) (as := [.int ((10 * x2) + x3)]) (pc' := 10) ok (S_X3_note a0 ((10 * x2) + x3)) (by decide) lk_X3_48 rfl dX3_doWatch_7 rfl (Nat.le_of_ble_eq_true rfl) rfl (fun _ => ?_)
  refine sw_aload_n (z := a0) (pc' := 11) ok dX3_doWatch_10 rfl rfl ?_
  refine sw_getR (pc' := 14) ok (fr_X3_10.g) dX3_doWatch_11 rfl (fun v1 => ?_)
  refine sw_aload_n (z := a1) (pc' := 15) ok dX3_doWatch_14 rfl rfl ?_
  refine sw_iload_n (z := x2) (pc' := 16) ok dX3_doWatch_15 rfl rfl ?_
  refine sw_iload_n (z := x3) (pc' := 17) ok dX3_doWatch_16 rfl rfl ?_
  refine sw_cllV_U (st := []) (as := [.ref a1, .int x2, .int x3]) (pc' := 20) ok (S_X1_passWatch v1 a1 x2 x3) (by decide) lk_X3_52 rfl dX3_doWatch_17 rfl (Nat.le_of_ble_eq_true rfl) rfl (fun _ => ?_)
  refine sw_aload_n (z := a0) (pc' := 21) ok dX3_doWatch_20 rfl rfl ?_
  refine sw_getR (pc' := 24) ok (fr_X3_10.g) dX3_doWatch_21 rfl (fun v2 => ?_)
  refine sw_getI (pc' := 27) ok (fr_X3_56.g) dX3_doWatch_24 rfl (fun v3 => ?_)
  exact sw_ret ok okr dX3_doWatch_27 trivial rfl
theorem S_X3_doWatch (a0 : Nat) (a1 : Nat) (x2 : Int32) (x3 : Int32) : Sim 4 yX3_doWatch cX3_doWatch 4 (some .int) iI [.ref a0, .ref a1, .int x2, .int x3] (P_X3_doWatch a0 a1 x2 x3) := Sim.intro wd_959 (by decide) (by decide +kernel) (Nat.le_of_ble_eq_true rfl) (fun Γ ok okr => W_X3_doWatch ok okr a0 a1 x2 x3)
theorem dX3_doLoad_0 : decode cX3_doLoad 0 = .ok (.aload_n 0, 1) := by decide +kernel
theorem dX3_doLoad_1 : decode cX3_doLoad 1 = .ok (.bipush 100, 2) := by decide +kernel
theorem dX3_doLoad_3 : decode cX3_doLoad 3 = .ok (.iload_n 1, 1) := by decide +kernel
theorem dX3_doLoad_4 : decode cX3_doLoad 4 = .ok (.iadd, 1) := by decide +kernel
theorem dX3_doLoad_5 : decode cX3_doLoad 5 = .ok (.invokevirtual 48, 3) := by decide +kernel
theorem dX3_doLoad_8 : decode cX3_doLoad 8 = .ok (.aload_n 0, 1) := by decide +kernel
theorem dX3_doLoad_9 : decode cX3_doLoad 9 = .ok (.getfield 10, 3) := by decide +kernel
theorem dX3_doLoad_12 : decode cX3_doLoad 12 = .ok (.getfield 56, 3) := by decide +kernel
theorem dX3_doLoad_15 : decode cX3_doLoad 15 = .ok (.iload_n 1, 1) := by decide +kernel
theorem dX3_doLoad_16 : decode cX3_doLoad 16 = .ok (.if_icmp .lt 15, 3) := by decide +kernel
theorem dX3_doLoad_19 : decode cX3_doLoad 19 = .ok (.aload_n 0, 1) := by decide +kernel
theorem dX3_doLoad_20 : decode cX3_doLoad 20 = .ok (.dup, 1) := by decide +kernel
theorem dX3_doLoad_21 : decode cX3_doLoad 21 = .ok (.getfield 27, 3) := by decide +kernel
theorem dX3_doLoad_24 : decode cX3_doLoad 24 = .ok (.iconst 1, 1) := by decide +kernel
theorem dX3_doLoad_25 : decode cX3_doLoad 25 = .ok (.iadd, 1) := by decide +kernel
theorem dX3_doLoad_26 : decode cX3_doLoad 26 = .ok (.putfield 27, 3) := by decide +kernel
theorem dX3_doLoad_29 : decode cX3_doLoad 29 = .ok (.iconst 1, 1) := by decide +kernel
theorem dX3_doLoad_30 : decode cX3_doLoad 30 = .ok (.ireturn, 1) := by decide +kernel
theorem dX3_doLoad_31 : decode cX3_doLoad 31 = .ok (.aload_n 0, 1) := by decide +kernel
theorem dX3_doLoad_32 : decode cX3_doLoad 32 = .ok (.dup, 1) := by decide +kernel
theorem dX3_doLoad_33 : decode cX3_doLoad 33 = .ok (.getfield 30, 3) := by decide +kernel
theorem dX3_doLoad_36 : decode cX3_doLoad 36 = .ok (.iconst 1, 1) := by decide +kernel
theorem dX3_doLoad_37 : decode cX3_doLoad 37 = .ok (.iadd, 1) := by decide +kernel
theorem dX3_doLoad_38 : decode cX3_doLoad 38 = .ok (.putfield 30, 3) := by decide +kernel
theorem dX3_doLoad_41 : decode cX3_doLoad 41 = .ok (.aload_n 0, 1) := by decide +kernel
theorem dX3_doLoad_42 : decode cX3_doLoad 42 = .ok (.getfield 10, 3) := by decide +kernel
theorem dX3_doLoad_45 : decode cX3_doLoad 45 = .ok (.iconst 0, 1) := by decide +kernel
theorem dX3_doLoad_46 : decode cX3_doLoad 46 = .ok (.putfield 56, 3) := by decide +kernel
theorem dX3_doLoad_49 : decode cX3_doLoad 49 = .ok (.iconst 0, 1) := by decide +kernel
theorem dX3_doLoad_50 : decode cX3_doLoad 50 = .ok (.ireturn, 1) := by decide +kernel
def P_X3_doLoad (a0 : Nat) (x1 : Int32) : PM Int32 :=
cllV 3 a0 (P_X3_note a0 (100 + x1)) fun _ =>
getR 3 0 a0 fun v1 =>
getI 1 2 v1 fun v2 =>
ifB (decide (v2 < x1)) (
getI 3 5 a0 fun v3 =>
setI 3 5 a0 (v3 + 1) <|
getR 3 0 a0 fun v4 =>
setI 1 2 v4 0 <|
pureM 0) (
getI 3 4 a0 fun v5 =>
setI 3 4 a0 (v5 + 1) <|
pureM 1)
set_option maxHeartbeats 4000000 in
set_option maxRecDepth 100000 in
theorem W_X3_doLoad {Γ : Cx} (ok : OKc Γ cX3_doLoad RX3 1 "doLoad") (okr : OKr Γ cX3_doLoad (some .int)) (a0 : Nat) (x1 : Int32) : SW Γ iI 0 [some (.ref a0), some (.int x1)] [] (P_X3_doLoad a0 x1) := by
  unfold P_X3_doLoad
  refine sw_aload_n (z := a0) (pc' := 1) ok dX3_doLoad_0 rfl rfl ?_
  refine sw_bipush (v := 100) (pc' := 3) ok dX3_doLoad_1 rfl cc_bipush_100 ?_
  refine sw_iload_n (z := x1) (pc' := 4) ok dX3_doLoad_3 rfl rfl ?_
  refine sw_iadd (pc' := 5) ok dX3_doLoad_4 rfl ?_
  refine sw_cllV_U (st := []) (as := [.int (100 + x1)]) (pc' := 8) ok (S_X3_note a0 (100 + x1)) (by decide) lk_X3_48 rfl dX3_doLoad_5 rfl (Nat.le_of_ble_eq_true rfl) rfl (fun _ => ?_)
  refine sw_aload_n (z := a0) (pc' := 9) ok dX3_doLoad_8 rfl rfl ?_
  refine sw_getR (pc' := 12) ok (fr_X3_10.g) dX3_doLoad_9 rfl (fun v1 => ?_)
  refine sw_getI (pc' := 15) ok (fr_X3_56.g) dX3_doLoad_12 rfl (fun v2 => ?_)
  refine sw_iload_n (z := x1) (pc' := 16) ok dX3_doLoad_15 rfl rfl ?_
  refine sw_icmp_lt (tgt := 31) (pc' := 19) ok dX3_doLoad_16 (by decide) rfl ?_ ?_
  · refine sw_aload_n (z := a0) (pc' := 32) ok dX3_doLoad_31 rfl rfl ?_
    refine sw_dup (pc' := 33) ok dX3_doLoad_32 rfl rfl ?_
    refine sw_getI (pc' := 36) ok (fr_X3_30.g) dX3_doLoad_33 rfl (fun v3 => ?_)
    refine sw_iconst (v := 1) (pc' := 37) ok dX3_doLoad_36 rfl cc_iconst_1 ?_
    refine sw_iadd (pc' := 38) ok dX3_doLoad_37 rfl ?_
    refine sw_setI (pc' := 41) ok fr_X3_30 dX3_doLoad_38 (fun h => by cases h) rfl ?_
    refine sw_aload_n (z := a0) (pc' := 42) ok dX3_doLoad_41 rfl rfl ?_
    refine sw_getR (pc' := 45) ok (fr_X3_10.g) dX3_doLoad_42 rfl (fun v4 => ?_)
    refine sw_iconst (v := 0) (pc' := 46) ok dX3_doLoad_45 rfl cc_iconst_0 ?_
    refine sw_setI (pc' := 49) ok fr_X3_56 dX3_doLoad_46 (fun h => by cases h) rfl ?_
    refine sw_iconst (v := 0) (pc' := 50) ok dX3_doLoad_49 rfl cc_iconst_0 ?_
    exact sw_ret ok okr dX3_doLoad_50 trivial rfl
  refine sw_aload_n (z := a0) (pc' := 20) ok dX3_doLoad_19 rfl rfl ?_
  refine sw_dup (pc' := 21) ok dX3_doLoad_20 rfl rfl ?_
  refine sw_getI (pc' := 24) ok (fr_X3_27.g) dX3_doLoad_21 rfl (fun v5 => ?_)
  refine sw_iconst (v := 1) (pc' := 25) ok dX3_doLoad_24 rfl cc_iconst_1 ?_
  refine sw_iadd (pc' := 26) ok dX3_doLoad_25 rfl ?_
  refine sw_setI (pc' := 29) ok fr_X3_27 dX3_doLoad_26 (fun h => by cases h) rfl ?_
  refine sw_iconst (v := 1) (pc' := 30) ok dX3_doLoad_29 rfl cc_iconst_1 ?_
  exact sw_ret ok okr dX3_doLoad_30 trivial rfl
theorem S_X3_doLoad (a0 : Nat) (x1 : Int32) : Sim 1 yX3_doLoad cX3_doLoad 2 (some .int) iI [.ref a0, .int x1] (P_X3_doLoad a0 x1) := Sim.intro wd_960 (by decide) (by decide +kernel) (Nat.le_of_ble_eq_true rfl) (fun Γ ok okr => W_X3_doLoad ok okr a0 x1)
