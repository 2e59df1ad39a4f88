/-! Programs and walks, printed by program (gen.py). -/
theorem dX8_tells_0 : decode cX8_tells 0 = .ok (.iload_n 1, 1) := by decide +kernel
theorem dX8_tells_1 : decode cX8_tells 1 = .ok (.iload_n 2, 1) := by decide +kernel
theorem dX8_tells_2 : decode cX8_tells 2 = .ok (.iload_n 3, 1) := by decide +kernel
theorem dX8_tells_3 : decode cX8_tells 3 = .ok (.invokestatic 165, 3) := by decide +kernel
theorem dX8_tells_6 : decode cX8_tells 6 = .ok (.istore 5, 2) := by decide +kernel
theorem dX8_tells_8 : decode cX8_tells 8 = .ok (.iload_n 0, 1) := by decide +kernel
theorem dX8_tells_9 : decode cX8_tells 9 = .ok (.tableswitch 96 1 5 #[35, 40, 56, 71, 82], 35) := by decide +kernel
theorem dX8_tells_44 : decode cX8_tells 44 = .ok (.iload 5, 2) := by decide +kernel
theorem dX8_tells_46 : decode cX8_tells 46 = .ok (.iconst 2, 1) := by decide +kernel
theorem dX8_tells_47 : decode cX8_tells 47 = .ok (.idiv, 1) := by decide +kernel
theorem dX8_tells_48 : decode cX8_tells 48 = .ok (.ireturn, 1) := by decide +kernel
theorem dX8_tells_49 : decode cX8_tells 49 = .ok (.iload 4, 2) := by decide +kernel
theorem dX8_tells_51 : decode cX8_tells 51 = .ok (.iconst 4, 1) := by decide +kernel
theorem dX8_tells_52 : decode cX8_tells 52 = .ok (.if_icmp .ge 10, 3) := by decide +kernel
theorem dX8_tells_55 : decode cX8_tells 55 = .ok (.iload 5, 2) := by decide +kernel
theorem dX8_tells_57 : decode cX8_tells 57 = .ok (.iconst 2, 1) := by decide +kernel
theorem dX8_tells_58 : decode cX8_tells 58 = .ok (.iadd, 1) := by decide +kernel
theorem dX8_tells_59 : decode cX8_tells 59 = .ok (.goto 5, 3) := by decide +kernel
theorem dX8_tells_62 : decode cX8_tells 62 = .ok (.iload 5, 2) := by decide +kernel
theorem dX8_tells_64 : decode cX8_tells 64 = .ok (.ireturn, 1) := by decide +kernel
theorem dX8_tells_65 : decode cX8_tells 65 = .ok (.iload 4, 2) := by decide +kernel
theorem dX8_tells_67 : decode cX8_tells 67 = .ok (.iconst 3, 1) := by decide +kernel
theorem dX8_tells_68 : decode cX8_tells 68 = .ok (.if_icmp .ge 10, 3) := by decide +kernel
theorem dX8_tells_71 : decode cX8_tells 71 = .ok (.iload 5, 2) := by decide +kernel
theorem dX8_tells_73 : decode cX8_tells 73 = .ok (.iconst 3, 1) := by decide +kernel
theorem dX8_tells_74 : decode cX8_tells 74 = .ok (.iadd, 1) := by decide +kernel
theorem dX8_tells_75 : decode cX8_tells 75 = .ok (.goto 4, 3) := by decide +kernel
theorem dX8_tells_78 : decode cX8_tells 78 = .ok (.iconst 0, 1) := by decide +kernel
theorem dX8_tells_79 : decode cX8_tells 79 = .ok (.ireturn, 1) := by decide +kernel
theorem dX8_tells_80 : decode cX8_tells 80 = .ok (.iconst 0, 1) := by decide +kernel
theorem dX8_tells_81 : decode cX8_tells 81 = .ok (.iload 5, 2) := by decide +kernel
theorem dX8_tells_83 : decode cX8_tells 83 = .ok (.iconst 2, 1) := by decide +kernel
theorem dX8_tells_84 : decode cX8_tells 84 = .ok (.idiv, 1) := by decide +kernel
theorem dX8_tells_85 : decode cX8_tells 85 = .ok (.iconst 1, 1) := by decide +kernel
theorem dX8_tells_86 : decode cX8_tells 86 = .ok (.isub, 1) := by decide +kernel
theorem dX8_tells_87 : decode cX8_tells 87 = .ok (.invokestatic 162, 3) := by decide +kernel
theorem dX8_tells_90 : decode cX8_tells 90 = .ok (.ireturn, 1) := by decide +kernel
theorem dX8_tells_91 : decode cX8_tells 91 = .ok (.iload 4, 2) := by decide +kernel
theorem dX8_tells_93 : decode cX8_tells 93 = .ok (.iconst 4, 1) := by decide +kernel
theorem dX8_tells_94 : decode cX8_tells 94 = .ok (.if_icmp .ge 9, 3) := by decide +kernel
theorem dX8_tells_97 : decode cX8_tells 97 = .ok (.iload_n 1, 1) := by decide +kernel
theorem dX8_tells_98 : decode cX8_tells 98 = .ok (.iconst 2, 1) := by decide +kernel
theorem dX8_tells_99 : decode cX8_tells 99 = .ok (.iadd, 1) := by decide +kernel
theorem dX8_tells_100 : decode cX8_tells 100 = .ok (.goto 4, 3) := by decide +kernel
theorem dX8_tells_103 : decode cX8_tells 103 = .ok (.iload_n 1, 1) := by decide +kernel
theorem dX8_tells_104 : decode cX8_tells 104 = .ok (.ireturn, 1) := by decide +kernel
theorem dX8_tells_105 : decode cX8_tells 105 = .ok (.iload 5, 2) := by decide +kernel
theorem dX8_tells_107 : decode cX8_tells 107 = .ok (.ireturn, 1) := by decide +kernel
def P_X8_tells (x0 : Int32) (x1 : Int32) (x2 : Int32) (x3 : Int32) (x4 : Int32) : PM Int32 :=
cll0 (P_X8_talker x1 x2 x3) fun v1 =>
swT x0 1 [
divI v1 2 fun v2 =>
pureM v2,
ifB (decide (4 ≤ x4)) (
pureM v1) (
pureM (v1 + 2)),
ifB (decide (3 ≤ x4)) (
pureM 0) (
pureM (v1 + 3)),
divI v1 2 fun v3 =>
cll0 (P_X8_most 0 (v3 - 1)) fun v4 =>
pureM v4,
ifB (decide (4 ≤ x4)) (
pureM x1) (
pureM (x1 + 2))] (
pureM v1)
set_option maxHeartbeats 4000000 in
set_option maxRecDepth 100000 in
theorem W_X8_tells {Γ : Cx} (ok : OKc Γ cX8_tells RX8 2 "tells") (okr : OKr Γ cX8_tells (some .int)) (x0 : Int32) (x1 : Int32) (x2 : Int32) (x3 : Int32) (x4 : Int32) : SW Γ iI 0 [some (.int x0), some (.int x1), some (.int x2), some (.int x3), some (.int x4), none] [] (P_X8_tells x0 x1 x2 x3 x4) := by
  unfold P_X8_tells
  refine sw_iload_n (z := x1) (pc' := 1) ok dX8_tells_0 rfl rfl ?_
  refine sw_iload_n (z := x2) (pc' := 2) ok dX8_tells_1 rfl rfl ?_
  refine sw_iload_n (z := x3) (pc' := 3) ok dX8_tells_2 rfl rfl ?_
  refine sw_cll0_I (st := []) (as := [.int x1, .int x2, .int x3]) (pc' := 6) ok (S_X8_talker x1 x2 x3) (by decide) lk_X8_165 rfl dX8_tells_3 rfl (Nat.le_of_ble_eq_true rfl) rfl (fun v1 => ?_)
  refine sw_istore (pc' := 8) (l' := [some (.int x0), some (.int x1), some (.int x2), some (.int x3), some (.int x4), some (.int v1)]) ok dX8_tells_6 rfl (Nat.le_of_ble_eq_true rfl) rfl ?_
  refine sw_iload_n (z := x0) (pc' := 9) ok dX8_tells_8 rfl rfl ?_
  refine sw_tsw (tgt := 105) ok dX8_tells_9 (by decide) (by rfl) ⟨⟨44, by decide, ?_⟩, ⟨49, by decide, ?_⟩, ⟨65, by decide, ?_⟩, ⟨80, by decide, ?_⟩, ⟨91, by decide, ?_⟩, trivial⟩ ?_
  · refine sw_iload (z := v1) (pc' := 46) ok dX8_tells_44 rfl rfl ?_
    refine sw_iconst (v := 2) (pc' := 47) ok dX8_tells_46 rfl cc_iconst_2 ?_
    refine sw_divI (pc' := 48) ok dX8_tells_47 rfl (fun v2 => ?_)
    exact sw_ret ok okr dX8_tells_48 trivial rfl
  · refine sw_iload (z := x4) (pc' := 51) ok dX8_tells_49 rfl rfl ?_
    refine sw_iconst (v := 4) (pc' := 52) ok dX8_tells_51 rfl cc_iconst_4 ?_
    refine sw_icmp_ge (tgt := 62) (pc' := 55) ok dX8_tells_52 (by decide) rfl ?_ ?_
    · refine sw_iload (z := v1) (pc' := 64) ok dX8_tells_62 rfl rfl ?_
      exact sw_ret ok okr dX8_tells_64 trivial rfl
    refine sw_iload (z := v1) (pc' := 57) ok dX8_tells_55 rfl rfl ?_
    refine sw_iconst (v := 2) (pc' := 58) ok dX8_tells_57 rfl cc_iconst_2 ?_
    refine sw_iadd (pc' := 59) ok dX8_tells_58 rfl ?_
    refine sw_goto (tgt := 64) ok dX8_tells_59 (by decide) ?_
    exact sw_ret ok okr dX8_tells_64 trivial rfl
  · refine sw_iload (z := x4) (pc' := 67) ok dX8_tells_65 rfl rfl ?_
    refine sw_iconst (v := 3) (pc' := 68) ok dX8_tells_67 rfl cc_iconst_3 ?_
    refine sw_icmp_ge (tgt := 78) (pc' := 71) ok dX8_tells_68 (by decide) rfl ?_ ?_
    · refine sw_iconst (v := 0) (pc' := 79) ok dX8_tells_78 rfl cc_iconst_0 ?_
      exact sw_ret ok okr dX8_tells_79 trivial rfl
    refine sw_iload (z := v1) (pc' := 73) ok dX8_tells_71 rfl rfl ?_
    refine sw_iconst (v := 3) (pc' := 74) ok dX8_tells_73 rfl cc_iconst_3 ?_
    refine sw_iadd (pc' := 75) ok dX8_tells_74 rfl ?_
    refine sw_goto (tgt := 79) ok dX8_tells_75 (by decide) ?_
    exact sw_ret ok okr dX8_tells_79 trivial rfl
  · refine sw_iconst (v := 0) (pc' := 81) ok dX8_tells_80 rfl cc_iconst_0 ?_
    refine sw_iload (z := v1) (pc' := 83) ok dX8_tells_81 rfl rfl ?_
    refine sw_iconst (v := 2) (pc' := 84) ok dX8_tells_83 rfl cc_iconst_2 ?_
    refine sw_divI (pc' := 85) ok dX8_tells_84 rfl (fun v3 => ?_)
    refine sw_iconst (v := 1) (pc' := 86) ok dX8_tells_85 rfl cc_iconst_1 ?_
    refine sw_isub (pc' := 87) ok dX8_tells_86 rfl ?_
    refine sw_cll0_I (st := []) (as := [.int 0, .int (v3 - 1)]) (pc' := 90) ok (S_X8_most 0 (v3 - 1)) (by decide) lk_X8_162 rfl dX8_tells_87 rfl (Nat.le_of_ble_eq_true rfl) rfl (fun v4 => ?_)
    exact sw_ret ok okr dX8_tells_90 trivial rfl
  · refine sw_iload (z := x4) (pc' := 93) ok dX8_tells_91 rfl rfl ?_
    refine sw_iconst (v := 4) (pc' := 94) ok dX8_tells_93 rfl cc_iconst_4 ?_
    refine sw_icmp_ge (tgt := 103) (pc' := 97) ok dX8_tells_94 (by decide) rfl ?_ ?_
    · refine sw_iload_n (z := x1) (pc' := 104) ok dX8_tells_103 rfl rfl ?_
      exact sw_ret ok okr dX8_tells_104 trivial rfl
    refine sw_iload_n (z := x1) (pc' := 98) ok dX8_tells_97 rfl rfl ?_
    refine sw_iconst (v := 2) (pc' := 99) ok dX8_tells_98 rfl cc_iconst_2 ?_
    refine sw_iadd (pc' := 100) ok dX8_tells_99 rfl ?_
    refine sw_goto (tgt := 104) ok dX8_tells_100 (by decide) ?_
    exact sw_ret ok okr dX8_tells_104 trivial rfl
  refine sw_iload (z := v1) (pc' := 107) ok dX8_tells_105 rfl rfl ?_
  exact sw_ret ok okr dX8_tells_107 trivial rfl
theorem S_X8_tells (x0 : Int32) (x1 : Int32) (x2 : Int32) (x3 : Int32) (x4 : Int32) : Sim 2 yX8_tells cX8_tells 6 (some .int) iI [.int x0, .int x1, .int x2, .int x3, .int x4] (P_X8_tells x0 x1 x2 x3 x4) := Sim.intro wd_1089 (by decide) (by decide +kernel) (Nat.le_of_ble_eq_true rfl) (fun Γ ok okr => W_X8_tells ok okr x0 x1 x2 x3 x4)
theorem dX8_hourIn_0 : decode cX8_hourIn 0 = .ok (.aload_n 0, 1) := by decide +kernel
theorem dX8_hourIn_1 : decode cX8_hourIn 1 = .ok (.getfield 22, 3) := by decide +kernel
theorem dX8_hourIn_4 : decode cX8_hourIn 4 = .ok (.iload_n 1, 1) := by decide +kernel
theorem dX8_hourIn_5 : decode cX8_hourIn 5 = .ok (.iconst 2, 1) := by decide +kernel
theorem dX8_hourIn_6 : decode cX8_hourIn 6 = .ok (.iadd, 1) := by decide +kernel
theorem dX8_hourIn_7 : decode cX8_hourIn 7 = .ok (.iaload, 1) := by decide +kernel
theorem dX8_hourIn_8 : decode cX8_hourIn 8 = .ok (.bipush 12, 2) := by decide +kernel
theorem dX8_hourIn_10 : decode cX8_hourIn 10 = .ok (.irem, 1) := by decide +kernel
theorem dX8_hourIn_11 : decode cX8_hourIn 11 = .ok (.ireturn, 1) := by decide +kernel
def P_X8_hourIn (a0 : Nat) (x1 : Int32) : PM Int32 :=
getR 8 4 a0 fun v1 =>
ald v1 (x1 + 2) fun v2 =>
remI v2 12 fun v3 =>
pureM v3
set_option maxHeartbeats 4000000 in
set_option maxRecDepth 100000 in
theorem W_X8_hourIn {Γ : Cx} (ok : OKc Γ cX8_hourIn RX8 0 "hourIn") (okr : OKr Γ cX8_hourIn (some .int)) (a0 : Nat) (x1 : Int32) : SW Γ iI 0 [some (.ref a0), some (.int x1)] [] (P_X8_hourIn a0 x1) := by
  unfold P_X8_hourIn
  refine sw_aload_n (z := a0) (pc' := 1) ok dX8_hourIn_0 rfl rfl ?_
  refine sw_getR (pc' := 4) ok (fr_X8_22.g) dX8_hourIn_1 rfl (fun v1 => ?_)
  refine sw_iload_n (z := x1) (pc' := 5) ok dX8_hourIn_4 rfl rfl ?_
  refine sw_iconst (v := 2) (pc' := 6) ok dX8_hourIn_5 rfl cc_iconst_2 ?_
  refine sw_iadd (pc' := 7) ok dX8_hourIn_6 rfl ?_
  refine sw_ald (pc' := 8) ok dX8_hourIn_7 rfl (fun v2 => ?_)
  refine sw_bipush (v := 12) (pc' := 10) ok dX8_hourIn_8 rfl cc_bipush_12 ?_
  refine sw_remI (pc' := 11) ok dX8_hourIn_10 rfl (fun v3 => ?_)
  exact sw_ret ok okr dX8_hourIn_11 trivial rfl
theorem S_X8_hourIn (a0 : Nat) (x1 : Int32) : Sim 0 yX8_hourIn cX8_hourIn 2 (some .int) iI [.ref a0, .int x1] (P_X8_hourIn a0 x1) := Sim.intro wd_1090 (by decide) (by decide +kernel) (Nat.le_of_ble_eq_true rfl) (fun Γ ok okr => W_X8_hourIn ok okr a0 x1)
theorem dX8_tellsIn_0 : decode cX8_tellsIn 0 = .ok (.aload_n 0, 1) := by decide +kernel
theorem dX8_tellsIn_1 : decode cX8_tellsIn 1 = .ok (.getfield 28, 3) := by decide +kernel
theorem dX8_tellsIn_4 : decode cX8_tellsIn 4 = .ok (.iload_n 2, 1) := by decide +kernel
theorem dX8_tellsIn_5 : decode cX8_tellsIn 5 = .ok (.iaload, 1) := by decide +kernel
theorem dX8_tellsIn_6 : decode cX8_tellsIn 6 = .ok (.aload_n 0, 1) := by decide +kernel
theorem dX8_tellsIn_7 : decode cX8_tellsIn 7 = .ok (.getfield 31, 3) := by decide +kernel
theorem dX8_tellsIn_10 : decode cX8_tellsIn 10 = .ok (.iload_n 2, 1) := by decide +kernel
theorem dX8_tellsIn_11 : decode cX8_tellsIn 11 = .ok (.iaload, 1) := by decide +kernel
theorem dX8_tellsIn_12 : decode cX8_tellsIn 12 = .ok (.aload_n 0, 1) := by decide +kernel
theorem dX8_tellsIn_13 : decode cX8_tellsIn 13 = .ok (.getfield 34, 3) := by decide +kernel
theorem dX8_tellsIn_16 : decode cX8_tellsIn 16 = .ok (.iload_n 2, 1) := by decide +kernel
theorem dX8_tellsIn_17 : decode cX8_tellsIn 17 = .ok (.iaload, 1) := by decide +kernel
theorem dX8_tellsIn_18 : decode cX8_tellsIn 18 = .ok (.aload_n 0, 1) := by decide +kernel
theorem dX8_tellsIn_19 : decode cX8_tellsIn 19 = .ok (.getfield 22, 3) := by decide +kernel
theorem dX8_tellsIn_22 : decode cX8_tellsIn 22 = .ok (.iload_n 1, 1) := by decide +kernel
theorem dX8_tellsIn_23 : decode cX8_tellsIn 23 = .ok (.iconst 5, 1) := by decide +kernel
theorem dX8_tellsIn_24 : decode cX8_tellsIn 24 = .ok (.iadd, 1) := by decide +kernel
theorem dX8_tellsIn_25 : decode cX8_tellsIn 25 = .ok (.iload_n 2, 1) := by decide +kernel
theorem dX8_tellsIn_26 : decode cX8_tellsIn 26 = .ok (.iadd, 1) := by decide +kernel
theorem dX8_tellsIn_27 : decode cX8_tellsIn 27 = .ok (.iaload, 1) := by decide +kernel
theorem dX8_tellsIn_28 : decode cX8_tellsIn 28 = .ok (.aload_n 0, 1) := by decide +kernel
theorem dX8_tellsIn_29 : decode cX8_tellsIn 29 = .ok (.iload_n 1, 1) := by decide +kernel
theorem dX8_tellsIn_30 : decode cX8_tellsIn 30 = .ok (.invokevirtual 169, 3) := by decide +kernel
theorem dX8_tellsIn_33 : decode cX8_tellsIn 33 = .ok (.invokestatic 172, 3) := by decide +kernel
theorem dX8_tellsIn_36 : decode cX8_tellsIn 36 = .ok (.ireturn, 1) := by decide +kernel
def P_X8_tellsIn (a0 : Nat) (x1 : Int32) (x2 : Int32) : PM Int32 :=
getR 8 6 a0 fun v1 =>
ald v1 x2 fun v2 =>
getR 8 7 a0 fun v3 =>
ald v3 x2 fun v4 =>
getR 8 8 a0 fun v5 =>
ald v5 x2 fun v6 =>
getR 8 4 a0 fun v7 =>
ald v7 ((x1 + 5) + x2) fun v8 =>
cllV 8 a0 (P_X8_hourIn a0 x1) fun v9 =>
cll0 (P_X8_tells v2 v4 v6 v8 v9) fun v10 =>
pureM v10
set_option maxHeartbeats 4000000 in
set_option maxRecDepth 100000 in
theorem W_X8_tellsIn {Γ : Cx} (ok : OKc Γ cX8_tellsIn RX8 3 "tellsIn") (okr : OKr Γ cX8_tellsIn (some .int)) (a0 : Nat) (x1 : Int32) (x2 : Int32) : SW Γ iI 0 [some (.ref a0), some (.int x1), some (.int x2)] [] (P_X8_tellsIn a0 x1 x2) := by
  unfold P_X8_tellsIn
  refine sw_aload_n (z := a0) (pc' := 1) ok dX8_tellsIn_0 rfl rfl ?_
  refine sw_getR (pc' := 4) ok (fr_X8_28.g) dX8_tellsIn_1 rfl (fun v1 => ?_)
  refine sw_iload_n (z := x2) (pc' := 5) ok dX8_tellsIn_4 rfl rfl ?_
  refine sw_ald (pc' := 6) ok dX8_tellsIn_5 rfl (fun v2 => ?_)
  refine sw_aload_n (z := a0) (pc' := 7) ok dX8_tellsIn_6 rfl rfl ?_
  refine sw_getR (pc' := 10) ok (fr_X8_31.g) dX8_tellsIn_7 rfl (fun v3 => ?_)
  refine sw_iload_n (z := x2) (pc' := 11) ok dX8_tellsIn_10 rfl rfl ?_
  refine sw_ald (pc' := 12) ok dX8_tellsIn_11 rfl (fun v4 => ?_)
  refine sw_aload_n (z := a0) (pc' := 13) ok dX8_tellsIn_12 rfl rfl ?_
  refine sw_getR (pc' := 16) ok (fr_X8_34.g) dX8_tellsIn_13 rfl (fun v5 => ?_)
  refine sw_iload_n (z := x2) (pc' := 17) ok dX8_tellsIn_16 rfl rfl ?_
  refine sw_ald (pc' := 18) ok dX8_tellsIn_17 rfl (fun v6 => ?_)
  refine sw_aload_n (z := a0) (pc' := 19) ok dX8_tellsIn_18 rfl rfl ?_
  refine sw_getR (pc' := 22) ok (fr_X8_22.g) dX8_tellsIn_19 rfl (fun v7 => ?_)
  refine sw_iload_n (z := x1) (pc' := 23) ok dX8_tellsIn_22 rfl rfl ?_
  refine sw_iconst (v := 5) (pc' := 24) ok dX8_tellsIn_23 rfl cc_iconst_5 ?_
  refine sw_iadd (pc' := 25) ok dX8_tellsIn_24 rfl ?_
  refine sw_iload_n (z := x2) (pc' := 26) ok dX8_tellsIn_25 rfl rfl ?_
  refine sw_iadd (pc' := 27) ok dX8_tellsIn_26 rfl ?_
  refine sw_ald (pc' := 28) ok dX8_tellsIn_27 rfl (fun v8 => ?_)
  refine sw_aload_n (z := a0) (pc' := 29) ok dX8_tellsIn_28 rfl rfl ?_
  refine sw_iload_n (z := x1) (pc' := 30) ok dX8_tellsIn_29 rfl rfl ?_
  refine sw_cllV_I (st := [.int v8, .int v6, .int v4, .int v2]) (as := [.int x1]) (pc' := 33) ok (S_X8_hourIn a0 x1) (by decide) lk_X8_169 rfl dX8_tellsIn_30 rfl (Nat.le_of_ble_eq_true rfl) rfl (fun v9 => ?_)
  refine sw_cll0_I (st := []) (as := [.int v2, .int v4, .int v6, .int v8, .int v9]) (pc' := 36) ok (S_X8_tells v2 v4 v6 v8 v9) (by decide) lk_X8_172 rfl dX8_tellsIn_33 rfl (Nat.le_of_ble_eq_true rfl) rfl (fun v10 => ?_)
  exact sw_ret ok okr dX8_tellsIn_36 trivial rfl
theorem S_X8_tellsIn (a0 : Nat) (x1 : Int32) (x2 : Int32) : Sim 3 yX8_tellsIn cX8_tellsIn 3 (some .int) iI [.ref a0, .int x1, .int x2] (P_X8_tellsIn a0 x1 x2) := Sim.intro wd_1091 (by decide) (by decide +kernel) (Nat.le_of_ble_eq_true rfl) (fun Γ ok okr => W_X8_tellsIn ok okr a0 x1 x2)
theorem dX8_bothIn_0 : decode cX8_bothIn 0 = .ok (.aload_n 0, 1) := by decide +kernel
theorem dX8_bothIn_1 : decode cX8_bothIn 1 = .ok (.iload_n 1, 1) := by decide +kernel
theorem dX8_bothIn_2 : decode cX8_bothIn 2 = .ok (.iload_n 2, 1) := by decide +kernel
theorem dX8_bothIn_3 : decode cX8_bothIn 3 = .ok (.invokevirtual 176, 3) := by decide +kernel
theorem dX8_bothIn_6 : decode cX8_bothIn 6 = .ok (.aload_n 0, 1) := by decide +kernel
theorem dX8_bothIn_7 : decode cX8_bothIn 7 = .ok (.iload_n 1, 1) := by decide +kernel
theorem dX8_bothIn_8 : decode cX8_bothIn 8 = .ok (.iload_n 3, 1) := by decide +kernel
theorem dX8_bothIn_9 : decode cX8_bothIn 9 = .ok (.invokevirtual 176, 3) := by decide +kernel
theorem dX8_bothIn_12 : decode cX8_bothIn 12 = .ok (.iadd, 1) := by decide +kernel
theorem dX8_bothIn_13 : decode cX8_bothIn 13 = .ok (.aload_n 0, 1) := by decide +kernel
theorem dX8_bothIn_14 : decode cX8_bothIn 14 = .ok (.getfield 37, 3) := by decide +kernel
theorem dX8_bothIn_17 : decode cX8_bothIn 17 = .ok (.iload_n 2, 1) := by decide +kernel
theorem dX8_bothIn_18 : decode cX8_bothIn 18 = .ok (.iaload, 1) := by decide +kernel
theorem dX8_bothIn_19 : decode cX8_bothIn 19 = .ok (.iload_n 3, 1) := by decide +kernel
theorem dX8_bothIn_20 : decode cX8_bothIn 20 = .ok (.invokestatic 179, 3) := by decide +kernel
theorem dX8_bothIn_23 : decode cX8_bothIn 23 = .ok (.ifCond .eq 7, 3) := by decide +kernel
theorem dX8_bothIn_26 : decode cX8_bothIn 26 = .ok (.iconst 3, 1) := by decide +kernel
theorem dX8_bothIn_27 : decode cX8_bothIn 27 = .ok (.goto 4, 3) := by decide +kernel
theorem dX8_bothIn_30 : decode cX8_bothIn 30 = .ok (.iconst 0, 1) := by decide +kernel
theorem dX8_bothIn_31 : decode cX8_bothIn 31 = .ok (.isub, 1) := by decide +kernel
theorem dX8_bothIn_32 : decode cX8_bothIn 32 = .ok (.ireturn, 1) := by decide +kernel
def P_X8_bothIn (a0 : Nat) (x1 : Int32) (x2 : Int32) (x3 : Int32) : PM Int32 :=
cllV 8 a0 (P_X8_tellsIn a0 x1 x2) fun v1 =>
cllV 8 a0 (P_X8_tellsIn a0 x1 x3) fun v2 =>
getR 8 9 a0 fun v3 =>
ald v3 x2 fun v4 =>
cll0 (P_X8_has v4 x3) fun v5 =>
jn (fun (j6 : Int32) (j7 : Int32) =>
pureM (j6 - j7)) fun k8 =>
ifB (decide (v5 = 0)) (
k8 (v1 + v2) 0) (
k8 (v1 + v2) 3)
set_option maxHeartbeats 4000000 in
set_option maxRecDepth 100000 in
theorem W_X8_bothIn {Γ : Cx} (ok : OKc Γ cX8_bothIn RX8 4 "bothIn") (okr : OKr Γ cX8_bothIn (some .int)) (a0 : Nat) (x1 : Int32) (x2 : Int32) (x3 : Int32) : SW Γ iI 0 [some (.ref a0), some (.int x1), some (.int x2), some (.int x3)] [] (P_X8_bothIn a0 x1 x2 x3) := by
  unfold P_X8_bothIn
  refine sw_aload_n (z := a0) (pc' := 1) ok dX8_bothIn_0 rfl rfl ?_
  refine sw_iload_n (z := x1) (pc' := 2) ok dX8_bothIn_1 rfl rfl ?_
  refine sw_iload_n (z := x2) (pc' := 3) ok dX8_bothIn_2 rfl rfl ?_
  refine sw_cllV_I (st := []) (as := [.int x1, .int x2]) (pc' := 6) ok (S_X8_tellsIn a0 x1 x2) (by decide) lk_X8_176 rfl dX8_bothIn_3 rfl (Nat.le_of_ble_eq_true rfl) rfl (fun v1 => ?_)
  refine sw_aload_n (z := a0) (pc' := 7) ok dX8_bothIn_6 rfl rfl ?_
  refine sw_iload_n (z := x1) (pc' := 8) ok dX8_bothIn_7 rfl rfl ?_
  refine sw_iload_n (z := x3) (pc' := 9) ok dX8_bothIn_8 rfl rfl ?_
  refine sw_cllV_I (st := [.int v1]) (as := [.int x1, .int x3]) (pc' := 12) ok (S_X8_tellsIn a0 x1 x3) (by decide) lk_X8_176 rfl dX8_bothIn_9 rfl (Nat.le_of_ble_eq_true rfl) rfl (fun v2 => ?_)
  refine sw_iadd (pc' := 13) ok dX8_bothIn_12 rfl ?_
  refine sw_aload_n (z := a0) (pc' := 14) ok dX8_bothIn_13 rfl rfl ?_
  refine sw_getR (pc' := 17) ok (fr_X8_37.g) dX8_bothIn_14 rfl (fun v3 => ?_)
  refine sw_iload_n (z := x2) (pc' := 18) ok dX8_bothIn_17 rfl rfl ?_
  refine sw_ald (pc' := 19) ok dX8_bothIn_18 rfl (fun v4 => ?_)
  refine sw_iload_n (z := x3) (pc' := 20) ok dX8_bothIn_19 rfl rfl ?_
  refine sw_cll0_I (st := [.int (v1 + v2)]) (as := [.int v4, .int x3]) (pc' := 23) ok (S_X8_has v4 x3) (by decide) lk_X8_179 rfl dX8_bothIn_20 rfl (Nat.le_of_ble_eq_true rfl) rfl (fun v5 => ?_)
  refine sw_jn (fun k8 : Int32 → Int32 → PM Int32 => ∀ (j6 : Int32) (j7 : Int32), SW Γ iI 31 [none, none, none, none] [.int j7, .int j6] (k8 j6 j7)) ?_ (fun k8 hk8 => ?_)
  · intro j6 j7
    refine sw_isub (pc' := 32) ok dX8_bothIn_31 rfl ?_
    exact sw_ret ok okr dX8_bothIn_32 trivial rfl
  refine sw_if_eq (tgt := 30) (pc' := 26) ok dX8_bothIn_23 (by decide) rfl ?_ ?_
  · refine sw_iconst (v := 0) (pc' := 31) ok dX8_bothIn_30 rfl cc_iconst_0 ?_
    refine sw_fg (l' := [none, none, none, none]) [false, false, false, false] rfl ?_
    exact hk8 (v1 + v2) 0
  refine sw_iconst (v := 3) (pc' := 27) ok dX8_bothIn_26 rfl cc_iconst_3 ?_
  refine sw_goto (tgt := 31) ok dX8_bothIn_27 (by decide) ?_
  refine sw_fg (l' := [none, none, none, none]) [false, false, false, false] rfl ?_
  exact hk8 (v1 + v2) 3
theorem S_X8_bothIn (a0 : Nat) (x1 : Int32) (x2 : Int32) (x3 : Int32) : Sim 4 yX8_bothIn cX8_bothIn 4 (some .int) iI [.ref a0, .int x1, .int x2, .int x3] (P_X8_bothIn a0 x1 x2 x3) := Sim.intro wd_1092 (by decide) (by decide +kernel) (Nat.le_of_ble_eq_true rfl) (fun Γ ok okr => W_X8_bothIn ok okr a0 x1 x2 x3)
theorem dX8_talkIn_0 : decode cX8_talkIn 0 = .ok (.iconst 0, 1) := by decide +kernel
theorem dX8_talkIn_1 : decode cX8_talkIn 1 = .ok (.aload_n 0, 1) := by decide +kernel
theorem dX8_talkIn_2 : decode cX8_talkIn 2 = .ok (.iload_n 1, 1) := by decide +kernel
theorem dX8_talkIn_3 : decode cX8_talkIn 3 = .ok (.iload_n 2, 1) := by decide +kernel
theorem dX8_talkIn_4 : decode cX8_talkIn 4 = .ok (.iload_n 3, 1) := by decide +kernel
theorem dX8_talkIn_5 : decode cX8_talkIn 5 = .ok (.invokevirtual 183, 3) := by decide +kernel
theorem dX8_talkIn_8 : decode cX8_talkIn 8 = .ok (.invokestatic 162, 3) := by decide +kernel
theorem dX8_talkIn_11 : decode cX8_talkIn 11 = .ok (.istore 4, 2) := by decide +kernel
theorem dX8_talkIn_13 : decode cX8_talkIn 13 = .ok (.aload_n 0, 1) := by decide +kernel
theorem dX8_talkIn_14 : decode cX8_talkIn 14 = .ok (.getfield 28, 3) := by decide +kernel
theorem dX8_talkIn_17 : decode cX8_talkIn 17 = .ok (.iload_n 2, 1) := by decide +kernel
theorem dX8_talkIn_18 : decode cX8_talkIn 18 = .ok (.iaload, 1) := by decide +kernel
theorem dX8_talkIn_19 : decode cX8_talkIn 19 = .ok (.iconst 4, 1) := by decide +kernel
theorem dX8_talkIn_20 : decode cX8_talkIn 20 = .ok (.if_icmp .eq 13, 3) := by decide +kernel
theorem dX8_talkIn_23 : decode cX8_talkIn 23 = .ok (.aload_n 0, 1) := by decide +kernel
theorem dX8_talkIn_24 : decode cX8_talkIn 24 = .ok (.getfield 28, 3) := by decide +kernel
theorem dX8_talkIn_27 : decode cX8_talkIn 27 = .ok (.iload_n 3, 1) := by decide +kernel
theorem dX8_talkIn_28 : decode cX8_talkIn 28 = .ok (.iaload, 1) := by decide +kernel
theorem dX8_talkIn_29 : decode cX8_talkIn 29 = .ok (.iconst 4, 1) := by decide +kernel
theorem dX8_talkIn_30 : decode cX8_talkIn 30 = .ok (.if_icmp .ne 10, 3) := by decide +kernel
theorem dX8_talkIn_33 : decode cX8_talkIn 33 = .ok (.iload 4, 2) := by decide +kernel
theorem dX8_talkIn_35 : decode cX8_talkIn 35 = .ok (.iconst 2, 1) := by decide +kernel
theorem dX8_talkIn_36 : decode cX8_talkIn 36 = .ok (.idiv, 1) := by decide +kernel
theorem dX8_talkIn_37 : decode cX8_talkIn 37 = .ok (.goto 5, 3) := by decide +kernel
theorem dX8_talkIn_40 : decode cX8_talkIn 40 = .ok (.iload 4, 2) := by decide +kernel
theorem dX8_talkIn_42 : decode cX8_talkIn 42 = .ok (.ireturn, 1) := by decide +kernel
def P_X8_talkIn (a0 : Nat) (x1 : Int32) (x2 : Int32) (x3 : Int32) : PM Int32 :=
cllV 8 a0 (P_X8_bothIn a0 x1 x2 x3) fun v1 =>
cll0 (P_X8_most 0 v1) fun v2 =>
getR 8 6 a0 fun v3 =>
ald v3 x2 fun v4 =>
jn (
divI v2 2 fun v5 =>
pureM v5) fun k6 =>
ifB (decide (v4 = 4)) (
k6) (
getR 8 6 a0 fun v7 =>
ald v7 x3 fun v8 =>
ifB (decide (¬ v8 = 4)) (
pureM v2) (
k6))
set_option maxHeartbeats 4000000 in
set_option maxRecDepth 100000 in
theorem W_X8_talkIn {Γ : Cx} (ok : OKc Γ cX8_talkIn RX8 5 "talkIn") (okr : OKr Γ cX8_talkIn (some .int)) (a0 : Nat) (x1 : Int32) (x2 : Int32) (x3 : Int32) : SW Γ iI 0 [some (.ref a0), some (.int x1), some (.int x2), some (.int x3), none] [] (P_X8_talkIn a0 x1 x2 x3) := by
  unfold P_X8_talkIn
  refine sw_iconst (v := 0) (pc' := 1) ok dX8_talkIn_0 rfl cc_iconst_0 ?_
  refine sw_aload_n (z := a0) (pc' := 2) ok dX8_talkIn_1 rfl rfl ?_
  refine sw_iload_n (z := x1) (pc' := 3) ok dX8_talkIn_2 rfl rfl ?_
  refine sw_iload_n (z := x2) (pc' := 4) ok dX8_talkIn_3 rfl rfl ?_
  refine sw_iload_n (z := x3) (pc' := 5) ok dX8_talkIn_4 rfl rfl ?_
  refine sw_cllV_I (st := [.int 0]) (as := [.int x1, .int x2, .int x3]) (pc' := 8) ok (S_X8_bothIn a0 x1 x2 x3) (by decide) lk_X8_183 rfl dX8_talkIn_5 rfl (Nat.le_of_ble_eq_true rfl) rfl (fun v1 => ?_)
  refine sw_cll0_I (st := []) (as := [.int 0, .int v1]) (pc' := 11) ok (S_X8_most 0 v1) (by decide) lk_X8_162 rfl dX8_talkIn_8 rfl (Nat.le_of_ble_eq_true rfl) rfl (fun v2 => ?_)
  refine sw_istore (pc' := 13) (l' := [some (.ref a0), some (.int x1), some (.int x2), some (.int x3), some (.int v2)]) ok dX8_talkIn_11 rfl (Nat.le_of_ble_eq_true rfl) rfl ?_
  refine sw_aload_n (z := a0) (pc' := 14) ok dX8_talkIn_13 rfl rfl ?_
  refine sw_getR (pc' := 17) ok (fr_X8_28.g) dX8_talkIn_14 rfl (fun v3 => ?_)
  refine sw_iload_n (z := x2) (pc' := 18) ok dX8_talkIn_17 rfl rfl ?_
  refine sw_ald (pc' := 19) ok dX8_talkIn_18 rfl (fun v4 => ?_)
  refine sw_iconst (v := 4) (pc' := 20) ok dX8_talkIn_19 rfl cc_iconst_4 ?_
  refine sw_jn (fun k6 : PM Int32 => SW Γ iI 33 [none, none, none, none, some (.int v2)] [] (k6)) ?_ (fun k6 hk6 => ?_)
  · refine sw_iload (z := v2) (pc' := 35) ok dX8_talkIn_33 rfl rfl ?_
    refine sw_iconst (v := 2) (pc' := 36) ok dX8_talkIn_35 rfl cc_iconst_2 ?_
    refine sw_divI (pc' := 37) ok dX8_talkIn_36 rfl (fun v5 => ?_)
    refine sw_goto (tgt := 42) ok dX8_talkIn_37 (by decide) ?_
    exact sw_ret ok okr dX8_talkIn_42 trivial rfl
  refine sw_icmp_eq (tgt := 33) (pc' := 23) ok dX8_talkIn_20 (by decide) rfl ?_ ?_
  · refine sw_fg (l' := [none, none, none, none, some (.int v2)]) [false, false, false, false, true] rfl ?_
    exact hk6
  refine sw_aload_n (z := a0) (pc' := 24) ok dX8_talkIn_23 rfl rfl ?_
  refine sw_getR (pc' := 27) ok (fr_X8_28.g) dX8_talkIn_24 rfl (fun v7 => ?_)
  refine sw_iload_n (z := x3) (pc' := 28) ok dX8_talkIn_27 rfl rfl ?_
  refine sw_ald (pc' := 29) ok dX8_talkIn_28 rfl (fun v8 => ?_)
  refine sw_iconst (v := 4) (pc' := 30) ok dX8_talkIn_29 rfl cc_iconst_4 ?_
  refine sw_icmp_ne (tgt := 40) (pc' := 33) ok dX8_talkIn_30 (by decide) rfl ?_ ?_
  · refine sw_iload (z := v2) (pc' := 42) ok dX8_talkIn_40 rfl rfl ?_
    exact sw_ret ok okr dX8_talkIn_42 trivial rfl
  refine sw_fg (l' := [none, none, none, none, some (.int v2)]) [false, false, false, false, true] rfl ?_
  exact hk6
theorem S_X8_talkIn (a0 : Nat) (x1 : Int32) (x2 : Int32) (x3 : Int32) : Sim 5 yX8_talkIn cX8_talkIn 5 (some .int) iI [.ref a0, .int x1, .int x2, .int x3] (P_X8_talkIn a0 x1 x2 x3) := Sim.intro wd_1093 (by decide) (by decide +kernel) (Nat.le_of_ble_eq_true rfl) (fun Γ ok okr => W_X8_talkIn ok okr a0 x1 x2 x3)
theorem dX8_isOne_0 : decode cX8_isOne 0 = .ok (.iload_n 1, 1) := by decide +kernel
theorem dX8_isOne_1 : decode cX8_isOne 1 = .ok (.i2l, 1) := by decide +kernel
theorem dX8_isOne_2 : decode cX8_isOne 2 = .ok (.lconst 0, 1) := by decide +kernel
theorem dX8_isOne_3 : decode cX8_isOne 3 = .ok (.aload_n 0, 1) := by decide +kernel
theorem dX8_isOne_4 : decode cX8_isOne 4 = .ok (.getfield 156, 3) := by decide +kernel
theorem dX8_isOne_7 : decode cX8_isOne 7 = .ok (.iconst 1, 1) := by decide +kernel
theorem dX8_isOne_8 : decode cX8_isOne 8 = .ok (.isub, 1) := by decide +kernel
theorem dX8_isOne_9 : decode cX8_isOne 9 = .ok (.i2l, 1) := by decide +kernel
theorem dX8_isOne_10 : decode cX8_isOne 10 = .ok (.invokestatic 80, 3) := by decide +kernel
theorem dX8_isOne_13 : decode cX8_isOne 13 = .ok (.ireturn, 1) := by decide +kernel
def P_X8_isOne (a0 : Nat) (x1 : Int32) : PM Int32 :=
getI 8 10 a0 fun v1 =>
cll0 (P_X8_in (Int32.toInt64 x1) 0 (Int32.toInt64 (v1 - 1))) fun v2 =>
retZ v2
set_option maxHeartbeats 4000000 in
set_option maxRecDepth 100000 in
theorem W_X8_isOne {Γ : Cx} (ok : OKc Γ cX8_isOne RX8 1 "isOne") (okr : OKr Γ cX8_isOne (some .boolean)) (a0 : Nat) (x1 : Int32) : SW Γ iI 0 [some (.ref a0), some (.int x1)] [] (P_X8_isOne a0 x1) := by
  unfold P_X8_isOne
  refine sw_iload_n (z := x1) (pc' := 1) ok dX8_isOne_0 rfl rfl ?_
  refine sw_i2l (pc' := 2) ok dX8_isOne_1 rfl ?_
  refine sw_lconst (v := 0) (pc' := 3) ok dX8_isOne_2 rfl cc_lconst_0 ?_
  refine sw_aload_n (z := a0) (pc' := 4) ok dX8_isOne_3 rfl rfl ?_
  refine sw_getI (pc' := 7) ok (fr_X8_156.g) dX8_isOne_4 rfl (fun v1 => ?_)
  refine sw_iconst (v := 1) (pc' := 8) ok dX8_isOne_7 rfl cc_iconst_1 ?_
  refine sw_isub (pc' := 9) ok dX8_isOne_8 rfl ?_
  refine sw_i2l (pc' := 10) ok dX8_isOne_9 rfl ?_
  refine sw_cll0_I (st := []) (as := [.long (Int32.toInt64 x1), .long 0, .long (Int32.toInt64 (v1 - 1))]) (pc' := 13) ok (S_X8_in (Int32.toInt64 x1) 0 (Int32.toInt64 (v1 - 1))) (by decide) lk_X8_80 rfl dX8_isOne_10 rfl (Nat.le_of_ble_eq_true rfl) rfl (fun v2 => ?_)
  exact sw_retZ ok okr dX8_isOne_13
theorem S_X8_isOne (a0 : Nat) (x1 : Int32) : Sim 1 yX8_isOne cX8_isOne 2 (some .boolean) iI [.ref a0, .int x1] (P_X8_isOne a0 x1) := Sim.intro wd_1094 (by decide) (by decide +kernel) (Nat.le_of_ble_eq_true rfl) (fun Γ ok okr => W_X8_isOne ok okr a0 x1)
theorem dX8_isPair_0 : decode cX8_isPair 0 = .ok (.aload_n 0, 1) := by decide +kernel
theorem dX8_isPair_1 : decode cX8_isPair 1 = .ok (.iload_n 1, 1) := by decide +kernel
theorem dX8_isPair_2 : decode cX8_isPair 2 = .ok (.invokevirtual 186, 3) := by decide +kernel
theorem dX8_isPair_5 : decode cX8_isPair 5 = .ok (.ifCond .eq 20, 3) := by decide +kernel
theorem dX8_isPair_8 : decode cX8_isPair 8 = .ok (.aload_n 0, 1) := by decide +kernel
theorem dX8_isPair_9 : decode cX8_isPair 9 = .ok (.iload_n 2, 1) := by decide +kernel
theorem dX8_isPair_10 : decode cX8_isPair 10 = .ok (.invokevirtual 186, 3) := by decide +kernel
theorem dX8_isPair_13 : decode cX8_isPair 13 = .ok (.ifCond .eq 12, 3) := by decide +kernel
theorem dX8_isPair_16 : decode cX8_isPair 16 = .ok (.iload_n 1, 1) := by decide +kernel
theorem dX8_isPair_17 : decode cX8_isPair 17 = .ok (.iload_n 2, 1) := by decide +kernel
theorem dX8_isPair_18 : decode cX8_isPair 18 = .ok (.if_icmp .eq 7, 3) := by decide +kernel
theorem dX8_isPair_21 : decode cX8_isPair 21 = .ok (.iconst 1, 1) := by decide +kernel
theorem dX8_isPair_22 : decode cX8_isPair 22 = .ok (.goto 4, 3) := by decide +kernel
theorem dX8_isPair_25 : decode cX8_isPair 25 = .ok (.iconst 0, 1) := by decide +kernel
theorem dX8_isPair_26 : decode cX8_isPair 26 = .ok (.ireturn, 1) := by decide +kernel
def P_X8_isPair (a0 : Nat) (x1 : Int32) (x2 : Int32) : PM Int32 :=
cllV 8 a0 (P_X8_isOne a0 x1) fun v1 =>
jn (
retZ 0) fun k2 =>
ifB (decide (v1 = 0)) (
k2) (
cllV 8 a0 (P_X8_isOne a0 x2) fun v3 =>
ifB (decide (v3 = 0)) (
k2) (
ifB (decide (x1 = x2)) (
k2) (
retZ 1)))
set_option maxHeartbeats 4000000 in
set_option maxRecDepth 100000 in
theorem W_X8_isPair {Γ : Cx} (ok : OKc Γ cX8_isPair RX8 2 "isPair") (okr : OKr Γ cX8_isPair (some .boolean)) (a0 : Nat) (x1 : Int32) (x2 : Int32) : SW Γ iI 0 [some (.ref a0), some (.int x1), some (.int x2)] [] (P_X8_isPair a0 x1 x2) := by
  unfold P_X8_isPair
  refine sw_aload_n (z := a0) (pc' := 1) ok dX8_isPair_0 rfl rfl ?_
  refine sw_iload_n (z := x1) (pc' := 2) ok dX8_isPair_1 rfl rfl ?_
  refine sw_cllV_I (st := []) (as := [.int x1]) (pc' := 5) ok (S_X8_isOne a0 x1) (by decide) lk_X8_186 rfl dX8_isPair_2 rfl (Nat.le_of_ble_eq_true rfl) rfl (fun v1 => ?_)
  refine sw_jn (fun k2 : PM Int32 => SW Γ iI 25 [none, none, none] [] (k2)) ?_ (fun k2 hk2 => ?_)
  · refine sw_iconst (v := 0) (pc' := 26) ok dX8_isPair_25 rfl cc_iconst_0 ?_
    exact sw_retZ ok okr dX8_isPair_26
  refine sw_if_eq (tgt := 25) (pc' := 8) ok dX8_isPair_5 (by decide) rfl ?_ ?_
  · refine sw_fg (l' := [none, none, none]) [false, false, false] rfl ?_
    exact hk2
  refine sw_aload_n (z := a0) (pc' := 9) ok dX8_isPair_8 rfl rfl ?_
  refine sw_iload_n (z := x2) (pc' := 10) ok dX8_isPair_9 rfl rfl ?_
  refine sw_cllV_I (st := []) (as := [.int x2]) (pc' := 13) ok (S_X8_isOne a0 x2) (by decide) lk_X8_186 rfl dX8_isPair_10 rfl (Nat.le_of_ble_eq_true rfl) rfl (fun v3 => ?_)
  refine sw_if_eq (tgt := 25) (pc' := 16) ok dX8_isPair_13 (by decide) rfl ?_ ?_
  · refine sw_fg (l' := [none, none, none]) [false, false, false] rfl ?_
    exact hk2
  refine sw_iload_n (z := x1) (pc' := 17) ok dX8_isPair_16 rfl rfl ?_
  refine sw_iload_n (z := x2) (pc' := 18) ok dX8_isPair_17 rfl rfl ?_
  refine sw_icmp_eq (tgt := 25) (pc' := 21) ok dX8_isPair_18 (by decide) rfl ?_ ?_
  · refine sw_fg (l' := [none, none, none]) [false, false, false] rfl ?_
    exact hk2
  refine sw_iconst (v := 1) (pc' := 22) ok dX8_isPair_21 rfl cc_iconst_1 ?_
  refine sw_goto (tgt := 26) ok dX8_isPair_22 (by decide) ?_
  exact sw_retZ ok okr dX8_isPair_26
theorem S_X8_isPair (a0 : Nat) (x1 : Int32) (x2 : Int32) : Sim 2 yX8_isPair cX8_isPair 3 (some .boolean) iI [.ref a0, .int x1, .int x2] (P_X8_isPair a0 x1 x2) := Sim.intro wd_1095 (by decide) (by decide +kernel) (Nat.le_of_ble_eq_true rfl) (fun Γ ok okr => W_X8_isPair ok okr a0 x1 x2)
theorem dX8_told_0 : decode cX8_told 0 = .ok (.iload_n 2, 1) := by decide +kernel
theorem dX8_told_1 : decode cX8_told 1 = .ok (.tableswitch 72 0 4 #[35, 42, 49, 56, 65], 35) := by decide +kernel
theorem dX8_told_36 : decode cX8_told 36 = .ok (.aload_n 0, 1) := by decide +kernel
theorem dX8_told_37 : decode cX8_told 37 = .ok (.getfield 28, 3) := by decide +kernel
theorem dX8_told_40 : decode cX8_told 40 = .ok (.iload_n 1, 1) := by decide +kernel
theorem dX8_told_41 : decode cX8_told 41 = .ok (.iaload, 1) := by decide +kernel
theorem dX8_told_42 : decode cX8_told 42 = .ok (.ireturn, 1) := by decide +kernel
theorem dX8_told_43 : decode cX8_told 43 = .ok (.aload_n 0, 1) := by decide +kernel
theorem dX8_told_44 : decode cX8_told 44 = .ok (.getfield 31, 3) := by decide +kernel
theorem dX8_told_47 : decode cX8_told 47 = .ok (.iload_n 1, 1) := by decide +kernel
theorem dX8_told_48 : decode cX8_told 48 = .ok (.iaload, 1) := by decide +kernel
theorem dX8_told_49 : decode cX8_told 49 = .ok (.ireturn, 1) := by decide +kernel
theorem dX8_told_50 : decode cX8_told 50 = .ok (.aload_n 0, 1) := by decide +kernel
theorem dX8_told_51 : decode cX8_told 51 = .ok (.getfield 34, 3) := by decide +kernel
theorem dX8_told_54 : decode cX8_told 54 = .ok (.iload_n 1, 1) := by decide +kernel
theorem dX8_told_55 : decode cX8_told 55 = .ok (.iaload, 1) := by decide +kernel
theorem dX8_told_56 : decode cX8_told 56 = .ok (.ireturn, 1) := by decide +kernel
theorem dX8_told_57 : decode cX8_told 57 = .ok (.aload_n 0, 1) := by decide +kernel
theorem dX8_told_58 : decode cX8_told 58 = .ok (.getfield 22, 3) := by decide +kernel
theorem dX8_told_61 : decode cX8_told 61 = .ok (.iconst 5, 1) := by decide +kernel
theorem dX8_told_62 : decode cX8_told 62 = .ok (.iload_n 1, 1) := by decide +kernel
theorem dX8_told_63 : decode cX8_told 63 = .ok (.iadd, 1) := by decide +kernel
theorem dX8_told_64 : decode cX8_told 64 = .ok (.iaload, 1) := by decide +kernel
theorem dX8_told_65 : decode cX8_told 65 = .ok (.ireturn, 1) := by decide +kernel
theorem dX8_told_66 : decode cX8_told 66 = .ok (.aload_n 0, 1) := by decide +kernel
theorem dX8_told_67 : decode cX8_told 67 = .ok (.iconst 0, 1) := by decide +kernel
theorem dX8_told_68 : decode cX8_told 68 = .ok (.iload_n 1, 1) := by decide +kernel
theorem dX8_told_69 : decode cX8_told 69 = .ok (.invokevirtual 176, 3) := by decide +kernel
theorem dX8_told_72 : decode cX8_told 72 = .ok (.ireturn, 1) := by decide +kernel
theorem dX8_told_73 : decode cX8_told 73 = .ok (.aload_n 0, 1) := by decide +kernel
theorem dX8_told_74 : decode cX8_told 74 = .ok (.getfield 37, 3) := by decide +kernel
theorem dX8_told_77 : decode cX8_told 77 = .ok (.iload_n 1, 1) := by decide +kernel
theorem dX8_told_78 : decode cX8_told 78 = .ok (.iaload, 1) := by decide +kernel
theorem dX8_told_79 : decode cX8_told 79 = .ok (.ireturn, 1) := by decide +kernel
def P_X8_told (a0 : Nat) (x1 : Int32) (x2 : Int32) : PM Int32 :=
swT x2 0 [
getR 8 6 a0 fun v1 =>
ald v1 x1 fun v2 =>
pureM v2,
getR 8 7 a0 fun v3 =>
ald v3 x1 fun v4 =>
pureM v4,
getR 8 8 a0 fun v5 =>
ald v5 x1 fun v6 =>
pureM v6,
getR 8 4 a0 fun v7 =>
ald v7 (5 + x1) fun v8 =>
pureM v8,
cllV 8 a0 (P_X8_tellsIn a0 0 x1) fun v9 =>
pureM v9] (
getR 8 9 a0 fun v10 =>
ald v10 x1 fun v11 =>
pureM v11)
set_option maxHeartbeats 4000000 in
set_option maxRecDepth 100000 in
theorem W_X8_told {Γ : Cx} (ok : OKc Γ cX8_told RX8 4 "told") (okr : OKr Γ cX8_told (some .int)) (a0 : Nat) (x1 : Int32) (x2 : Int32) : SW Γ iI 0 [some (.ref a0), some (.int x1), some (.int x2)] [] (P_X8_told a0 x1 x2) := by
  unfold P_X8_told
  refine sw_iload_n (z := x2) (pc' := 1) ok dX8_told_0 rfl rfl ?_
  refine sw_tsw (tgt := 73) ok dX8_told_1 (by decide) (by rfl) ⟨⟨36, by decide, ?_⟩, ⟨43, by decide, ?_⟩, ⟨50, by decide, ?_⟩, ⟨57, by decide, ?_⟩, ⟨66, by decide, ?_⟩, trivial⟩ ?_
  · refine sw_aload_n (z := a0) (pc' := 37) ok dX8_told_36 rfl rfl ?_
    refine sw_getR (pc' := 40) ok (fr_X8_28.g) dX8_told_37 rfl (fun v1 => ?_)
    refine sw_iload_n (z := x1) (pc' := 41) ok dX8_told_40 rfl rfl ?_
    refine sw_ald (pc' := 42) ok dX8_told_41 rfl (fun v2 => ?_)
    exact sw_ret ok okr dX8_told_42 trivial rfl
  · refine sw_aload_n (z := a0) (pc' := 44) ok dX8_told_43 rfl rfl ?_
    refine sw_getR (pc' := 47) ok (fr_X8_31.g) dX8_told_44 rfl (fun v3 => ?_)
    refine sw_iload_n (z := x1) (pc' := 48) ok dX8_told_47 rfl rfl ?_
    refine sw_ald (pc' := 49) ok dX8_told_48 rfl (fun v4 => ?_)
    exact sw_ret ok okr dX8_told_49 trivial rfl
  · refine sw_aload_n (z := a0) (pc' := 51) ok dX8_told_50 rfl rfl ?_
    refine sw_getR (pc' := 54) ok (fr_X8_34.g) dX8_told_51 rfl (fun v5 => ?_)
    refine sw_iload_n (z := x1) (pc' := 55) ok dX8_told_54 rfl rfl ?_
    refine sw_ald (pc' := 56) ok dX8_told_55 rfl (fun v6 => ?_)
    exact sw_ret ok okr dX8_told_56 trivial rfl
  · refine sw_aload_n (z := a0) (pc' := 58) ok dX8_told_57 rfl rfl ?_
    refine sw_getR (pc' := 61) ok (fr_X8_22.g) dX8_told_58 rfl (fun v7 => ?_)
    refine sw_iconst (v := 5) (pc' := 62) ok dX8_told_61 rfl cc_iconst_5 ?_
    refine sw_iload_n (z := x1) (pc' := 63) ok dX8_told_62 rfl rfl ?_
    refine sw_iadd (pc' := 64) ok dX8_told_63 rfl ?_
    refine sw_ald (pc' := 65) ok dX8_told_64 rfl (fun v8 => ?_)
    exact sw_ret ok okr dX8_told_65 trivial rfl
  · refine sw_aload_n (z := a0) (pc' := 67) ok dX8_told_66 rfl rfl ?_
    refine sw_iconst (v := 0) (pc' := 68) ok dX8_told_67 rfl cc_iconst_0 ?_
    refine sw_iload_n (z := x1) (pc' := 69) ok dX8_told_68 rfl rfl ?_
    refine sw_cllV_I (st := []) (as := [.int 0, .int x1]) (pc' := 72) ok (S_X8_tellsIn a0 0 x1) (by decide) lk_X8_176 rfl dX8_told_69 rfl (Nat.le_of_ble_eq_true rfl) rfl (fun v9 => ?_)
    exact sw_ret ok okr dX8_told_72 trivial rfl
  refine sw_aload_n (z := a0) (pc' := 74) ok dX8_told_73 rfl rfl ?_
  refine sw_getR (pc' := 77) ok (fr_X8_37.g) dX8_told_74 rfl (fun v10 => ?_)
  refine sw_iload_n (z := x1) (pc' := 78) ok dX8_told_77 rfl rfl ?_
  refine sw_ald (pc' := 79) ok dX8_told_78 rfl (fun v11 => ?_)
  exact sw_ret ok okr dX8_told_79 trivial rfl
theorem S_X8_told (a0 : Nat) (x1 : Int32) (x2 : Int32) : Sim 4 yX8_told cX8_told 3 (some .int) iI [.ref a0, .int x1, .int x2] (P_X8_told a0 x1 x2) := Sim.intro wd_1096 (by decide) (by decide +kernel) (Nat.le_of_ble_eq_true rfl) (fun Γ ok okr => W_X8_told ok okr a0 x1 x2)
theorem dX8_one_0 : decode cX8_one 0 = .ok (.aload_n 0, 1) := by decide +kernel
theorem dX8_one_1 : decode cX8_one 1 = .ok (.iload_n 1, 1) := by decide +kernel
theorem dX8_one_2 : decode cX8_one 2 = .ok (.invokevirtual 186, 3) := by decide +kernel
theorem dX8_one_5 : decode cX8_one 5 = .ok (.ifCond .eq 15, 3) := by decide +kernel
theorem dX8_one_8 : decode cX8_one 8 = .ok (.iload_n 2, 1) := by decide +kernel
theorem dX8_one_9 : decode cX8_one 9 = .ok (.i2l, 1) := by decide +kernel
theorem dX8_one_10 : decode cX8_one 10 = .ok (.lconst 0, 1) := by decide +kernel
theorem dX8_one_11 : decode cX8_one 11 = .ok (.ldc2_w 78, 3) := by decide +kernel
theorem dX8_one_14 : decode cX8_one 14 = .ok (.invokestatic 80, 3) := by decide +kernel
theorem dX8_one_17 : decode cX8_one 17 = .ok (.ifCond .ne 5, 3) := by decide +kernel
theorem dX8_one_20 : decode cX8_one 20 = .ok (.iconst (-1), 1) := by decide +kernel
theorem dX8_one_21 : decode cX8_one 21 = .ok (.ireturn, 1) := by decide +kernel
theorem dX8_one_22 : decode cX8_one 22 = .ok (.aload_n 0, 1) := by decide +kernel
theorem dX8_one_23 : decode cX8_one 23 = .ok (.aload_n 0, 1) := by decide +kernel
theorem dX8_one_24 : decode cX8_one 24 = .ok (.iload_n 1, 1) := by decide +kernel
theorem dX8_one_25 : decode cX8_one 25 = .ok (.iload_n 2, 1) := by decide +kernel
theorem dX8_one_26 : decode cX8_one 26 = .ok (.invokevirtual 189, 3) := by decide +kernel
theorem dX8_one_29 : decode cX8_one 29 = .ok (.putfield 98, 3) := by decide +kernel
theorem dX8_one_32 : decode cX8_one 32 = .ok (.iconst 1, 1) := by decide +kernel
theorem dX8_one_33 : decode cX8_one 33 = .ok (.ireturn, 1) := by decide +kernel
def P_X8_one (a0 : Nat) (x1 : Int32) (x2 : Int32) : PM Int32 :=
cllV 8 a0 (P_X8_isOne a0 x1) fun v1 =>
ifB (decide (v1 = 0)) (
pureM ((-1))) (
cll0 (P_X8_in (Int32.toInt64 x2) 0 5) fun v2 =>
ifB (decide (¬ v2 = 0)) (
cllV 8 a0 (P_X8_told a0 x1 x2) fun v3 =>
setI 8 14 a0 v3 <|
pureM 1) (
pureM ((-1))))
set_option maxHeartbeats 4000000 in
set_option maxRecDepth 100000 in
theorem W_X8_one {Γ : Cx} (ok : OKc Γ cX8_one RX8 5 "one") (okr : OKr Γ cX8_one (some .int)) (a0 : Nat) (x1 : Int32) (x2 : Int32) : SW Γ iI 0 [some (.ref a0), some (.int x1), some (.int x2)] [] (P_X8_one a0 x1 x2) := by
  unfold P_X8_one
  refine sw_aload_n (z := a0) (pc' := 1) ok dX8_one_0 rfl rfl ?_
  refine sw_iload_n (z := x1) (pc' := 2) ok dX8_one_1 rfl rfl ?_
  refine sw_cllV_I (st := []) (as := [.int x1]) (pc' := 5) ok (S_X8_isOne a0 x1) (by decide) lk_X8_186 rfl dX8_one_2 rfl (Nat.le_of_ble_eq_true rfl) rfl (fun v1 => ?_)
  refine sw_if_eq (tgt := 20) (pc' := 8) ok dX8_one_5 (by decide) rfl ?_ ?_
  · refine sw_iconst (v := (-1)) (pc' := 21) ok dX8_one_20 rfl cc_iconst_m1 ?_
    exact sw_ret ok okr dX8_one_21 trivial rfl
  refine sw_iload_n (z := x2) (pc' := 9) ok dX8_one_8 rfl rfl ?_
  refine sw_i2l (pc' := 10) ok dX8_one_9 rfl ?_
  refine sw_lconst (v := 0) (pc' := 11) ok dX8_one_10 rfl cc_lconst_0 ?_
  refine sw_ldc2 (v := 5) (pc' := 14) ok dX8_one_11 rfl wd_475 ?_
  refine sw_cll0_I (st := []) (as := [.long (Int32.toInt64 x2), .long 0, .long 5]) (pc' := 17) ok (S_X8_in (Int32.toInt64 x2) 0 5) (by decide) lk_X8_80 rfl dX8_one_14 rfl (Nat.le_of_ble_eq_true rfl) rfl (fun v2 => ?_)
  refine sw_if_ne (tgt := 22) (pc' := 20) ok dX8_one_17 (by decide) rfl ?_ ?_
  · refine sw_aload_n (z := a0) (pc' := 23) ok dX8_one_22 rfl rfl ?_
    refine sw_aload_n (z := a0) (pc' := 24) ok dX8_one_23 rfl rfl ?_
    refine sw_iload_n (z := x1) (pc' := 25) ok dX8_one_24 rfl rfl ?_
    refine sw_iload_n (z := x2) (pc' := 26) ok dX8_one_25 rfl rfl ?_
    refine sw_cllV_I (st := [.ref a0]) (as := [.int x1, .int x2]) (pc' := 29) ok (S_X8_told a0 x1 x2) (by decide) lk_X8_189 rfl dX8_one_26 rfl (Nat.le_of_ble_eq_true rfl) rfl (fun v3 => ?_)
    refine sw_setI (pc' := 32) ok fr_X8_98 dX8_one_29 (fun h => by cases h) rfl ?_
    refine sw_iconst (v := 1) (pc' := 33) ok dX8_one_32 rfl cc_iconst_1 ?_
    exact sw_ret ok okr dX8_one_33 trivial rfl
  refine sw_iconst (v := (-1)) (pc' := 21) ok dX8_one_20 rfl cc_iconst_m1 ?_
  exact sw_ret ok okr dX8_one_21 trivial rfl
theorem S_X8_one (a0 : Nat) (x1 : Int32) (x2 : Int32) : Sim 5 yX8_one cX8_one 3 (some .int) iI [.ref a0, .int x1, .int x2] (P_X8_one a0 x1 x2) := Sim.intro wd_1097 (by decide) (by decide +kernel) (Nat.le_of_ble_eq_true rfl) (fun Γ ok okr => W_X8_one ok okr a0 x1 x2)
theorem dX8_isOf_0 : decode cX8_isOf 0 = .ok (.iload_n 0, 1) := by decide +kernel
theorem dX8_isOf_1 : decode cX8_isOf 1 = .ok (.iload_n 1, 1) := by decide +kernel
theorem dX8_isOf_2 : decode cX8_isOf 2 = .ok (.if_icmp .eq 23, 3) := by decide +kernel
theorem dX8_isOf_5 : decode cX8_isOf 5 = .ok (.iload_n 0, 1) := by decide +kernel
theorem dX8_isOf_6 : decode cX8_isOf 6 = .ok (.iconst 4, 1) := by decide +kernel
theorem dX8_isOf_7 : decode cX8_isOf 7 = .ok (.if_icmp .ne 8, 3) := by decide +kernel
theorem dX8_isOf_10 : decode cX8_isOf 10 = .ok (.iload_n 1, 1) := by decide +kernel
theorem dX8_isOf_11 : decode cX8_isOf 11 = .ok (.iconst 1, 1) := by decide +kernel
theorem dX8_isOf_12 : decode cX8_isOf 12 = .ok (.if_icmp .eq 13, 3) := by decide +kernel
theorem dX8_isOf_15 : decode cX8_isOf 15 = .ok (.iload_n 0, 1) := by decide +kernel
theorem dX8_isOf_16 : decode cX8_isOf 16 = .ok (.iconst 5, 1) := by decide +kernel
theorem dX8_isOf_17 : decode cX8_isOf 17 = .ok (.if_icmp .ne 12, 3) := by decide +kernel
theorem dX8_isOf_20 : decode cX8_isOf 20 = .ok (.iload_n 1, 1) := by decide +kernel
theorem dX8_isOf_21 : decode cX8_isOf 21 = .ok (.iconst 2, 1) := by decide +kernel
theorem dX8_isOf_22 : decode cX8_isOf 22 = .ok (.if_icmp .ne 7, 3) := by decide +kernel
theorem dX8_isOf_25 : decode cX8_isOf 25 = .ok (.iconst 1, 1) := by decide +kernel
theorem dX8_isOf_26 : decode cX8_isOf 26 = .ok (.goto 4, 3) := by decide +kernel
theorem dX8_isOf_29 : decode cX8_isOf 29 = .ok (.iconst 0, 1) := by decide +kernel
theorem dX8_isOf_30 : decode cX8_isOf 30 = .ok (.ireturn, 1) := by decide +kernel
def P_X8_isOf (x0 : Int32) (x1 : Int32) : PM Int32 :=
jn (
retZ 1) fun k1 =>
ifB (decide (x0 = x1)) (
k1) (
jn (
jn (
retZ 0) fun k2 =>
ifB (decide (¬ x0 = 5)) (
k2) (
ifB (decide (¬ x1 = 2)) (
k2) (
k1))) fun k3 =>
ifB (decide (¬ x0 = 4)) (
k3) (
ifB (decide (x1 = 1)) (
k1) (
k3)))
set_option maxHeartbeats 4000000 in
set_option maxRecDepth 100000 in
theorem W_X8_isOf {Γ : Cx} (ok : OKc Γ cX8_isOf RX8 0 "isOf") (okr : OKr Γ cX8_isOf (some .boolean)) (x0 : Int32) (x1 : Int32) : SW Γ iI 0 [some (.int x0), some (.int x1)] [] (P_X8_isOf x0 x1) := by
  unfold P_X8_isOf
  refine sw_iload_n (z := x0) (pc' := 1) ok dX8_isOf_0 rfl rfl ?_
  refine sw_iload_n (z := x1) (pc' := 2) ok dX8_isOf_1 rfl rfl ?_
  refine sw_jn (fun k1 : PM Int32 => SW Γ iI 25 [none, none] [] (k1)) ?_ (fun k1 hk1 => ?_)
  · refine sw_iconst (v := 1) (pc' := 26) ok dX8_isOf_25 rfl cc_iconst_1 ?_
    refine sw_goto (tgt := 30) ok dX8_isOf_26 (by decide) ?_
    exact sw_retZ ok okr dX8_isOf_30
  refine sw_icmp_eq (tgt := 25) (pc' := 5) ok dX8_isOf_2 (by decide) rfl ?_ ?_
  · refine sw_fg (l' := [none, none]) [false, false] rfl ?_
    exact hk1
  refine sw_iload_n (z := x0) (pc' := 6) ok dX8_isOf_5 rfl rfl ?_
  refine sw_iconst (v := 4) (pc' := 7) ok dX8_isOf_6 rfl cc_iconst_4 ?_
  refine sw_jn (fun k3 : PM Int32 => SW Γ iI 15 [some (.int x0), some (.int x1)] [] (k3)) ?_ (fun k3 hk3 => ?_)
  · refine sw_iload_n (z := x0) (pc' := 16) ok dX8_isOf_15 rfl rfl ?_
    refine sw_iconst (v := 5) (pc' := 17) ok dX8_isOf_16 rfl cc_iconst_5 ?_
    refine sw_jn (fun k2 : PM Int32 => SW Γ iI 29 [none, none] [] (k2)) ?_ (fun k2 hk2 => ?_)
    · refine sw_iconst (v := 0) (pc' := 30) ok dX8_isOf_29 rfl cc_iconst_0 ?_
      exact sw_retZ ok okr dX8_isOf_30
    refine sw_icmp_ne (tgt := 29) (pc' := 20) ok dX8_isOf_17 (by decide) rfl ?_ ?_
    · refine sw_fg (l' := [none, none]) [false, false] rfl ?_
      exact hk2
    refine sw_iload_n (z := x1) (pc' := 21) ok dX8_isOf_20 rfl rfl ?_
    refine sw_iconst (v := 2) (pc' := 22) ok dX8_isOf_21 rfl cc_iconst_2 ?_
    refine sw_icmp_ne (tgt := 29) (pc' := 25) ok dX8_isOf_22 (by decide) rfl ?_ ?_
    · refine sw_fg (l' := [none, none]) [false, false] rfl ?_
      exact hk2
    refine sw_fg (l' := [none, none]) [false, false] rfl ?_
    exact hk1
  refine sw_icmp_ne (tgt := 15) (pc' := 10) ok dX8_isOf_7 (by decide) rfl ?_ ?_
  · exact hk3
  refine sw_iload_n (z := x1) (pc' := 11) ok dX8_isOf_10 rfl rfl ?_
  refine sw_iconst (v := 1) (pc' := 12) ok dX8_isOf_11 rfl cc_iconst_1 ?_
  refine sw_icmp_eq (tgt := 25) (pc' := 15) ok dX8_isOf_12 (by decide) rfl ?_ ?_
  · refine sw_fg (l' := [none, none]) [false, false] rfl ?_
    exact hk1
  exact hk3
theorem S_X8_isOf (x0 : Int32) (x1 : Int32) : Sim 0 yX8_isOf cX8_isOf 2 (some .boolean) iI [.int x0, .int x1] (P_X8_isOf x0 x1) := Sim.intro wd_1098 (by decide) (by decide +kernel) (Nat.le_of_ble_eq_true rfl) (fun Γ ok okr => W_X8_isOf ok okr x0 x1)
theorem dX8_halves_0 : decode cX8_halves 0 = .ok (.iconst 0, 1) := by decide +kernel
theorem dX8_halves_1 : decode cX8_halves 1 = .ok (.istore_n 2, 1) := by decide +kernel
theorem dX8_halves_2 : decode cX8_halves 2 = .ok (.iconst 0, 1) := by decide +kernel
theorem dX8_halves_3 : decode cX8_halves 3 = .ok (.istore_n 3, 1) := by decide +kernel
theorem dX8_halves_4 : decode cX8_halves 4 = .ok (.iload_n 3, 1) := by decide +kernel
theorem dX8_halves_5 : decode cX8_halves 5 = .ok (.aload_n 0, 1) := by decide +kernel
theorem dX8_halves_6 : decode cX8_halves 6 = .ok (.getfield 156, 3) := by decide +kernel
theorem dX8_halves_9 : decode cX8_halves 9 = .ok (.if_icmp .ge 32, 3) := by decide +kernel
theorem dX8_halves_12 : decode cX8_halves 12 = .ok (.iload_n 2, 1) := by decide +kernel
theorem dX8_halves_13 : decode cX8_halves 13 = .ok (.iload_n 3, 1) := by decide +kernel
theorem dX8_halves_14 : decode cX8_halves 14 = .ok (.iload_n 1, 1) := by decide +kernel
theorem dX8_halves_15 : decode cX8_halves 15 = .ok (.if_icmp .eq 17, 3) := by decide +kernel
theorem dX8_halves_18 : decode cX8_halves 18 = .ok (.aload_n 0, 1) := by decide +kernel
theorem dX8_halves_19 : decode cX8_halves 19 = .ok (.iconst 0, 1) := by decide +kernel
theorem dX8_halves_20 : decode cX8_halves 20 = .ok (.iload_n 1, 1) := by decide +kernel
theorem dX8_halves_21 : decode cX8_halves 21 = .ok (.iload_n 3, 1) := by decide +kernel
theorem dX8_halves_22 : decode cX8_halves 22 = .ok (.invokevirtual 183, 3) := by decide +kernel
theorem dX8_halves_25 : decode cX8_halves 25 = .ok (.ifCond .le 7, 3) := by decide +kernel
theorem dX8_halves_28 : decode cX8_halves 28 = .ok (.iconst 1, 1) := by decide +kernel
theorem dX8_halves_29 : decode cX8_halves 29 = .ok (.goto 4, 3) := by decide +kernel
theorem dX8_halves_32 : decode cX8_halves 32 = .ok (.iconst 0, 1) := by decide +kernel
theorem dX8_halves_33 : decode cX8_halves 33 = .ok (.iadd, 1) := by decide +kernel
theorem dX8_halves_34 : decode cX8_halves 34 = .ok (.istore_n 2, 1) := by decide +kernel
theorem dX8_halves_35 : decode cX8_halves 35 = .ok (.iinc 3 1, 3) := by decide +kernel
theorem dX8_halves_38 : decode cX8_halves 38 = .ok (.goto (-34), 3) := by decide +kernel
theorem dX8_halves_41 : decode cX8_halves 41 = .ok (.iload_n 2, 1) := by decide +kernel
theorem dX8_halves_42 : decode cX8_halves 42 = .ok (.ireturn, 1) := by decide +kernel
def P_X8_halves_4 (p0 : Nat) (p1 : Int32) : Nat → Int32 → Int32 → PM Int32
  | 0, _, _ => failM
  | n + 1, q2, q3 =>
    getI 8 10 p0 fun v1 =>
    ifB (decide (v1 ≤ q3)) (
    pureM q2) (
    jn (fun (j2 : Int32) (j3 : Int32) =>
    P_X8_halves_4 p0 p1 n (j2 + j3) (q3 + 1)) fun k4 =>
    jn (fun (j5 : Int32) =>
    k4 j5 0) fun k6 =>
    ifB (decide (q3 = p1)) (
    k6 q2) (
    cllV 8 p0 (P_X8_bothIn p0 0 p1 q3) fun v7 =>
    ifB (decide (v7 ≤ 0)) (
    k6 q2) (
    k4 q2 1)))
def P_X8_halves (a0 : Nat) (x1 : Int32) : PM Int32 :=
P_X8_halves_4 a0 x1 4000 0 0
set_option maxHeartbeats 4000000 in
set_option maxRecDepth 100000 in
theorem W_X8_halves_4 {Γ : Cx} (ok : OKc Γ cX8_halves RX8 5 "halves") (okr : OKr Γ cX8_halves (some .int)) (p0 : Nat) (p1 : Int32) : ∀ (n : Nat) (q2 : Int32) (q3 : Int32), SW Γ iI 4 [some (.ref p0), some (.int p1), some (.int q2), some (.int q3)] [] (P_X8_halves_4 p0 p1 n q2 q3) := by
  intro n
  induction n with
  | zero =>
    intros
    exact sw_fail
  | succ n ih =>
    intro q2 q3
    unfold P_X8_halves_4
    refine sw_iload_n (z := q3) (pc' := 5) ok dX8_halves_4 rfl rfl ?_
    refine sw_aload_n (z := p0) (pc' := 6) ok dX8_halves_5 rfl rfl ?_
    refine sw_getI (pc' := 9) ok (fr_X8_156.g) dX8_halves_6 rfl (fun v1 => ?_)
    refine sw_icmp_ge (tgt := 41) (pc' := 12) ok dX8_halves_9 (by decide) rfl ?_ ?_
    · refine sw_iload_n (z := q2) (pc' := 42) ok dX8_halves_41 rfl rfl ?_
      exact sw_ret ok okr dX8_halves_42 trivial rfl
    refine sw_iload_n (z := q2) (pc' := 13) ok dX8_halves_12 rfl rfl ?_
    refine sw_iload_n (z := q3) (pc' := 14) ok dX8_halves_13 rfl rfl ?_
    refine sw_iload_n (z := p1) (pc' := 15) ok dX8_halves_14 rfl rfl ?_
    refine sw_jn (fun k4 : Int32 → Int32 → PM Int32 => ∀ (j2 : Int32) (j3 : Int32), SW Γ iI 33 [some (.ref p0), some (.int p1), none, some (.int q3)] [.int j3, .int j2] (k4 j2 j3)) ?_ (fun k4 hk4 => ?_)
    · intro j2 j3
      refine sw_iadd (pc' := 34) ok dX8_halves_33 rfl ?_
      refine sw_istore_n (pc' := 35) (l' := [some (.ref p0), some (.int p1), some (.int (j2 + j3)), some (.int q3)]) ok dX8_halves_34 rfl (Nat.le_of_ble_eq_true rfl) rfl ?_
      refine sw_iinc (z := q3) (v := q3 + 1) (pc' := 38) (l' := [some (.ref p0), some (.int p1), some (.int (j2 + j3)), some (.int (q3 + 1))]) ok dX8_halves_35 rfl rfl (by rw [cc_iconst_1]) rfl ?_
      refine sw_goto (tgt := 4) ok dX8_halves_38 (by decide) ?_
      exact ih (j2 + j3) (q3 + 1)
    refine sw_jn (fun k6 : Int32 → PM Int32 => ∀ (j5 : Int32), SW Γ iI 32 [some (.ref p0), some (.int p1), none, some (.int q3)] [.int j5] (k6 j5)) ?_ (fun k6 hk6 => ?_)
    · intro j5
      refine sw_iconst (v := 0) (pc' := 33) ok dX8_halves_32 rfl cc_iconst_0 ?_
      exact hk4 j5 0
    refine sw_icmp_eq (tgt := 32) (pc' := 18) ok dX8_halves_15 (by decide) rfl ?_ ?_
    · refine sw_fg (l' := [some (.ref p0), some (.int p1), none, some (.int q3)]) [true, true, false, true] rfl ?_
      exact hk6 q2
    refine sw_aload_n (z := p0) (pc' := 19) ok dX8_halves_18 rfl rfl ?_
    refine sw_iconst (v := 0) (pc' := 20) ok dX8_halves_19 rfl cc_iconst_0 ?_
    refine sw_iload_n (z := p1) (pc' := 21) ok dX8_halves_20 rfl rfl ?_
    refine sw_iload_n (z := q3) (pc' := 22) ok dX8_halves_21 rfl rfl ?_
    refine sw_cllV_I (st := [.int q2]) (as := [.int 0, .int p1, .int q3]) (pc' := 25) ok (S_X8_bothIn p0 0 p1 q3) (by decide) lk_X8_183 rfl dX8_halves_22 rfl (Nat.le_of_ble_eq_true rfl) rfl (fun v7 => ?_)
    refine sw_if_le (tgt := 32) (pc' := 28) ok dX8_halves_25 (by decide) rfl ?_ ?_
    · refine sw_fg (l' := [some (.ref p0), some (.int p1), none, some (.int q3)]) [true, true, false, true] rfl ?_
      exact hk6 q2
    refine sw_iconst (v := 1) (pc' := 29) ok dX8_halves_28 rfl cc_iconst_1 ?_
    refine sw_goto (tgt := 33) ok dX8_halves_29 (by decide) ?_
    refine sw_fg (l' := [some (.ref p0), some (.int p1), none, some (.int q3)]) [true, true, false, true] rfl ?_
    exact hk4 q2 1
set_option maxHeartbeats 4000000 in
set_option maxRecDepth 100000 in
theorem W_X8_halves {Γ : Cx} (ok : OKc Γ cX8_halves RX8 5 "halves") (okr : OKr Γ cX8_halves (some .int)) (a0 : Nat) (x1 : Int32) : SW Γ iI 0 [some (.ref a0), some (.int x1), none, none] [] (P_X8_halves a0 x1) := by
  unfold P_X8_halves
  refine sw_iconst (v := 0) (pc' := 1) ok dX8_halves_0 rfl cc_iconst_0 ?_
  refine sw_istore_n (pc' := 2) (l' := [some (.ref a0), some (.int x1), some (.int 0), none]) ok dX8_halves_1 rfl (Nat.le_of_ble_eq_true rfl) rfl ?_
  refine sw_iconst (v := 0) (pc' := 3) ok dX8_halves_2 rfl cc_iconst_0 ?_
  refine sw_istore_n (pc' := 4) (l' := [some (.ref a0), some (.int x1), some (.int 0), some (.int 0)]) ok dX8_halves_3 rfl (Nat.le_of_ble_eq_true rfl) rfl ?_
  exact W_X8_halves_4 ok okr a0 x1 4000 0 0
theorem S_X8_halves (a0 : Nat) (x1 : Int32) : Sim 5 yX8_halves cX8_halves 4 (some .int) iI [.ref a0, .int x1] (P_X8_halves a0 x1) := Sim.intro wd_1099 (by decide) (by decide +kernel) (Nat.le_of_ble_eq_true rfl) (fun Γ ok okr => W_X8_halves ok okr a0 x1)
theorem dX8_mark_0 : decode cX8_mark 0 = .ok (.aload_n 0, 1) := by decide +kernel
theorem dX8_mark_1 : decode cX8_mark 1 = .ok (.iload_n 1, 1) := by decide +kernel
theorem dX8_mark_2 : decode cX8_mark 2 = .ok (.invokevirtual 186, 3) := by decide +kernel
theorem dX8_mark_5 : decode cX8_mark 5 = .ok (.ifCond .eq 15, 3) := by decide +kernel
theorem dX8_mark_8 : decode cX8_mark 8 = .ok (.iload_n 2, 1) := by decide +kernel
theorem dX8_mark_9 : decode cX8_mark 9 = .ok (.i2l, 1) := by decide +kernel
theorem dX8_mark_10 : decode cX8_mark 10 = .ok (.lconst 1, 1) := by decide +kernel
theorem dX8_mark_11 : decode cX8_mark 11 = .ok (.ldc2_w 78, 3) := by decide +kernel
theorem dX8_mark_14 : decode cX8_mark 14 = .ok (.invokestatic 80, 3) := by decide +kernel
theorem dX8_mark_17 : decode cX8_mark 17 = .ok (.ifCond .ne 5, 3) := by decide +kernel
theorem dX8_mark_20 : decode cX8_mark 20 = .ok (.iconst (-1), 1) := by decide +kernel
theorem dX8_mark_21 : decode cX8_mark 21 = .ok (.ireturn, 1) := by decide +kernel
theorem dX8_mark_22 : decode cX8_mark 22 = .ok (.aload_n 0, 1) := by decide +kernel
theorem dX8_mark_23 : decode cX8_mark 23 = .ok (.getfield 28, 3) := by decide +kernel
theorem dX8_mark_26 : decode cX8_mark 26 = .ok (.iload_n 1, 1) := by decide +kernel
theorem dX8_mark_27 : decode cX8_mark 27 = .ok (.iaload, 1) := by decide +kernel
theorem dX8_mark_28 : decode cX8_mark 28 = .ok (.iload_n 2, 1) := by decide +kernel
theorem dX8_mark_29 : decode cX8_mark 29 = .ok (.invokestatic 192, 3) := by decide +kernel
theorem dX8_mark_32 : decode cX8_mark 32 = .ok (.ifCond .ne 9, 3) := by decide +kernel
theorem dX8_mark_35 : decode cX8_mark 35 = .ok (.aload_n 0, 1) := by decide +kernel
theorem dX8_mark_36 : decode cX8_mark 36 = .ok (.iconst 3, 1) := by decide +kernel
theorem dX8_mark_37 : decode cX8_mark 37 = .ok (.invokevirtual 90, 3) := by decide +kernel
theorem dX8_mark_40 : decode cX8_mark 40 = .ok (.ireturn, 1) := by decide +kernel
theorem dX8_mark_41 : decode cX8_mark 41 = .ok (.aload_n 0, 1) := by decide +kernel
theorem dX8_mark_42 : decode cX8_mark 42 = .ok (.iconst 0, 1) := by decide +kernel
theorem dX8_mark_43 : decode cX8_mark 43 = .ok (.invokevirtual 169, 3) := by decide +kernel
theorem dX8_mark_46 : decode cX8_mark 46 = .ok (.istore_n 3, 1) := by decide +kernel
theorem dX8_mark_47 : decode cX8_mark 47 = .ok (.aload_n 0, 1) := by decide +kernel
theorem dX8_mark_48 : decode cX8_mark 48 = .ok (.iconst 0, 1) := by decide +kernel
theorem dX8_mark_49 : decode cX8_mark 49 = .ok (.iload_n 1, 1) := by decide +kernel
theorem dX8_mark_50 : decode cX8_mark 50 = .ok (.invokevirtual 176, 3) := by decide +kernel
theorem dX8_mark_53 : decode cX8_mark 53 = .ok (.istore 4, 2) := by decide +kernel
theorem dX8_mark_55 : decode cX8_mark 55 = .ok (.iload_n 2, 1) := by decide +kernel
theorem dX8_mark_56 : decode cX8_mark 56 = .ok (.tableswitch 92 1 4 #[32, 59, 73, 86], 32) := by decide +kernel
theorem dX8_mark_88 : decode cX8_mark 88 = .ok (.aload_n 0, 1) := by decide +kernel
theorem dX8_mark_89 : decode cX8_mark 89 = .ok (.getfield 31, 3) := by decide +kernel
theorem dX8_mark_92 : decode cX8_mark 92 = .ok (.iload_n 1, 1) := by decide +kernel
theorem dX8_mark_93 : decode cX8_mark 93 = .ok (.iaload, 1) := by decide +kernel
theorem dX8_mark_94 : decode cX8_mark 94 = .ok (.aload_n 0, 1) := by decide +kernel
theorem dX8_mark_95 : decode cX8_mark 95 = .ok (.getfield 34, 3) := by decide +kernel
theorem dX8_mark_98 : decode cX8_mark 98 = .ok (.iload_n 1, 1) := by decide +kernel
theorem dX8_mark_99 : decode cX8_mark 99 = .ok (.iaload, 1) := by decide +kernel
theorem dX8_mark_100 : decode cX8_mark 100 = .ok (.aload_n 0, 1) := by decide +kernel
theorem dX8_mark_101 : decode cX8_mark 101 = .ok (.getfield 22, 3) := by decide +kernel
theorem dX8_mark_104 : decode cX8_mark 104 = .ok (.iconst 5, 1) := by decide +kernel
theorem dX8_mark_105 : decode cX8_mark 105 = .ok (.iload_n 1, 1) := by decide +kernel
theorem dX8_mark_106 : decode cX8_mark 106 = .ok (.iadd, 1) := by decide +kernel
theorem dX8_mark_107 : decode cX8_mark 107 = .ok (.iaload, 1) := by decide +kernel
theorem dX8_mark_108 : decode cX8_mark 108 = .ok (.invokestatic 165, 3) := by decide +kernel
theorem dX8_mark_111 : decode cX8_mark 111 = .ok (.iload 4, 2) := by decide +kernel
theorem dX8_mark_113 : decode cX8_mark 113 = .ok (.isub, 1) := by decide +kernel
theorem dX8_mark_114 : decode cX8_mark 114 = .ok (.ireturn, 1) := by decide +kernel
theorem dX8_mark_115 : decode cX8_mark 115 = .ok (.iload_n 3, 1) := by decide +kernel
theorem dX8_mark_116 : decode cX8_mark 116 = .ok (.iconst 4, 1) := by decide +kernel
theorem dX8_mark_117 : decode cX8_mark 117 = .ok (.if_icmp .ge 7, 3) := by decide +kernel
theorem dX8_mark_120 : decode cX8_mark 120 = .ok (.iconst 0, 1) := by decide +kernel
theorem dX8_mark_121 : decode cX8_mark 121 = .ok (.goto 7, 3) := by decide +kernel
theorem dX8_mark_124 : decode cX8_mark 124 = .ok (.bipush 12, 2) := by decide +kernel
theorem dX8_mark_126 : decode cX8_mark 126 = .ok (.iload_n 3, 1) := by decide +kernel
theorem dX8_mark_127 : decode cX8_mark 127 = .ok (.isub, 1) := by decide +kernel
theorem dX8_mark_128 : decode cX8_mark 128 = .ok (.ireturn, 1) := by decide +kernel
theorem dX8_mark_129 : decode cX8_mark 129 = .ok (.iload_n 3, 1) := by decide +kernel
theorem dX8_mark_130 : decode cX8_mark 130 = .ok (.iconst 3, 1) := by decide +kernel
theorem dX8_mark_131 : decode cX8_mark 131 = .ok (.if_icmp .ge 9, 3) := by decide +kernel
theorem dX8_mark_134 : decode cX8_mark 134 = .ok (.iconst 3, 1) := by decide +kernel
theorem dX8_mark_135 : decode cX8_mark 135 = .ok (.iload_n 3, 1) := by decide +kernel
theorem dX8_mark_136 : decode cX8_mark 136 = .ok (.isub, 1) := by decide +kernel
theorem dX8_mark_137 : decode cX8_mark 137 = .ok (.goto 4, 3) := by decide +kernel
theorem dX8_mark_140 : decode cX8_mark 140 = .ok (.iconst 0, 1) := by decide +kernel
theorem dX8_mark_141 : decode cX8_mark 141 = .ok (.ireturn, 1) := by decide +kernel
theorem dX8_mark_142 : decode cX8_mark 142 = .ok (.aload_n 0, 1) := by decide +kernel
theorem dX8_mark_143 : decode cX8_mark 143 = .ok (.iload_n 1, 1) := by decide +kernel
theorem dX8_mark_144 : decode cX8_mark 144 = .ok (.invokevirtual 195, 3) := by decide +kernel
theorem dX8_mark_147 : decode cX8_mark 147 = .ok (.ireturn, 1) := by decide +kernel
theorem dX8_mark_148 : decode cX8_mark 148 = .ok (.iload 4, 2) := by decide +kernel
theorem dX8_mark_150 : decode cX8_mark 150 = .ok (.iconst 2, 1) := by decide +kernel
theorem dX8_mark_151 : decode cX8_mark 151 = .ok (.aload_n 0, 1) := by decide +kernel
theorem dX8_mark_152 : decode cX8_mark 152 = .ok (.getfield 31, 3) := by decide +kernel
theorem dX8_mark_155 : decode cX8_mark 155 = .ok (.iload_n 1, 1) := by decide +kernel
theorem dX8_mark_156 : decode cX8_mark 156 = .ok (.iaload, 1) := by decide +kernel
theorem dX8_mark_157 : decode cX8_mark 157 = .ok (.aload_n 0, 1) := by decide +kernel
theorem dX8_mark_158 : decode cX8_mark 158 = .ok (.getfield 34, 3) := by decide +kernel
theorem dX8_mark_161 : decode cX8_mark 161 = .ok (.iload_n 1, 1) := by decide +kernel
theorem dX8_mark_162 : decode cX8_mark 162 = .ok (.iaload, 1) := by decide +kernel
theorem dX8_mark_163 : decode cX8_mark 163 = .ok (.aload_n 0, 1) := by decide +kernel
theorem dX8_mark_164 : decode cX8_mark 164 = .ok (.getfield 22, 3) := by decide +kernel
theorem dX8_mark_167 : decode cX8_mark 167 = .ok (.iconst 5, 1) := by decide +kernel
theorem dX8_mark_168 : decode cX8_mark 168 = .ok (.iload_n 1, 1) := by decide +kernel
theorem dX8_mark_169 : decode cX8_mark 169 = .ok (.iadd, 1) := by decide +kernel
theorem dX8_mark_170 : decode cX8_mark 170 = .ok (.iaload, 1) := by decide +kernel
theorem dX8_mark_171 : decode cX8_mark 171 = .ok (.iload_n 3, 1) := by decide +kernel
theorem dX8_mark_172 : decode cX8_mark 172 = .ok (.invokestatic 172, 3) := by decide +kernel
theorem dX8_mark_175 : decode cX8_mark 175 = .ok (.isub, 1) := by decide +kernel
theorem dX8_mark_176 : decode cX8_mark 176 = .ok (.ireturn, 1) := by decide +kernel
def P_X8_mark (a0 : Nat) (x1 : Int32) (x2 : Int32) : PM Int32 :=
cllV 8 a0 (P_X8_isOne a0 x1) fun v1 =>
ifB (decide (v1 = 0)) (
pureM ((-1))) (
cll0 (P_X8_in (Int32.toInt64 x2) 1 5) fun v2 =>
ifB (decide (¬ v2 = 0)) (
getR 8 6 a0 fun v3 =>
ald v3 x1 fun v4 =>
cll0 (P_X8_isOf v4 x2) fun v5 =>
ifB (decide (¬ v5 = 0)) (
cllV 8 a0 (P_X8_hourIn a0 0) fun v6 =>
cllV 8 a0 (P_X8_tellsIn a0 0 x1) fun v7 =>
swT x2 1 [
getR 8 7 a0 fun v8 =>
ald v8 x1 fun v9 =>
getR 8 8 a0 fun v10 =>
ald v10 x1 fun v11 =>
getR 8 4 a0 fun v12 =>
ald v12 (5 + x1) fun v13 =>
cll0 (P_X8_talker v9 v11 v13) fun v14 =>
pureM (v14 - v7),
ifB (decide (4 ≤ v6)) (
pureM (12 - v6)) (
pureM 0),
ifB (decide (3 ≤ v6)) (
pureM 0) (
pureM (3 - v6)),
cllV 8 a0 (P_X8_halves a0 x1) fun v15 =>
pureM v15] (
getR 8 7 a0 fun v16 =>
ald v16 x1 fun v17 =>
getR 8 8 a0 fun v18 =>
ald v18 x1 fun v19 =>
getR 8 4 a0 fun v20 =>
ald v20 (5 + x1) fun v21 =>
cll0 (P_X8_tells 2 v17 v19 v21 v6) fun v22 =>
pureM (v7 - v22))) (
cllV 8 a0 (P_X8_refuse a0 3) fun v23 =>
pureM v23)) (
pureM ((-1))))
set_option maxHeartbeats 4000000 in
set_option maxRecDepth 100000 in
theorem W_X8_mark {Γ : Cx} (ok : OKc Γ cX8_mark RX8 6 "mark") (okr : OKr Γ cX8_mark (some .int)) (a0 : Nat) (x1 : Int32) (x2 : Int32) : SW Γ iI 0 [some (.ref a0), some (.int x1), some (.int x2), none, none] [] (P_X8_mark a0 x1 x2) := by
  unfold P_X8_mark
  refine sw_aload_n (z := a0) (pc' := 1) ok dX8_mark_0 rfl rfl ?_
  refine sw_iload_n (z := x1) (pc' := 2) ok dX8_mark_1 rfl rfl ?_
  refine sw_cllV_I (st := []) (as := [.int x1]) (pc' := 5) ok (S_X8_isOne a0 x1) (by decide) lk_X8_186 rfl dX8_mark_2 rfl (Nat.le_of_ble_eq_true rfl) rfl (fun v1 => ?_)
  refine sw_if_eq (tgt := 20) (pc' := 8) ok dX8_mark_5 (by decide) rfl ?_ ?_
  · refine sw_iconst (v := (-1)) (pc' := 21) ok dX8_mark_20 rfl cc_iconst_m1 ?_
    exact sw_ret ok okr dX8_mark_21 trivial rfl
  refine sw_iload_n (z := x2) (pc' := 9) ok dX8_mark_8 rfl rfl ?_
  refine sw_i2l (pc' := 10) ok dX8_mark_9 rfl ?_
  refine sw_lconst (v := 1) (pc' := 11) ok dX8_mark_10 rfl cc_lconst_1 ?_
  refine sw_ldc2 (v := 5) (pc' := 14) ok dX8_mark_11 rfl wd_475 ?_
  refine sw_cll0_I (st := []) (as := [.long (Int32.toInt64 x2), .long 1, .long 5]) (pc' := 17) ok (S_X8_in (Int32.toInt64 x2) 1 5) (by decide) lk_X8_80 rfl dX8_mark_14 rfl (Nat.le_of_ble_eq_true rfl) rfl (fun v2 => ?_)
  refine sw_if_ne (tgt := 22) (pc' := 20) ok dX8_mark_17 (by decide) rfl ?_ ?_
  · refine sw_aload_n (z := a0) (pc' := 23) ok dX8_mark_22 rfl rfl ?_
    refine sw_getR (pc' := 26) ok (fr_X8_28.g) dX8_mark_23 rfl (fun v3 => ?_)
    refine sw_iload_n (z := x1) (pc' := 27) ok dX8_mark_26 rfl rfl ?_
    refine sw_ald (pc' := 28) ok dX8_mark_27 rfl (fun v4 => ?_)
    refine sw_iload_n (z := x2) (pc' := 29) ok dX8_mark_28 rfl rfl ?_
    refine sw_cll0_I (st := []) (as := [.int v4, .int x2]) (pc' := 32) ok (S_X8_isOf v4 x2) (by decide) lk_X8_192 rfl dX8_mark_29 rfl (Nat.le_of_ble_eq_true rfl) rfl (fun v5 => ?_)
    refine sw_if_ne (tgt := 41) (pc' := 35) ok dX8_mark_32 (by decide) rfl ?_ ?_
    · refine sw_aload_n (z := a0) (pc' := 42) ok dX8_mark_41 rfl rfl ?_
      refine sw_iconst (v := 0) (pc' := 43) ok dX8_mark_42 rfl cc_iconst_0 ?_
      refine sw_cllV_I (st := []) (as := [.int 0]) (pc' := 46) ok (S_X8_hourIn a0 0) (by decide) lk_X8_169 rfl dX8_mark_43 rfl (Nat.le_of_ble_eq_true rfl) rfl (fun v6 => ?_)
      refine sw_istore_n (pc' := 47) (l' := [some (.ref a0), some (.int x1), some (.int x2), some (.int v6), none]) ok dX8_mark_46 rfl (Nat.le_of_ble_eq_true rfl) rfl ?_
      refine sw_aload_n (z := a0) (pc' := 48) ok dX8_mark_47 rfl rfl ?_
      refine sw_iconst (v := 0) (pc' := 49) ok dX8_mark_48 rfl cc_iconst_0 ?_
      refine sw_iload_n (z := x1) (pc' := 50) ok dX8_mark_49 rfl rfl ?_
      refine sw_cllV_I (st := []) (as := [.int 0, .int x1]) (pc' := 53) ok (S_X8_tellsIn a0 0 x1) (by decide) lk_X8_176 rfl dX8_mark_50 rfl (Nat.le_of_ble_eq_true rfl) rfl (fun v7 => ?_)
      refine sw_istore (pc' := 55) (l' := [some (.ref a0), some (.int x1), some (.int x2), some (.int v6), some (.int v7)]) ok dX8_mark_53 rfl (Nat.le_of_ble_eq_true rfl) rfl ?_
      refine sw_iload_n (z := x2) (pc' := 56) ok dX8_mark_55 rfl rfl ?_
      refine sw_tsw (tgt := 148) ok dX8_mark_56 (by decide) (by rfl) ⟨⟨88, by decide, ?_⟩, ⟨115, by decide, ?_⟩, ⟨129, by decide, ?_⟩, ⟨142, by decide, ?_⟩, trivial⟩ ?_
      · refine sw_aload_n (z := a0) (pc' := 89) ok dX8_mark_88 rfl rfl ?_
        refine sw_getR (pc' := 92) ok (fr_X8_31.g) dX8_mark_89 rfl (fun v8 => ?_)
        refine sw_iload_n (z := x1) (pc' := 93) ok dX8_mark_92 rfl rfl ?_
        refine sw_ald (pc' := 94) ok dX8_mark_93 rfl (fun v9 => ?_)
        refine sw_aload_n (z := a0) (pc' := 95) ok dX8_mark_94 rfl rfl ?_
        refine sw_getR (pc' := 98) ok (fr_X8_34.g) dX8_mark_95 rfl (fun v10 => ?_)
        refine sw_iload_n (z := x1) (pc' := 99) ok dX8_mark_98 rfl rfl ?_
        refine sw_ald (pc' := 100) ok dX8_mark_99 rfl (fun v11 => ?_)
        refine sw_aload_n (z := a0) (pc' := 101) ok dX8_mark_100 rfl rfl ?_
        refine sw_getR (pc' := 104) ok (fr_X8_22.g) dX8_mark_101 rfl (fun v12 => ?_)
        refine sw_iconst (v := 5) (pc' := 105) ok dX8_mark_104 rfl cc_iconst_5 ?_
        refine sw_iload_n (z := x1) (pc' := 106) ok dX8_mark_105 rfl rfl ?_
        refine sw_iadd (pc' := 107) ok dX8_mark_106 rfl ?_
        refine sw_ald (pc' := 108) ok dX8_mark_107 rfl (fun v13 => ?_)
        refine sw_cll0_I (st := []) (as := [.int v9, .int v11, .int v13]) (pc' := 111) ok (S_X8_talker v9 v11 v13) (by decide) lk_X8_165 rfl dX8_mark_108 rfl (Nat.le_of_ble_eq_true rfl) rfl (fun v14 => ?_)
        refine sw_iload (z := v7) (pc' := 113) ok dX8_mark_111 rfl rfl ?_
        refine sw_isub (pc' := 114) ok dX8_mark_113 rfl ?_
        exact sw_ret ok okr dX8_mark_114 trivial rfl
      · refine sw_iload_n (z := v6) (pc' := 116) ok dX8_mark_115 rfl rfl ?_
        refine sw_iconst (v := 4) (pc' := 117) ok dX8_mark_116 rfl cc_iconst_4 ?_
        refine sw_icmp_ge (tgt := 124) (pc' := 120) ok dX8_mark_117 (by decide) rfl ?_ ?_
        · refine sw_bipush (v := 12) (pc' := 126) ok dX8_mark_124 rfl cc_bipush_12 ?_
          refine sw_iload_n (z := v6) (pc' := 127) ok dX8_mark_126 rfl rfl ?_
          refine sw_isub (pc' := 128) ok dX8_mark_127 rfl ?_
          exact sw_ret ok okr dX8_mark_128 trivial rfl
        refine sw_iconst (v := 0) (pc' := 121) ok dX8_mark_120 rfl cc_iconst_0 ?_
        refine sw_goto (tgt := 128) ok dX8_mark_121 (by decide) ?_
        exact sw_ret ok okr dX8_mark_128 trivial rfl
      · refine sw_iload_n (z := v6) (pc' := 130) ok dX8_mark_129 rfl rfl ?_
        refine sw_iconst (v := 3) (pc' := 131) ok dX8_mark_130 rfl cc_iconst_3 ?_
        refine sw_icmp_ge (tgt := 140) (pc' := 134) ok dX8_mark_131 (by decide) rfl ?_ ?_
        · refine sw_iconst (v := 0) (pc' := 141) ok dX8_mark_140 rfl cc_iconst_0 ?_
          exact sw_ret ok okr dX8_mark_141 trivial rfl
        refine sw_iconst (v := 3) (pc' := 135) ok dX8_mark_134 rfl cc_iconst_3 ?_
        refine sw_iload_n (z := v6) (pc' := 136) ok dX8_mark_135 rfl rfl ?_
        refine sw_isub (pc' := 137) ok dX8_mark_136 rfl ?_
        refine sw_goto (tgt := 141) ok dX8_mark_137 (by decide) ?_
        exact sw_ret ok okr dX8_mark_141 trivial rfl
      · refine sw_aload_n (z := a0) (pc' := 143) ok dX8_mark_142 rfl rfl ?_
        refine sw_iload_n (z := x1) (pc' := 144) ok dX8_mark_143 rfl rfl ?_
        refine sw_cllV_I (st := []) (as := [.int x1]) (pc' := 147) ok (S_X8_halves a0 x1) (by decide) lk_X8_195 rfl dX8_mark_144 rfl (Nat.le_of_ble_eq_true rfl) rfl (fun v15 => ?_)
        exact sw_ret ok okr dX8_mark_147 trivial rfl
      refine sw_iload (z := v7) (pc' := 150) ok dX8_mark_148 rfl rfl ?_
      refine sw_iconst (v := 2) (pc' := 151) ok dX8_mark_150 rfl cc_iconst_2 ?_
      refine sw_aload_n (z := a0) (pc' := 152) ok dX8_mark_151 rfl rfl ?_
      refine sw_getR (pc' := 155) ok (fr_X8_31.g) dX8_mark_152 rfl (fun v16 => ?_)
      refine sw_iload_n (z := x1) (pc' := 156) ok dX8_mark_155 rfl rfl ?_
      refine sw_ald (pc' := 157) ok dX8_mark_156 rfl (fun v17 => ?_)
      refine sw_aload_n (z := a0) (pc' := 158) ok dX8_mark_157 rfl rfl ?_
      refine sw_getR (pc' := 161) ok (fr_X8_34.g) dX8_mark_158 rfl (fun v18 => ?_)
      refine sw_iload_n (z := x1) (pc' := 162) ok dX8_mark_161 rfl rfl ?_
      refine sw_ald (pc' := 163) ok dX8_mark_162 rfl (fun v19 => ?_)
      refine sw_aload_n (z := a0) (pc' := 164) ok dX8_mark_163 rfl rfl ?_
      refine sw_getR (pc' := 167) ok (fr_X8_22.g) dX8_mark_164 rfl (fun v20 => ?_)
      refine sw_iconst (v := 5) (pc' := 168) ok dX8_mark_167 rfl cc_iconst_5 ?_
      refine sw_iload_n (z := x1) (pc' := 169) ok dX8_mark_168 rfl rfl ?_
      refine sw_iadd (pc' := 170) ok dX8_mark_169 rfl ?_
      refine sw_ald (pc' := 171) ok dX8_mark_170 rfl (fun v21 => ?_)
      refine sw_iload_n (z := v6) (pc' := 172) ok dX8_mark_171 rfl rfl ?_
      refine sw_cll0_I (st := [.int v7]) (as := [.int 2, .int v17, .int v19, .int v21, .int v6]) (pc' := 175) ok (S_X8_tells 2 v17 v19 v21 v6) (by decide) lk_X8_172 rfl dX8_mark_172 rfl (Nat.le_of_ble_eq_true rfl) rfl (fun v22 => ?_)
      refine sw_isub (pc' := 176) ok dX8_mark_175 rfl ?_
      exact sw_ret ok okr dX8_mark_176 trivial rfl
    refine sw_aload_n (z := a0) (pc' := 36) ok dX8_mark_35 rfl rfl ?_
    refine sw_iconst (v := 3) (pc' := 37) ok dX8_mark_36 rfl cc_iconst_3 ?_
    refine sw_cllV_I (st := []) (as := [.int 3]) (pc' := 40) ok (S_X8_refuse a0 3) (by decide) lk_X8_90 rfl dX8_mark_37 rfl (Nat.le_of_ble_eq_true rfl) rfl (fun v23 => ?_)
    exact sw_ret ok okr dX8_mark_40 trivial rfl
  refine sw_iconst (v := (-1)) (pc' := 21) ok dX8_mark_20 rfl cc_iconst_m1 ?_
  exact sw_ret ok okr dX8_mark_21 trivial rfl
theorem S_X8_mark (a0 : Nat) (x1 : Int32) (x2 : Int32) : Sim 6 yX8_mark cX8_mark 5 (some .int) iI [.ref a0, .int x1, .int x2] (P_X8_mark a0 x1 x2) := Sim.intro wd_1100 (by decide) (by decide +kernel) (Nat.le_of_ble_eq_true rfl) (fun Γ ok okr => W_X8_mark ok okr a0 x1 x2)
theorem dX8_talk_0 : decode cX8_talk 0 = .ok (.aload_n 0, 1) := by decide +kernel
theorem dX8_talk_1 : decode cX8_talk 1 = .ok (.iload_n 1, 1) := by decide +kernel
theorem dX8_talk_2 : decode cX8_talk 2 = .ok (.iload_n 2, 1) := by decide +kernel
theorem dX8_talk_3 : decode cX8_talk 3 = .ok (.invokevirtual 198, 3) := by decide +kernel
theorem dX8_talk_6 : decode cX8_talk 6 = .ok (.ifCond .eq 13, 3) := by decide +kernel
theorem dX8_talk_9 : decode cX8_talk 9 = .ok (.aload_n 0, 1) := by decide +kernel
theorem dX8_talk_10 : decode cX8_talk 10 = .ok (.iconst 0, 1) := by decide +kernel
theorem dX8_talk_11 : decode cX8_talk 11 = .ok (.iload_n 1, 1) := by decide +kernel
theorem dX8_talk_12 : decode cX8_talk 12 = .ok (.iload_n 2, 1) := by decide +kernel
theorem dX8_talk_13 : decode cX8_talk 13 = .ok (.invokevirtual 201, 3) := by decide +kernel
theorem dX8_talk_16 : decode cX8_talk 16 = .ok (.goto 4, 3) := by decide +kernel
theorem dX8_talk_19 : decode cX8_talk 19 = .ok (.iconst (-1), 1) := by decide +kernel
theorem dX8_talk_20 : decode cX8_talk 20 = .ok (.ireturn, 1) := by decide +kernel
def P_X8_talk (a0 : Nat) (x1 : Int32) (x2 : Int32) : PM Int32 :=
cllV 8 a0 (P_X8_isPair a0 x1 x2) fun v1 =>
ifB (decide (v1 = 0)) (
pureM ((-1))) (
cllV 8 a0 (P_X8_talkIn a0 0 x1 x2) fun v2 =>
pureM v2)
set_option maxHeartbeats 4000000 in
set_option maxRecDepth 100000 in
theorem W_X8_talk {Γ : Cx} (ok : OKc Γ cX8_talk RX8 6 "talk") (okr : OKr Γ cX8_talk (some .int)) (a0 : Nat) (x1 : Int32) (x2 : Int32) : SW Γ iI 0 [some (.ref a0), some (.int x1), some (.int x2)] [] (P_X8_talk a0 x1 x2) := by
  unfold P_X8_talk
  refine sw_aload_n (z := a0) (pc' := 1) ok dX8_talk_0 rfl rfl ?_
  refine sw_iload_n (z := x1) (pc' := 2) ok dX8_talk_1 rfl rfl ?_
  refine sw_iload_n (z := x2) (pc' := 3) ok dX8_talk_2 rfl rfl ?_
  refine sw_cllV_I (st := []) (as := [.int x1, .int x2]) (pc' := 6) ok (S_X8_isPair a0 x1 x2) (by decide) lk_X8_198 rfl dX8_talk_3 rfl (Nat.le_of_ble_eq_true rfl) rfl (fun v1 => ?_)
  refine sw_if_eq (tgt := 19) (pc' := 9) ok dX8_talk_6 (by decide) rfl ?_ ?_
  · refine sw_iconst (v := (-1)) (pc' := 20) ok dX8_talk_19 rfl cc_iconst_m1 ?_
    exact sw_ret ok okr dX8_talk_20 trivial rfl
  refine sw_aload_n (z := a0) (pc' := 10) ok dX8_talk_9 rfl rfl ?_
  refine sw_iconst (v := 0) (pc' := 11) ok dX8_talk_10 rfl cc_iconst_0 ?_
  refine sw_iload_n (z := x1) (pc' := 12) ok dX8_talk_11 rfl rfl ?_
  refine sw_iload_n (z := x2) (pc' := 13) ok dX8_talk_12 rfl rfl ?_
  refine sw_cllV_I (st := []) (as := [.int 0, .int x1, .int x2]) (pc' := 16) ok (S_X8_talkIn a0 0 x1 x2) (by decide) lk_X8_201 rfl dX8_talk_13 rfl (Nat.le_of_ble_eq_true rfl) rfl (fun v2 => ?_)
  refine sw_goto (tgt := 20) ok dX8_talk_16 (by decide) ?_
  exact sw_ret ok okr dX8_talk_20 trivial rfl
theorem S_X8_talk (a0 : Nat) (x1 : Int32) (x2 : Int32) : Sim 6 yX8_talk cX8_talk 3 (some .int) iI [.ref a0, .int x1, .int x2] (P_X8_talk a0 x1 x2) := Sim.intro wd_1101 (by decide) (by decide +kernel) (Nat.le_of_ble_eq_true rfl) (fun Γ ok okr => W_X8_talk ok okr a0 x1 x2)
theorem dX8_take_0 : decode cX8_take 0 = .ok (.iconst 0, 1) := by decide +kernel
theorem dX8_take_1 : decode cX8_take 1 = .ok (.istore 4, 2) := by decide +kernel
theorem dX8_take_3 : decode cX8_take 3 = .ok (.iload 4, 2) := by decide +kernel
theorem dX8_take_5 : decode cX8_take 5 = .ok (.iload_n 3, 1) := by decide +kernel
theorem dX8_take_6 : decode cX8_take 6 = .ok (.if_icmp .ge 27, 3) := by decide +kernel
theorem dX8_take_9 : decode cX8_take 9 = .ok (.aload_n 0, 1) := by decide +kernel
theorem dX8_take_10 : decode cX8_take 10 = .ok (.getfield 22, 3) := by decide +kernel
theorem dX8_take_13 : decode cX8_take 13 = .ok (.iload_n 2, 1) := by decide +kernel
theorem dX8_take_14 : decode cX8_take 14 = .ok (.iload 4, 2) := by decide +kernel
theorem dX8_take_16 : decode cX8_take 16 = .ok (.iadd, 1) := by decide +kernel
theorem dX8_take_17 : decode cX8_take 17 = .ok (.aload_n 0, 1) := by decide +kernel
theorem dX8_take_18 : decode cX8_take 18 = .ok (.getfield 22, 3) := by decide +kernel
theorem dX8_take_21 : decode cX8_take 21 = .ok (.iload_n 1, 1) := by decide +kernel
theorem dX8_take_22 : decode cX8_take 22 = .ok (.iload 4, 2) := by decide +kernel
theorem dX8_take_24 : decode cX8_take 24 = .ok (.iadd, 1) := by decide +kernel
theorem dX8_take_25 : decode cX8_take 25 = .ok (.iaload, 1) := by decide +kernel
theorem dX8_take_26 : decode cX8_take 26 = .ok (.iastore, 1) := by decide +kernel
theorem dX8_take_27 : decode cX8_take 27 = .ok (.iinc 4 1, 3) := by decide +kernel
theorem dX8_take_30 : decode cX8_take 30 = .ok (.goto (-27), 3) := by decide +kernel
theorem dX8_take_33 : decode cX8_take 33 = .ok (.return_, 1) := by decide +kernel
def P_X8_take_3 (p0 : Nat) (p1 : Int32) (p2 : Int32) (p3 : Int32) : Nat → Int32 → PM Unit
  | 0, _ => failM
  | n + 1, q4 =>
    ifB (decide (p3 ≤ q4)) (
    pureM ()) (
    getR 8 4 p0 fun v1 =>
    getR 8 4 p0 fun v2 =>
    ald v2 (p1 + q4) fun v3 =>
    ast v1 (p2 + q4) v3 <|
    P_X8_take_3 p0 p1 p2 p3 n (q4 + 1))
def P_X8_take (a0 : Nat) (x1 : Int32) (x2 : Int32) (x3 : Int32) : PM Unit :=
P_X8_take_3 a0 x1 x2 x3 4000 0
set_option maxHeartbeats 4000000 in
set_option maxRecDepth 100000 in
theorem W_X8_take_3 {Γ : Cx} (ok : OKc Γ cX8_take RX8 0 "take") (okr : OKr Γ cX8_take (none)) (p0 : Nat) (p1 : Int32) (p2 : Int32) (p3 : Int32) : ∀ (n : Nat) (q4 : Int32), SW Γ iU 3 [some (.ref p0), some (.int p1), some (.int p2), some (.int p3), some (.int q4)] [] (P_X8_take_3 p0 p1 p2 p3 n q4) := by
  intro n
  induction n with
  | zero =>
    intros
    exact sw_fail
  | succ n ih =>
    intro q4
    unfold P_X8_take_3
    refine sw_iload (z := q4) (pc' := 5) ok dX8_take_3 rfl rfl ?_
    refine sw_iload_n (z := p3) (pc' := 6) ok dX8_take_5 rfl rfl ?_
    refine sw_icmp_ge (tgt := 33) (pc' := 9) ok dX8_take_6 (by decide) rfl ?_ ?_
    · exact sw_ret ok okr dX8_take_33 trivial rfl
    refine sw_aload_n (z := p0) (pc' := 10) ok dX8_take_9 rfl rfl ?_
    refine sw_getR (pc' := 13) ok (fr_X8_22.g) dX8_take_10 rfl (fun v1 => ?_)
    refine sw_iload_n (z := p2) (pc' := 14) ok dX8_take_13 rfl rfl ?_
    refine sw_iload (z := q4) (pc' := 16) ok dX8_take_14 rfl rfl ?_
    refine sw_iadd (pc' := 17) ok dX8_take_16 rfl ?_
    refine sw_aload_n (z := p0) (pc' := 18) ok dX8_take_17 rfl rfl ?_
    refine sw_getR (pc' := 21) ok (fr_X8_22.g) dX8_take_18 rfl (fun v2 => ?_)
    refine sw_iload_n (z := p1) (pc' := 22) ok dX8_take_21 rfl rfl ?_
    refine sw_iload (z := q4) (pc' := 24) ok dX8_take_22 rfl rfl ?_
    refine sw_iadd (pc' := 25) ok dX8_take_24 rfl ?_
    refine sw_ald (pc' := 26) ok dX8_take_25 rfl (fun v3 => ?_)
    refine sw_ast (pc' := 27) ok dX8_take_26 rfl ?_
    refine sw_iinc (z := q4) (v := q4 + 1) (pc' := 30) (l' := [some (.ref p0), some (.int p1), some (.int p2), some (.int p3), some (.int (q4 + 1))]) ok dX8_take_27 rfl rfl (by rw [cc_iconst_1]) rfl ?_
    refine sw_goto (tgt := 3) ok dX8_take_30 (by decide) ?_
    exact ih (q4 + 1)
set_option maxHeartbeats 4000000 in
set_option maxRecDepth 100000 in
theorem W_X8_take {Γ : Cx} (ok : OKc Γ cX8_take RX8 0 "take") (okr : OKr Γ cX8_take (none)) (a0 : Nat) (x1 : Int32) (x2 : Int32) (x3 : Int32) : SW Γ iU 0 [some (.ref a0), some (.int x1), some (.int x2), some (.int x3), none] [] (P_X8_take a0 x1 x2 x3) := by
  unfold P_X8_take
  refine sw_iconst (v := 0) (pc' := 1) ok dX8_take_0 rfl cc_iconst_0 ?_
  refine sw_istore (pc' := 3) (l' := [some (.ref a0), some (.int x1), some (.int x2), some (.int x3), some (.int 0)]) ok dX8_take_1 rfl (Nat.le_of_ble_eq_true rfl) rfl ?_
  exact W_X8_take_3 ok okr a0 x1 x2 x3 4000 0
theorem S_X8_take (a0 : Nat) (x1 : Int32) (x2 : Int32) (x3 : Int32) : Sim 0 yX8_take cX8_take 5 (none) iU [.ref a0, .int x1, .int x2, .int x3] (P_X8_take a0 x1 x2 x3) := Sim.intro wd_1102 (by decide) (by decide +kernel) (Nat.le_of_ble_eq_true rfl) (fun Γ ok okr => W_X8_take ok okr a0 x1 x2 x3)
theorem dX8_remember_0 : decode cX8_remember 0 = .ok (.aload_n 0, 1) := by decide +kernel
theorem dX8_remember_1 : decode cX8_remember 1 = .ok (.iconst 0, 1) := by decide +kernel
theorem dX8_remember_2 : decode cX8_remember 2 = .ok (.bipush 22, 2) := by decide +kernel
theorem dX8_remember_4 : decode cX8_remember 4 = .ok (.bipush 11, 2) := by decide +kernel
theorem dX8_remember_6 : decode cX8_remember 6 = .ok (.aload_n 0, 1) := by decide +kernel
theorem dX8_remember_7 : decode cX8_remember 7 = .ok (.getfield 159, 3) := by decide +kernel
theorem dX8_remember_10 : decode cX8_remember 10 = .ok (.imul, 1) := by decide +kernel
theorem dX8_remember_11 : decode cX8_remember 11 = .ok (.iadd, 1) := by decide +kernel
theorem dX8_remember_12 : decode cX8_remember 12 = .ok (.bipush 11, 2) := by decide +kernel
theorem dX8_remember_14 : decode cX8_remember 14 = .ok (.invokevirtual 204, 3) := by decide +kernel
theorem dX8_remember_17 : decode cX8_remember 17 = .ok (.aload_n 0, 1) := by decide +kernel
theorem dX8_remember_18 : decode cX8_remember 18 = .ok (.dup, 1) := by decide +kernel
theorem dX8_remember_19 : decode cX8_remember 19 = .ok (.getfield 159, 3) := by decide +kernel
theorem dX8_remember_22 : decode cX8_remember 22 = .ok (.iconst 1, 1) := by decide +kernel
theorem dX8_remember_23 : decode cX8_remember 23 = .ok (.iadd, 1) := by decide +kernel
theorem dX8_remember_24 : decode cX8_remember 24 = .ok (.putfield 159, 3) := by decide +kernel
theorem dX8_remember_27 : decode cX8_remember 27 = .ok (.return_, 1) := by decide +kernel
def P_X8_remember (a0 : Nat) : PM Unit :=
getI 8 11 a0 fun v1 =>
cllV 8 a0 (P_X8_take a0 0 (22 + (11 * v1)) 11) fun _ =>
getI 8 11 a0 fun v2 =>
setI 8 11 a0 (v2 + 1) <|
pureM ()
set_option maxHeartbeats 4000000 in
set_option maxRecDepth 100000 in
theorem W_X8_remember {Γ : Cx} (ok : OKc Γ cX8_remember RX8 1 "remember") (okr : OKr Γ cX8_remember (none)) (a0 : Nat) : SW Γ iU 0 [some (.ref a0)] [] (P_X8_remember a0) := by
  unfold P_X8_remember
  refine sw_aload_n (z := a0) (pc' := 1) ok dX8_remember_0 rfl rfl ?_
  refine sw_iconst (v := 0) (pc' := 2) ok dX8_remember_1 rfl cc_iconst_0 ?_
  refine sw_bipush (v := 22) (pc' := 4) ok dX8_remember_2 rfl cc_bipush_22 ?_
  refine sw_bipush (v := 11) (pc' := 6) ok dX8_remember_4 rfl cc_bipush_11 ?_
  refine sw_aload_n (z := a0) (pc' := 7) ok dX8_remember_6 rfl rfl ?_
  refine sw_getI (pc' := 10) ok (fr_X8_159.g) dX8_remember_7 rfl (fun v1 => ?_)
  refine sw_imul (pc' := 11) ok dX8_remember_10 rfl ?_
  refine sw_iadd (pc' := 12) ok dX8_remember_11 rfl ?_
  refine sw_bipush (v := 11) (pc' := 14) ok dX8_remember_12 rfl cc_bipush_11 ?_
  refine sw_cllV_U (st := []) (as := [.int 0, .int (22 + (11 * v1)), .int 11]) (pc' := 17) ok (S_X8_take a0 0 (22 + (11 * v1)) 11) (by decide) lk_X8_204 rfl dX8_remember_14 rfl (Nat.le_of_ble_eq_true rfl) rfl (fun _ => ?_)
  refine sw_aload_n (z := a0) (pc' := 18) ok dX8_remember_17 rfl rfl ?_
  refine sw_dup (pc' := 19) ok dX8_remember_18 rfl rfl ?_
  refine sw_getI (pc' := 22) ok (fr_X8_159.g) dX8_remember_19 rfl (fun v2 => ?_)
  refine sw_iconst (v := 1) (pc' := 23) ok dX8_remember_22 rfl cc_iconst_1 ?_
  refine sw_iadd (pc' := 24) ok dX8_remember_23 rfl ?_
  refine sw_setI (pc' := 27) ok fr_X8_159 dX8_remember_24 (fun h => by cases h) rfl ?_
  exact sw_ret ok okr dX8_remember_27 trivial rfl
theorem S_X8_remember (a0 : Nat) : Sim 1 yX8_remember cX8_remember 1 (none) iU [.ref a0] (P_X8_remember a0) := Sim.intro wd_1103 (by decide) (by decide +kernel) (Nat.le_of_ble_eq_true rfl) (fun Γ ok okr => W_X8_remember ok okr a0)
theorem dX8_watchIn_0 : decode cX8_watchIn 0 = .ok (.aload_n 0, 1) := by decide +kernel
theorem dX8_watchIn_1 : decode cX8_watchIn 1 = .ok (.getfield 22, 3) := by decide +kernel
theorem dX8_watchIn_4 : decode cX8_watchIn 4 = .ok (.iload_n 1, 1) := by decide +kernel
theorem dX8_watchIn_5 : decode cX8_watchIn 5 = .ok (.bipush 60, 2) := by decide +kernel
theorem dX8_watchIn_7 : decode cX8_watchIn 7 = .ok (.aload_n 0, 1) := by decide +kernel
theorem dX8_watchIn_8 : decode cX8_watchIn 8 = .ok (.getfield 22, 3) := by decide +kernel
theorem dX8_watchIn_11 : decode cX8_watchIn 11 = .ok (.iload_n 1, 1) := by decide +kernel
theorem dX8_watchIn_12 : decode cX8_watchIn 12 = .ok (.iaload, 1) := by decide +kernel
theorem dX8_watchIn_13 : decode cX8_watchIn 13 = .ok (.iconst 2, 1) := by decide +kernel
theorem dX8_watchIn_14 : decode cX8_watchIn 14 = .ok (.idiv, 1) := by decide +kernel
theorem dX8_watchIn_15 : decode cX8_watchIn 15 = .ok (.aload_n 0, 1) := by decide +kernel
theorem dX8_watchIn_16 : decode cX8_watchIn 16 = .ok (.iload_n 1, 1) := by decide +kernel
theorem dX8_watchIn_17 : decode cX8_watchIn 17 = .ok (.iload_n 2, 1) := by decide +kernel
theorem dX8_watchIn_18 : decode cX8_watchIn 18 = .ok (.iload_n 3, 1) := by decide +kernel
theorem dX8_watchIn_19 : decode cX8_watchIn 19 = .ok (.invokevirtual 201, 3) := by decide +kernel
theorem dX8_watchIn_22 : decode cX8_watchIn 22 = .ok (.iadd, 1) := by decide +kernel
theorem dX8_watchIn_23 : decode cX8_watchIn 23 = .ok (.invokestatic 208, 3) := by decide +kernel
theorem dX8_watchIn_26 : decode cX8_watchIn 26 = .ok (.iastore, 1) := by decide +kernel
theorem dX8_watchIn_27 : decode cX8_watchIn 27 = .ok (.iconst 0, 1) := by decide +kernel
theorem dX8_watchIn_28 : decode cX8_watchIn 28 = .ok (.istore 4, 2) := by decide +kernel
theorem dX8_watchIn_30 : decode cX8_watchIn 30 = .ok (.iload 4, 2) := by decide +kernel
theorem dX8_watchIn_32 : decode cX8_watchIn 32 = .ok (.aload_n 0, 1) := by decide +kernel
theorem dX8_watchIn_33 : decode cX8_watchIn 33 = .ok (.getfield 156, 3) := by decide +kernel
theorem dX8_watchIn_36 : decode cX8_watchIn 36 = .ok (.if_icmp .ge 65, 3) := by decide +kernel
theorem dX8_watchIn_39 : decode cX8_watchIn 39 = .ok (.aload_n 0, 1) := by decide +kernel
theorem dX8_watchIn_40 : decode cX8_watchIn 40 = .ok (.getfield 22, 3) := by decide +kernel
theorem dX8_watchIn_43 : decode cX8_watchIn 43 = .ok (.iload_n 1, 1) := by decide +kernel
theorem dX8_watchIn_44 : decode cX8_watchIn 44 = .ok (.iconst 5, 1) := by decide +kernel
theorem dX8_watchIn_45 : decode cX8_watchIn 45 = .ok (.iadd, 1) := by decide +kernel
theorem dX8_watchIn_46 : decode cX8_watchIn 46 = .ok (.iload 4, 2) := by decide +kernel
theorem dX8_watchIn_48 : decode cX8_watchIn 48 = .ok (.iadd, 1) := by decide +kernel
theorem dX8_watchIn_49 : decode cX8_watchIn 49 = .ok (.iaload, 1) := by decide +kernel
theorem dX8_watchIn_50 : decode cX8_watchIn 50 = .ok (.istore 5, 2) := by decide +kernel
theorem dX8_watchIn_52 : decode cX8_watchIn 52 = .ok (.aload_n 0, 1) := by decide +kernel
theorem dX8_watchIn_53 : decode cX8_watchIn 53 = .ok (.getfield 22, 3) := by decide +kernel
theorem dX8_watchIn_56 : decode cX8_watchIn 56 = .ok (.iload_n 1, 1) := by decide +kernel
theorem dX8_watchIn_57 : decode cX8_watchIn 57 = .ok (.iconst 5, 1) := by decide +kernel
theorem dX8_watchIn_58 : decode cX8_watchIn 58 = .ok (.iadd, 1) := by decide +kernel
theorem dX8_watchIn_59 : decode cX8_watchIn 59 = .ok (.iload 4, 2) := by decide +kernel
theorem dX8_watchIn_61 : decode cX8_watchIn 61 = .ok (.iadd, 1) := by decide +kernel
theorem dX8_watchIn_62 : decode cX8_watchIn 62 = .ok (.iload 4, 2) := by decide +kernel
theorem dX8_watchIn_64 : decode cX8_watchIn 64 = .ok (.iload_n 2, 1) := by decide +kernel
theorem dX8_watchIn_65 : decode cX8_watchIn 65 = .ok (.if_icmp .eq 9, 3) := by decide +kernel
theorem dX8_watchIn_68 : decode cX8_watchIn 68 = .ok (.iload 4, 2) := by decide +kernel
theorem dX8_watchIn_70 : decode cX8_watchIn 70 = .ok (.iload_n 3, 1) := by decide +kernel
theorem dX8_watchIn_71 : decode cX8_watchIn 71 = .ok (.if_icmp .ne 15, 3) := by decide +kernel
theorem dX8_watchIn_74 : decode cX8_watchIn 74 = .ok (.bipush 30, 2) := by decide +kernel
theorem dX8_watchIn_76 : decode cX8_watchIn 76 = .ok (.iload 5, 2) := by decide +kernel
theorem dX8_watchIn_78 : decode cX8_watchIn 78 = .ok (.iconst 1, 1) := by decide +kernel
theorem dX8_watchIn_79 : decode cX8_watchIn 79 = .ok (.iadd, 1) := by decide +kernel
theorem dX8_watchIn_80 : decode cX8_watchIn 80 = .ok (.invokestatic 208, 3) := by decide +kernel
theorem dX8_watchIn_83 : decode cX8_watchIn 83 = .ok (.goto 11, 3) := by decide +kernel
theorem dX8_watchIn_86 : decode cX8_watchIn 86 = .ok (.iconst 0, 1) := by decide +kernel
theorem dX8_watchIn_87 : decode cX8_watchIn 87 = .ok (.iload 5, 2) := by decide +kernel
theorem dX8_watchIn_89 : decode cX8_watchIn 89 = .ok (.iconst 2, 1) := by decide +kernel
theorem dX8_watchIn_90 : decode cX8_watchIn 90 = .ok (.isub, 1) := by decide +kernel
theorem dX8_watchIn_91 : decode cX8_watchIn 91 = .ok (.invokestatic 162, 3) := by decide +kernel
theorem dX8_watchIn_94 : decode cX8_watchIn 94 = .ok (.iastore, 1) := by decide +kernel
theorem dX8_watchIn_95 : decode cX8_watchIn 95 = .ok (.iinc 4 1, 3) := by decide +kernel
theorem dX8_watchIn_98 : decode cX8_watchIn 98 = .ok (.goto (-68), 3) := by decide +kernel
theorem dX8_watchIn_101 : decode cX8_watchIn 101 = .ok (.aload_n 0, 1) := by decide +kernel
theorem dX8_watchIn_102 : decode cX8_watchIn 102 = .ok (.getfield 22, 3) := by decide +kernel
theorem dX8_watchIn_105 : decode cX8_watchIn 105 = .ok (.iload_n 1, 1) := by decide +kernel
theorem dX8_watchIn_106 : decode cX8_watchIn 106 = .ok (.iconst 2, 1) := by decide +kernel
theorem dX8_watchIn_107 : decode cX8_watchIn 107 = .ok (.iadd, 1) := by decide +kernel
theorem dX8_watchIn_108 : decode cX8_watchIn 108 = .ok (.dup2, 1) := by decide +kernel
theorem dX8_watchIn_109 : decode cX8_watchIn 109 = .ok (.iaload, 1) := by decide +kernel
theorem dX8_watchIn_110 : decode cX8_watchIn 110 = .ok (.iconst 1, 1) := by decide +kernel
theorem dX8_watchIn_111 : decode cX8_watchIn 111 = .ok (.iadd, 1) := by decide +kernel
theorem dX8_watchIn_112 : decode cX8_watchIn 112 = .ok (.iastore, 1) := by decide +kernel
theorem dX8_watchIn_113 : decode cX8_watchIn 113 = .ok (.return_, 1) := by decide +kernel
def P_X8_watchIn_30 (k_101 : PM Unit) (p0 : Nat) (p1 : Int32) (p2 : Int32) (p3 : Int32) : Nat → Int32 → PM Unit
  | 0, _ => failM
  | n + 1, q4 =>
    getI 8 10 p0 fun v10 =>
    ifB (decide (v10 ≤ q4)) (
    k_101) (
    getR 8 4 p0 fun v11 =>
    ald v11 ((p1 + 5) + q4) fun v12 =>
    getR 8 4 p0 fun v13 =>
    jn (fun (j14 : Nat) (j15 : Int32) (j16 : Int32) =>
    ast j14 j15 j16 <|
    P_X8_watchIn_30 k_101 p0 p1 p2 p3 n (q4 + 1)) fun k17 =>
    jn (fun (j18 : Nat) (j19 : Int32) =>
    cll0 (P_X8_least 30 (v12 + 1)) fun v20 =>
    k17 j18 j19 v20) fun k21 =>
    ifB (decide (q4 = p2)) (
    k21 v13 ((p1 + 5) + q4)) (
    ifB (decide (¬ q4 = p3)) (
    cll0 (P_X8_most 0 (v12 - 2)) fun v22 =>
    k17 v13 ((p1 + 5) + q4) v22) (
    k21 v13 ((p1 + 5) + q4))))
def P_X8_watchIn (a0 : Nat) (x1 : Int32) (x2 : Int32) (x3 : Int32) : PM Unit :=
getR 8 4 a0 fun v1 =>
getR 8 4 a0 fun v2 =>
ald v2 x1 fun v3 =>
divI v3 2 fun v4 =>
cllV 8 a0 (P_X8_talkIn a0 x1 x2 x3) fun v5 =>
cll0 (P_X8_least 60 (v4 + v5)) fun v6 =>
ast v1 x1 v6 <|
jn (
getR 8 4 a0 fun v7 =>
ald v7 (x1 + 2) fun v8 =>
ast v7 (x1 + 2) (v8 + 1) <|
pureM ()) fun k9 =>
P_X8_watchIn_30 k9 a0 x1 x2 x3 4000 0
set_option maxHeartbeats 4000000 in
set_option maxRecDepth 100000 in
theorem W_X8_watchIn_30 {Γ : Cx} (ok : OKc Γ cX8_watchIn RX8 6 "watchIn") (okr : OKr Γ cX8_watchIn (none)) (k_101 : PM Unit) (p0 : Nat) (p1 : Int32) (p2 : Int32) (p3 : Int32) (hk_101 : SW Γ iU 101 [some (.ref p0), some (.int p1), none, none, none, none] [] (k_101)) : ∀ (n : Nat) (q4 : Int32), SW Γ iU 30 [some (.ref p0), some (.int p1), some (.int p2), some (.int p3), some (.int q4), none] [] (P_X8_watchIn_30 k_101 p0 p1 p2 p3 n q4) := by
  intro n
  induction n with
  | zero =>
    intros
    exact sw_fail
  | succ n ih =>
    intro q4
    unfold P_X8_watchIn_30
    refine sw_iload (z := q4) (pc' := 32) ok dX8_watchIn_30 rfl rfl ?_
    refine sw_aload_n (z := p0) (pc' := 33) ok dX8_watchIn_32 rfl rfl ?_
    refine sw_getI (pc' := 36) ok (fr_X8_156.g) dX8_watchIn_33 rfl (fun v10 => ?_)
    refine sw_icmp_ge (tgt := 101) (pc' := 39) ok dX8_watchIn_36 (by decide) rfl ?_ ?_
    · refine sw_fg (l' := [some (.ref p0), some (.int p1), none, none, none, none]) [true, true, false, false, false, false] rfl ?_
      exact hk_101
    refine sw_aload_n (z := p0) (pc' := 40) ok dX8_watchIn_39 rfl rfl ?_
    refine sw_getR (pc' := 43) ok (fr_X8_22.g) dX8_watchIn_40 rfl (fun v11 => ?_)
    refine sw_iload_n (z := p1) (pc' := 44) ok dX8_watchIn_43 rfl rfl ?_
    refine sw_iconst (v := 5) (pc' := 45) ok dX8_watchIn_44 rfl cc_iconst_5 ?_
    refine sw_iadd (pc' := 46) ok dX8_watchIn_45 rfl ?_
    refine sw_iload (z := q4) (pc' := 48) ok dX8_watchIn_46 rfl rfl ?_
    refine sw_iadd (pc' := 49) ok dX8_watchIn_48 rfl ?_
    refine sw_ald (pc' := 50) ok dX8_watchIn_49 rfl (fun v12 => ?_)
    refine sw_istore (pc' := 52) (l' := [some (.ref p0), some (.int p1), some (.int p2), some (.int p3), some (.int q4), some (.int v12)]) ok dX8_watchIn_50 rfl (Nat.le_of_ble_eq_true rfl) rfl ?_
    refine sw_aload_n (z := p0) (pc' := 53) ok dX8_watchIn_52 rfl rfl ?_
    refine sw_getR (pc' := 56) ok (fr_X8_22.g) dX8_watchIn_53 rfl (fun v13 => ?_)
    refine sw_iload_n (z := p1) (pc' := 57) ok dX8_watchIn_56 rfl rfl ?_
    refine sw_iconst (v := 5) (pc' := 58) ok dX8_watchIn_57 rfl cc_iconst_5 ?_
    refine sw_iadd (pc' := 59) ok dX8_watchIn_58 rfl ?_
    refine sw_iload (z := q4) (pc' := 61) ok dX8_watchIn_59 rfl rfl ?_
    refine sw_iadd (pc' := 62) ok dX8_watchIn_61 rfl ?_
    refine sw_iload (z := q4) (pc' := 64) ok dX8_watchIn_62 rfl rfl ?_
    refine sw_iload_n (z := p2) (pc' := 65) ok dX8_watchIn_64 rfl rfl ?_
    refine sw_jn (fun k17 : Nat → Int32 → Int32 → PM Unit => ∀ (j14 : Nat) (j15 : Int32) (j16 : Int32), SW Γ iU 94 [some (.ref p0), some (.int p1), some (.int p2), some (.int p3), some (.int q4), none] [.int j16, .int j15, .ref j14] (k17 j14 j15 j16)) ?_ (fun k17 hk17 => ?_)
    · intro j14 j15 j16
      refine sw_ast (pc' := 95) ok dX8_watchIn_94 rfl ?_
      refine sw_iinc (z := q4) (v := q4 + 1) (pc' := 98) (l' := [some (.ref p0), some (.int p1), some (.int p2), some (.int p3), some (.int (q4 + 1)), none]) ok dX8_watchIn_95 rfl rfl (by rw [cc_iconst_1]) rfl ?_
      refine sw_goto (tgt := 30) ok dX8_watchIn_98 (by decide) ?_
      exact ih (q4 + 1)
    refine sw_jn (fun k21 : Nat → Int32 → PM Unit => ∀ (j18 : Nat) (j19 : Int32), SW Γ iU 74 [some (.ref p0), some (.int p1), some (.int p2), some (.int p3), some (.int q4), some (.int v12)] [.int j19, .ref j18] (k21 j18 j19)) ?_ (fun k21 hk21 => ?_)
    · intro j18 j19
      refine sw_bipush (v := 30) (pc' := 76) ok dX8_watchIn_74 rfl cc_bipush_30 ?_
      refine sw_iload (z := v12) (pc' := 78) ok dX8_watchIn_76 rfl rfl ?_
      refine sw_iconst (v := 1) (pc' := 79) ok dX8_watchIn_78 rfl cc_iconst_1 ?_
      refine sw_iadd (pc' := 80) ok dX8_watchIn_79 rfl ?_
      refine sw_cll0_I (st := [.int j19, .ref j18]) (as := [.int 30, .int (v12 + 1)]) (pc' := 83) ok (S_X8_least 30 (v12 + 1)) (by decide) lk_X8_208 rfl dX8_watchIn_80 rfl (Nat.le_of_ble_eq_true rfl) rfl (fun v20 => ?_)
      refine sw_goto (tgt := 94) ok dX8_watchIn_83 (by decide) ?_
      refine sw_fg (l' := [some (.ref p0), some (.int p1), some (.int p2), some (.int p3), some (.int q4), none]) [true, true, true, true, true, false] rfl ?_
      exact hk17 j18 j19 v20
    refine sw_icmp_eq (tgt := 74) (pc' := 68) ok dX8_watchIn_65 (by decide) rfl ?_ ?_
    · exact hk21 v13 ((p1 + 5) + q4)
    refine sw_iload (z := q4) (pc' := 70) ok dX8_watchIn_68 rfl rfl ?_
    refine sw_iload_n (z := p3) (pc' := 71) ok dX8_watchIn_70 rfl rfl ?_
    refine sw_icmp_ne (tgt := 86) (pc' := 74) ok dX8_watchIn_71 (by decide) rfl ?_ ?_
    · refine sw_iconst (v := 0) (pc' := 87) ok dX8_watchIn_86 rfl cc_iconst_0 ?_
      refine sw_iload (z := v12) (pc' := 89) ok dX8_watchIn_87 rfl rfl ?_
      refine sw_iconst (v := 2) (pc' := 90) ok dX8_watchIn_89 rfl cc_iconst_2 ?_
      refine sw_isub (pc' := 91) ok dX8_watchIn_90 rfl ?_
      refine sw_cll0_I (st := [.int ((p1 + 5) + q4), .ref v13]) (as := [.int 0, .int (v12 - 2)]) (pc' := 94) ok (S_X8_most 0 (v12 - 2)) (by decide) lk_X8_162 rfl dX8_watchIn_91 rfl (Nat.le_of_ble_eq_true rfl) rfl (fun v22 => ?_)
      refine sw_fg (l' := [some (.ref p0), some (.int p1), some (.int p2), some (.int p3), some (.int q4), none]) [true, true, true, true, true, false] rfl ?_
      exact hk17 v13 ((p1 + 5) + q4) v22
    exact hk21 v13 ((p1 + 5) + q4)
set_option maxHeartbeats 4000000 in
set_option maxRecDepth 100000 in
theorem W_X8_watchIn {Γ : Cx} (ok : OKc Γ cX8_watchIn RX8 6 "watchIn") (okr : OKr Γ cX8_watchIn (none)) (a0 : Nat) (x1 : Int32) (x2 : Int32) (x3 : Int32) : SW Γ iU 0 [some (.ref a0), some (.int x1), some (.int x2), some (.int x3), none, none] [] (P_X8_watchIn a0 x1 x2 x3) := by
  unfold P_X8_watchIn
  refine sw_aload_n (z := a0) (pc' := 1) ok dX8_watchIn_0 rfl rfl ?_
  refine sw_getR (pc' := 4) ok (fr_X8_22.g) dX8_watchIn_1 rfl (fun v1 => ?_)
  refine sw_iload_n (z := x1) (pc' := 5) ok dX8_watchIn_4 rfl rfl ?_
  refine sw_bipush (v := 60) (pc' := 7) ok dX8_watchIn_5 rfl cc_bipush_60 ?_
  refine sw_aload_n (z := a0) (pc' := 8) ok dX8_watchIn_7 rfl rfl ?_
  refine sw_getR (pc' := 11) ok (fr_X8_22.g) dX8_watchIn_8 rfl (fun v2 => ?_)
  refine sw_iload_n (z := x1) (pc' := 12) ok dX8_watchIn_11 rfl rfl ?_
  refine sw_ald (pc' := 13) ok dX8_watchIn_12 rfl (fun v3 => ?_)
  refine sw_iconst (v := 2) (pc' := 14) ok dX8_watchIn_13 rfl cc_iconst_2 ?_
  refine sw_divI (pc' := 15) ok dX8_watchIn_14 rfl (fun v4 => ?_)
  refine sw_aload_n (z := a0) (pc' := 16) ok dX8_watchIn_15 rfl rfl ?_
  refine sw_iload_n (z := x1) (pc' := 17) ok dX8_watchIn_16 rfl rfl ?_
  refine sw_iload_n (z := x2) (pc' := 18) ok dX8_watchIn_17 rfl rfl ?_
  refine sw_iload_n (z := x3) (pc' := 19) ok dX8_watchIn_18 rfl rfl ?_
  refine sw_cllV_I (st := [.int v4, .int 60, .int x1, .ref v1]) (as := [.int x1, .int x2, .int x3]) (pc' := 22) ok (S_X8_talkIn a0 x1 x2 x3) (by decide) lk_X8_201 rfl dX8_watchIn_19 rfl (Nat.le_of_ble_eq_true rfl) rfl (fun v5 => ?_)
  refine sw_iadd (pc' := 23) ok dX8_watchIn_22 rfl ?_
  refine sw_cll0_I (st := [.int x1, .ref v1]) (as := [.int 60, .int (v4 + v5)]) (pc' := 26) ok (S_X8_least 60 (v4 + v5)) (by decide) lk_X8_208 rfl dX8_watchIn_23 rfl (Nat.le_of_ble_eq_true rfl) rfl (fun v6 => ?_)
  refine sw_ast (pc' := 27) ok dX8_watchIn_26 rfl ?_
  refine sw_iconst (v := 0) (pc' := 28) ok dX8_watchIn_27 rfl cc_iconst_0 ?_
  refine sw_istore (pc' := 30) (l' := [some (.ref a0), some (.int x1), some (.int x2), some (.int x3), some (.int 0), none]) ok dX8_watchIn_28 rfl (Nat.le_of_ble_eq_true rfl) rfl ?_
  refine sw_jn (fun k9 : PM Unit => SW Γ iU 101 [some (.ref a0), some (.int x1), none, none, none, none] [] (k9)) ?_ (fun k9 hk9 => ?_)
  · refine sw_aload_n (z := a0) (pc' := 102) ok dX8_watchIn_101 rfl rfl ?_
    refine sw_getR (pc' := 105) ok (fr_X8_22.g) dX8_watchIn_102 rfl (fun v7 => ?_)
    refine sw_iload_n (z := x1) (pc' := 106) ok dX8_watchIn_105 rfl rfl ?_
    refine sw_iconst (v := 2) (pc' := 107) ok dX8_watchIn_106 rfl cc_iconst_2 ?_
    refine sw_iadd (pc' := 108) ok dX8_watchIn_107 rfl ?_
    refine sw_dup2 (pc' := 109) ok dX8_watchIn_108 rfl rfl rfl ?_
    refine sw_ald (pc' := 110) ok dX8_watchIn_109 rfl (fun v8 => ?_)
    refine sw_iconst (v := 1) (pc' := 111) ok dX8_watchIn_110 rfl cc_iconst_1 ?_
    refine sw_iadd (pc' := 112) ok dX8_watchIn_111 rfl ?_
    refine sw_ast (pc' := 113) ok dX8_watchIn_112 rfl ?_
    exact sw_ret ok okr dX8_watchIn_113 trivial rfl
  exact W_X8_watchIn_30 ok okr k9 a0 x1 x2 x3 hk9 4000 0
theorem S_X8_watchIn (a0 : Nat) (x1 : Int32) (x2 : Int32) (x3 : Int32) : Sim 6 yX8_watchIn cX8_watchIn 6 (none) iU [.ref a0, .int x1, .int x2, .int x3] (P_X8_watchIn a0 x1 x2 x3) := Sim.intro wd_1104 (by decide) (by decide +kernel) (Nat.le_of_ble_eq_true rfl) (fun Γ ok okr => W_X8_watchIn ok okr a0 x1 x2 x3)
theorem dX8_watch_0 : decode cX8_watch 0 = .ok (.aload_n 0, 1) := by decide +kernel
theorem dX8_watch_1 : decode cX8_watch 1 = .ok (.iload_n 1, 1) := by decide +kernel
theorem dX8_watch_2 : decode cX8_watch 2 = .ok (.iload_n 2, 1) := by decide +kernel
theorem dX8_watch_3 : decode cX8_watch 3 = .ok (.invokevirtual 198, 3) := by decide +kernel
theorem dX8_watch_6 : decode cX8_watch 6 = .ok (.ifCond .ne 5, 3) := by decide +kernel
theorem dX8_watch_9 : decode cX8_watch 9 = .ok (.iconst (-1), 1) := by decide +kernel
theorem dX8_watch_10 : decode cX8_watch 10 = .ok (.ireturn, 1) := by decide +kernel
theorem dX8_watch_11 : decode cX8_watch 11 = .ok (.aload_n 0, 1) := by decide +kernel
theorem dX8_watch_12 : decode cX8_watch 12 = .ok (.getfield 159, 3) := by decide +kernel
theorem dX8_watch_15 : decode cX8_watch 15 = .ok (.bipush 40, 2) := by decide +kernel
theorem dX8_watch_17 : decode cX8_watch 17 = .ok (.if_icmp .ne 6, 3) := by decide +kernel
theorem dX8_watch_20 : decode cX8_watch 20 = .ok (.bipush (-2), 2) := by decide +kernel
theorem dX8_watch_22 : decode cX8_watch 22 = .ok (.ireturn, 1) := by decide +kernel
theorem dX8_watch_23 : decode cX8_watch 23 = .ok (.aload_n 0, 1) := by decide +kernel
theorem dX8_watch_24 : decode cX8_watch 24 = .ok (.invokevirtual 211, 3) := by decide +kernel
theorem dX8_watch_27 : decode cX8_watch 27 = .ok (.aload_n 0, 1) := by decide +kernel
theorem dX8_watch_28 : decode cX8_watch 28 = .ok (.iconst 0, 1) := by decide +kernel
theorem dX8_watch_29 : decode cX8_watch 29 = .ok (.iload_n 1, 1) := by decide +kernel
theorem dX8_watch_30 : decode cX8_watch 30 = .ok (.iload_n 2, 1) := by decide +kernel
theorem dX8_watch_31 : decode cX8_watch 31 = .ok (.invokevirtual 214, 3) := by decide +kernel
theorem dX8_watch_34 : decode cX8_watch 34 = .ok (.aload_n 0, 1) := by decide +kernel
theorem dX8_watch_35 : decode cX8_watch 35 = .ok (.getfield 22, 3) := by decide +kernel
theorem dX8_watch_38 : decode cX8_watch 38 = .ok (.iconst 0, 1) := by decide +kernel
theorem dX8_watch_39 : decode cX8_watch 39 = .ok (.iaload, 1) := by decide +kernel
theorem dX8_watch_40 : decode cX8_watch 40 = .ok (.ireturn, 1) := by decide +kernel
def P_X8_watch (a0 : Nat) (x1 : Int32) (x2 : Int32) : PM Int32 :=
cllV 8 a0 (P_X8_isPair a0 x1 x2) fun v1 =>
ifB (decide (¬ v1 = 0)) (
getI 8 11 a0 fun v2 =>
ifB (decide (¬ v2 = 40)) (
cllV 8 a0 (P_X8_remember a0) fun _ =>
cllV 8 a0 (P_X8_watchIn a0 0 x1 x2) fun _ =>
getR 8 4 a0 fun v3 =>
ald v3 0 fun v4 =>
pureM v4) (
pureM ((-2)))) (
pureM ((-1)))
set_option maxHeartbeats 4000000 in
set_option maxRecDepth 100000 in
theorem W_X8_watch {Γ : Cx} (ok : OKc Γ cX8_watch RX8 7 "watch") (okr : OKr Γ cX8_watch (some .int)) (a0 : Nat) (x1 : Int32) (x2 : Int32) : SW Γ iI 0 [some (.ref a0), some (.int x1), some (.int x2)] [] (P_X8_watch a0 x1 x2) := by
  unfold P_X8_watch
  refine sw_aload_n (z := a0) (pc' := 1) ok dX8_watch_0 rfl rfl ?_
  refine sw_iload_n (z := x1) (pc' := 2) ok dX8_watch_1 rfl rfl ?_
  refine sw_iload_n (z := x2) (pc' := 3) ok dX8_watch_2 rfl rfl ?_
  refine sw_cllV_I (st := []) (as := [.int x1, .int x2]) (pc' := 6) ok (S_X8_isPair a0 x1 x2) (by decide) lk_X8_198 rfl dX8_watch_3 rfl (Nat.le_of_ble_eq_true rfl) rfl (fun v1 => ?_)
  refine sw_if_ne (tgt := 11) (pc' := 9) ok dX8_watch_6 (by decide) rfl ?_ ?_
  · refine sw_aload_n (z := a0) (pc' := 12) ok dX8_watch_11 rfl rfl ?_
    refine sw_getI (pc' := 15) ok (fr_X8_159.g) dX8_watch_12 rfl (fun v2 => ?_)
    refine sw_bipush (v := 40) (pc' := 17) ok dX8_watch_15 rfl cc_bipush_40 ?_
    refine sw_icmp_ne (tgt := 23) (pc' := 20) ok dX8_watch_17 (by decide) rfl ?_ ?_
    · refine sw_aload_n (z := a0) (pc' := 24) ok dX8_watch_23 rfl rfl ?_
      refine sw_cllV_U (st := []) (as := []) (pc' := 27) ok (S_X8_remember a0) (by decide) lk_X8_211 rfl dX8_watch_24 rfl (Nat.le_of_ble_eq_true rfl) rfl (fun _ => ?_)
      refine sw_aload_n (z := a0) (pc' := 28) ok dX8_watch_27 rfl rfl ?_
      refine sw_iconst (v := 0) (pc' := 29) ok dX8_watch_28 rfl cc_iconst_0 ?_
      refine sw_iload_n (z := x1) (pc' := 30) ok dX8_watch_29 rfl rfl ?_
      refine sw_iload_n (z := x2) (pc' := 31) ok dX8_watch_30 rfl rfl ?_
      refine sw_cllV_U (st := []) (as := [.int 0, .int x1, .int x2]) (pc' := 34) ok (S_X8_watchIn a0 0 x1 x2) (by decide) lk_X8_214 rfl dX8_watch_31 rfl (Nat.le_of_ble_eq_true rfl) rfl (fun _ => ?_)
      refine sw_aload_n (z := a0) (pc' := 35) ok dX8_watch_34 rfl rfl ?_
      refine sw_getR (pc' := 38) ok (fr_X8_22.g) dX8_watch_35 rfl (fun v3 => ?_)
      refine sw_iconst (v := 0) (pc' := 39) ok dX8_watch_38 rfl cc_iconst_0 ?_
      refine sw_ald (pc' := 40) ok dX8_watch_39 rfl (fun v4 => ?_)
      exact sw_ret ok okr dX8_watch_40 trivial rfl
    refine sw_bipush (v := (-2)) (pc' := 22) ok dX8_watch_20 rfl cc_bipush_m2 ?_
    exact sw_ret ok okr dX8_watch_22 trivial rfl
  refine sw_iconst (v := (-1)) (pc' := 10) ok dX8_watch_9 rfl cc_iconst_m1 ?_
  exact sw_ret ok okr dX8_watch_10 trivial rfl
theorem S_X8_watch (a0 : Nat) (x1 : Int32) (x2 : Int32) : Sim 7 yX8_watch cX8_watch 3 (some .int) iI [.ref a0, .int x1, .int x2] (P_X8_watch a0 x1 x2) := Sim.intro wd_1105 (by decide) (by decide +kernel) (Nat.le_of_ble_eq_true rfl) (fun Γ ok okr => W_X8_watch ok okr a0 x1 x2)
theorem dX8_send_0 : decode cX8_send 0 = .ok (.aload_n 0, 1) := by decide +kernel
theorem dX8_send_1 : decode cX8_send 1 = .ok (.getfield 22, 3) := by decide +kernel
theorem dX8_send_4 : decode cX8_send 4 = .ok (.iconst 0, 1) := by decide +kernel
theorem dX8_send_5 : decode cX8_send 5 = .ok (.iaload, 1) := by decide +kernel
theorem dX8_send_6 : decode cX8_send 6 = .ok (.iload_n 1, 1) := by decide +kernel
theorem dX8_send_7 : decode cX8_send 7 = .ok (.if_icmp .lt 7, 3) := by decide +kernel
theorem dX8_send_10 : decode cX8_send 10 = .ok (.iconst 1, 1) := by decide +kernel
theorem dX8_send_11 : decode cX8_send 11 = .ok (.goto 4, 3) := by decide +kernel
theorem dX8_send_14 : decode cX8_send 14 = .ok (.iconst 0, 1) := by decide +kernel
theorem dX8_send_15 : decode cX8_send 15 = .ok (.istore_n 2, 1) := by decide +kernel
theorem dX8_send_16 : decode cX8_send 16 = .ok (.aload_n 0, 1) := by decide +kernel
theorem dX8_send_17 : decode cX8_send 17 = .ok (.getfield 22, 3) := by decide +kernel
theorem dX8_send_20 : decode cX8_send 20 = .ok (.iconst 3, 1) := by decide +kernel
theorem dX8_send_21 : decode cX8_send 21 = .ok (.dup2, 1) := by decide +kernel
theorem dX8_send_22 : decode cX8_send 22 = .ok (.iaload, 1) := by decide +kernel
theorem dX8_send_23 : decode cX8_send 23 = .ok (.iload_n 2, 1) := by decide +kernel
theorem dX8_send_24 : decode cX8_send 24 = .ok (.ifCond .eq 7, 3) := by decide +kernel
theorem dX8_send_27 : decode cX8_send 27 = .ok (.iconst 1, 1) := by decide +kernel
theorem dX8_send_28 : decode cX8_send 28 = .ok (.goto 4, 3) := by decide +kernel
theorem dX8_send_31 : decode cX8_send 31 = .ok (.iconst 0, 1) := by decide +kernel
theorem dX8_send_32 : decode cX8_send 32 = .ok (.iadd, 1) := by decide +kernel
theorem dX8_send_33 : decode cX8_send 33 = .ok (.iastore, 1) := by decide +kernel
theorem dX8_send_34 : decode cX8_send 34 = .ok (.aload_n 0, 1) := by decide +kernel
theorem dX8_send_35 : decode cX8_send 35 = .ok (.getfield 22, 3) := by decide +kernel
theorem dX8_send_38 : decode cX8_send 38 = .ok (.iconst 4, 1) := by decide +kernel
theorem dX8_send_39 : decode cX8_send 39 = .ok (.dup2, 1) := by decide +kernel
theorem dX8_send_40 : decode cX8_send 40 = .ok (.iaload, 1) := by decide +kernel
theorem dX8_send_41 : decode cX8_send 41 = .ok (.iload_n 2, 1) := by decide +kernel
theorem dX8_send_42 : decode cX8_send 42 = .ok (.ifCond .eq 7, 3) := by decide +kernel
theorem dX8_send_45 : decode cX8_send 45 = .ok (.iconst 0, 1) := by decide +kernel
theorem dX8_send_46 : decode cX8_send 46 = .ok (.goto 4, 3) := by decide +kernel
theorem dX8_send_49 : decode cX8_send 49 = .ok (.iconst 1, 1) := by decide +kernel
theorem dX8_send_50 : decode cX8_send 50 = .ok (.iadd, 1) := by decide +kernel
theorem dX8_send_51 : decode cX8_send 51 = .ok (.iastore, 1) := by decide +kernel
theorem dX8_send_52 : decode cX8_send 52 = .ok (.aload_n 0, 1) := by decide +kernel
theorem dX8_send_53 : decode cX8_send 53 = .ok (.getfield 22, 3) := by decide +kernel
theorem dX8_send_56 : decode cX8_send 56 = .ok (.iconst 0, 1) := by decide +kernel
theorem dX8_send_57 : decode cX8_send 57 = .ok (.iload_n 2, 1) := by decide +kernel
theorem dX8_send_58 : decode cX8_send 58 = .ok (.ifCond .eq 12, 3) := by decide +kernel
theorem dX8_send_61 : decode cX8_send 61 = .ok (.aload_n 0, 1) := by decide +kernel
theorem dX8_send_62 : decode cX8_send 62 = .ok (.getfield 22, 3) := by decide +kernel
theorem dX8_send_65 : decode cX8_send 65 = .ok (.iconst 0, 1) := by decide +kernel
theorem dX8_send_66 : decode cX8_send 66 = .ok (.iaload, 1) := by decide +kernel
theorem dX8_send_67 : decode cX8_send 67 = .ok (.goto 4, 3) := by decide +kernel
theorem dX8_send_70 : decode cX8_send 70 = .ok (.iconst 0, 1) := by decide +kernel
theorem dX8_send_71 : decode cX8_send 71 = .ok (.iastore, 1) := by decide +kernel
theorem dX8_send_72 : decode cX8_send 72 = .ok (.iload_n 2, 1) := by decide +kernel
theorem dX8_send_73 : decode cX8_send 73 = .ok (.ifCond .eq 7, 3) := by decide +kernel
theorem dX8_send_76 : decode cX8_send 76 = .ok (.iconst 1, 1) := by decide +kernel
theorem dX8_send_77 : decode cX8_send 77 = .ok (.goto 4, 3) := by decide +kernel
theorem dX8_send_80 : decode cX8_send 80 = .ok (.iconst 0, 1) := by decide +kernel
theorem dX8_send_81 : decode cX8_send 81 = .ok (.ireturn, 1) := by decide +kernel
def P_X8_send (a0 : Nat) (x1 : Int32) : PM Int32 :=
getR 8 4 a0 fun v1 =>
ald v1 0 fun v2 =>
jn (fun (j3 : Int32) =>
getR 8 4 a0 fun v4 =>
ald v4 3 fun v5 =>
jn (fun (j6 : Nat) (j7 : Int32) (j8 : Int32) (j9 : Int32) =>
ast j6 j7 (j8 + j9) <|
getR 8 4 a0 fun v10 =>
ald v10 4 fun v11 =>
jn (fun (j12 : Nat) (j13 : Int32) (j14 : Int32) (j15 : Int32) =>
ast j12 j13 (j14 + j15) <|
getR 8 4 a0 fun v16 =>
jn (fun (j17 : Nat) (j18 : Int32) (j19 : Int32) =>
ast j17 j18 j19 <|
ifB (decide (j3 = 0)) (
pureM 0) (
pureM 1)) fun k20 =>
ifB (decide (j3 = 0)) (
k20 v16 0 0) (
getR 8 4 a0 fun v21 =>
ald v21 0 fun v22 =>
k20 v16 0 v22)) fun k23 =>
ifB (decide (j3 = 0)) (
k23 v10 4 v11 1) (
k23 v10 4 v11 0)) fun k24 =>
ifB (decide (j3 = 0)) (
k24 v4 3 v5 0) (
k24 v4 3 v5 1)) fun k25 =>
ifB (decide (v2 < x1)) (
k25 0) (
k25 1)
set_option maxHeartbeats 4000000 in
set_option maxRecDepth 100000 in
theorem W_X8_send {Γ : Cx} (ok : OKc Γ cX8_send RX8 0 "send") (okr : OKr Γ cX8_send (some .int)) (a0 : Nat) (x1 : Int32) : SW Γ iI 0 [some (.ref a0), some (.int x1), none] [] (P_X8_send a0 x1) := by
  unfold P_X8_send
  refine sw_aload_n (z := a0) (pc' := 1) ok dX8_send_0 rfl rfl ?_
  refine sw_getR (pc' := 4) ok (fr_X8_22.g) dX8_send_1 rfl (fun v1 => ?_)
  refine sw_iconst (v := 0) (pc' := 5) ok dX8_send_4 rfl cc_iconst_0 ?_
  refine sw_ald (pc' := 6) ok dX8_send_5 rfl (fun v2 => ?_)
  refine sw_iload_n (z := x1) (pc' := 7) ok dX8_send_6 rfl rfl ?_
  refine sw_jn (fun k25 : Int32 → PM Int32 => ∀ (j3 : Int32), SW Γ iI 15 [some (.ref a0), none, none] [.int j3] (k25 j3)) ?_ (fun k25 hk25 => ?_)
  · intro j3
    refine sw_istore_n (pc' := 16) (l' := [some (.ref a0), none, some (.int j3)]) ok dX8_send_15 rfl (Nat.le_of_ble_eq_true rfl) rfl ?_
    refine sw_aload_n (z := a0) (pc' := 17) ok dX8_send_16 rfl rfl ?_
    refine sw_getR (pc' := 20) ok (fr_X8_22.g) dX8_send_17 rfl (fun v4 => ?_)
    refine sw_iconst (v := 3) (pc' := 21) ok dX8_send_20 rfl cc_iconst_3 ?_
    refine sw_dup2 (pc' := 22) ok dX8_send_21 rfl rfl rfl ?_
    refine sw_ald (pc' := 23) ok dX8_send_22 rfl (fun v5 => ?_)
    refine sw_iload_n (z := j3) (pc' := 24) ok dX8_send_23 rfl rfl ?_
    refine sw_jn (fun k24 : Nat → Int32 → Int32 → Int32 → PM Int32 => ∀ (j6 : Nat) (j7 : Int32) (j8 : Int32) (j9 : Int32), SW Γ iI 32 [some (.ref a0), none, some (.int j3)] [.int j9, .int j8, .int j7, .ref j6] (k24 j6 j7 j8 j9)) ?_ (fun k24 hk24 => ?_)
    · intro j6 j7 j8 j9
      refine sw_iadd (pc' := 33) ok dX8_send_32 rfl ?_
      refine sw_ast (pc' := 34) ok dX8_send_33 rfl ?_
      refine sw_aload_n (z := a0) (pc' := 35) ok dX8_send_34 rfl rfl ?_
      refine sw_getR (pc' := 38) ok (fr_X8_22.g) dX8_send_35 rfl (fun v10 => ?_)
      refine sw_iconst (v := 4) (pc' := 39) ok dX8_send_38 rfl cc_iconst_4 ?_
      refine sw_dup2 (pc' := 40) ok dX8_send_39 rfl rfl rfl ?_
      refine sw_ald (pc' := 41) ok dX8_send_40 rfl (fun v11 => ?_)
      refine sw_iload_n (z := j3) (pc' := 42) ok dX8_send_41 rfl rfl ?_
      refine sw_jn (fun k23 : Nat → Int32 → Int32 → Int32 → PM Int32 => ∀ (j12 : Nat) (j13 : Int32) (j14 : Int32) (j15 : Int32), SW Γ iI 50 [some (.ref a0), none, some (.int j3)] [.int j15, .int j14, .int j13, .ref j12] (k23 j12 j13 j14 j15)) ?_ (fun k23 hk23 => ?_)
      · intro j12 j13 j14 j15
        refine sw_iadd (pc' := 51) ok dX8_send_50 rfl ?_
        refine sw_ast (pc' := 52) ok dX8_send_51 rfl ?_
        refine sw_aload_n (z := a0) (pc' := 53) ok dX8_send_52 rfl rfl ?_
        refine sw_getR (pc' := 56) ok (fr_X8_22.g) dX8_send_53 rfl (fun v16 => ?_)
        refine sw_iconst (v := 0) (pc' := 57) ok dX8_send_56 rfl cc_iconst_0 ?_
        refine sw_iload_n (z := j3) (pc' := 58) ok dX8_send_57 rfl rfl ?_
        refine sw_jn (fun k20 : Nat → Int32 → Int32 → PM Int32 => ∀ (j17 : Nat) (j18 : Int32) (j19 : Int32), SW Γ iI 71 [none, none, some (.int j3)] [.int j19, .int j18, .ref j17] (k20 j17 j18 j19)) ?_ (fun k20 hk20 => ?_)
        · intro j17 j18 j19
          refine sw_ast (pc' := 72) ok dX8_send_71 rfl ?_
          refine sw_iload_n (z := j3) (pc' := 73) ok dX8_send_72 rfl rfl ?_
          refine sw_if_eq (tgt := 80) (pc' := 76) ok dX8_send_73 (by decide) rfl ?_ ?_
          · refine sw_iconst (v := 0) (pc' := 81) ok dX8_send_80 rfl cc_iconst_0 ?_
            exact sw_ret ok okr dX8_send_81 trivial rfl
          refine sw_iconst (v := 1) (pc' := 77) ok dX8_send_76 rfl cc_iconst_1 ?_
          refine sw_goto (tgt := 81) ok dX8_send_77 (by decide) ?_
          exact sw_ret ok okr dX8_send_81 trivial rfl
        refine sw_if_eq (tgt := 70) (pc' := 61) ok dX8_send_58 (by decide) rfl ?_ ?_
        · refine sw_iconst (v := 0) (pc' := 71) ok dX8_send_70 rfl cc_iconst_0 ?_
          refine sw_fg (l' := [none, none, some (.int j3)]) [false, false, true] rfl ?_
          exact hk20 v16 0 0
        refine sw_aload_n (z := a0) (pc' := 62) ok dX8_send_61 rfl rfl ?_
        refine sw_getR (pc' := 65) ok (fr_X8_22.g) dX8_send_62 rfl (fun v21 => ?_)
        refine sw_iconst (v := 0) (pc' := 66) ok dX8_send_65 rfl cc_iconst_0 ?_
        refine sw_ald (pc' := 67) ok dX8_send_66 rfl (fun v22 => ?_)
        refine sw_goto (tgt := 71) ok dX8_send_67 (by decide) ?_
        refine sw_fg (l' := [none, none, some (.int j3)]) [false, false, true] rfl ?_
        exact hk20 v16 0 v22
      refine sw_if_eq (tgt := 49) (pc' := 45) ok dX8_send_42 (by decide) rfl ?_ ?_
      · refine sw_iconst (v := 1) (pc' := 50) ok dX8_send_49 rfl cc_iconst_1 ?_
        exact hk23 v10 4 v11 1
      refine sw_iconst (v := 0) (pc' := 46) ok dX8_send_45 rfl cc_iconst_0 ?_
      refine sw_goto (tgt := 50) ok dX8_send_46 (by decide) ?_
      exact hk23 v10 4 v11 0
    refine sw_if_eq (tgt := 31) (pc' := 27) ok dX8_send_24 (by decide) rfl ?_ ?_
    · refine sw_iconst (v := 0) (pc' := 32) ok dX8_send_31 rfl cc_iconst_0 ?_
      exact hk24 v4 3 v5 0
    refine sw_iconst (v := 1) (pc' := 28) ok dX8_send_27 rfl cc_iconst_1 ?_
    refine sw_goto (tgt := 32) ok dX8_send_28 (by decide) ?_
    exact hk24 v4 3 v5 1
  refine sw_icmp_lt (tgt := 14) (pc' := 10) ok dX8_send_7 (by decide) rfl ?_ ?_
  · refine sw_iconst (v := 0) (pc' := 15) ok dX8_send_14 rfl cc_iconst_0 ?_
    refine sw_fg (l' := [some (.ref a0), none, none]) [true, false, false] rfl ?_
    exact hk25 0
  refine sw_iconst (v := 1) (pc' := 11) ok dX8_send_10 rfl cc_iconst_1 ?_
  refine sw_goto (tgt := 15) ok dX8_send_11 (by decide) ?_
  refine sw_fg (l' := [some (.ref a0), none, none]) [true, false, false] rfl ?_
  exact hk25 1
theorem S_X8_send (a0 : Nat) (x1 : Int32) : Sim 0 yX8_send cX8_send 3 (some .int) iI [.ref a0, .int x1] (P_X8_send a0 x1) := Sim.intro wd_1106 (by decide) (by decide +kernel) (Nat.le_of_ble_eq_true rfl) (fun Γ ok okr => W_X8_send ok okr a0 x1)
