/-! Programs and walks, printed by program (gen.py). -/
theorem dX7_text_0 : decode cX7_text 0 = .ok (.iload_n 1, 1) := by decide +kernel
theorem dX7_text_1 : decode cX7_text 1 = .ok (.invokestatic 128, 3) := by decide +kernel
theorem dX7_text_4 : decode cX7_text 4 = .ok (.ifCond .eq 9, 3) := by decide +kernel
theorem dX7_text_7 : decode cX7_text 7 = .ok (.iload_n 2, 1) := by decide +kernel
theorem dX7_text_8 : decode cX7_text 8 = .ok (.bipush 60, 2) := by decide +kernel
theorem dX7_text_10 : decode cX7_text 10 = .ok (.if_icmp .le 5, 3) := by decide +kernel
theorem dX7_text_13 : decode cX7_text 13 = .ok (.iconst (-1), 1) := by decide +kernel
theorem dX7_text_14 : decode cX7_text 14 = .ok (.ireturn, 1) := by decide +kernel
theorem dX7_text_15 : decode cX7_text 15 = .ok (.iload_n 2, 1) := by decide +kernel
theorem dX7_text_16 : decode cX7_text 16 = .ok (.ifCond .ge 9, 3) := by decide +kernel
theorem dX7_text_19 : decode cX7_text 19 = .ok (.aload_n 0, 1) := by decide +kernel
theorem dX7_text_20 : decode cX7_text 20 = .ok (.iconst 5, 1) := by decide +kernel
theorem dX7_text_21 : decode cX7_text 21 = .ok (.invokevirtual 82, 3) := by decide +kernel
theorem dX7_text_24 : decode cX7_text 24 = .ok (.ireturn, 1) := by decide +kernel
theorem dX7_text_25 : decode cX7_text 25 = .ok (.aload_n 0, 1) := by decide +kernel
theorem dX7_text_26 : decode cX7_text 26 = .ok (.getfield 15, 3) := by decide +kernel
theorem dX7_text_29 : decode cX7_text 29 = .ok (.iload_n 1, 1) := by decide +kernel
theorem dX7_text_30 : decode cX7_text 30 = .ok (.aaload, 1) := by decide +kernel
theorem dX7_text_31 : decode cX7_text 31 = .ok (.iload_n 2, 1) := by decide +kernel
theorem dX7_text_32 : decode cX7_text 32 = .ok (.invokevirtual 86, 3) := by decide +kernel
theorem dX7_text_35 : decode cX7_text 35 = .ok (.iload_n 2, 1) := by decide +kernel
theorem dX7_text_36 : decode cX7_text 36 = .ok (.ireturn, 1) := by decide +kernel
def P_X7_text (a0 : Nat) (x1 : Int32) (x2 : Int32) : PM Int32 :=
cll0 (P_X7_isText x1) fun v1 =>
ifB (decide (v1 = 0)) (
pureM ((-1))) (
ifB (decide (x2 ≤ 60)) (
ifB (decide (0 ≤ x2)) (
getR 7 1 a0 fun v2 =>
aldR v2 x1 fun v3 =>
cllV 5 v3 (P_X5_begin v3 x2) fun _ =>
pureM x2) (
cllV 7 a0 (P_X7_found a0 5) fun v4 =>
pureM v4)) (
pureM ((-1))))
set_option maxHeartbeats 4000000 in
set_option maxRecDepth 100000 in
theorem W_X7_text {Γ : Cx} (ok : OKc Γ cX7_text RX7 2 "text") (okr : OKr Γ cX7_text (some .int)) (a0 : Nat) (x1 : Int32) (x2 : Int32) : SW Γ iI 0 [some (.ref a0), some (.int x1), some (.int x2)] [] (P_X7_text a0 x1 x2) := by
  unfold P_X7_text
  refine sw_iload_n (z := x1) (pc' := 1) ok dX7_text_0 rfl rfl ?_
  refine sw_cll0_I (st := []) (as := [.int x1]) (pc' := 4) ok (S_X7_isText x1) (by decide) lk_X7_128 rfl dX7_text_1 rfl (Nat.le_of_ble_eq_true rfl) rfl (fun v1 => ?_)
  refine sw_if_eq (tgt := 13) (pc' := 7) ok dX7_text_4 (by decide) rfl ?_ ?_
  · refine sw_iconst (v := (-1)) (pc' := 14) ok dX7_text_13 rfl cc_iconst_m1 ?_
    exact sw_ret ok okr dX7_text_14 trivial rfl
  refine sw_iload_n (z := x2) (pc' := 8) ok dX7_text_7 rfl rfl ?_
  refine sw_bipush (v := 60) (pc' := 10) ok dX7_text_8 rfl cc_bipush_60 ?_
  refine sw_icmp_le (tgt := 15) (pc' := 13) ok dX7_text_10 (by decide) rfl ?_ ?_
  · refine sw_iload_n (z := x2) (pc' := 16) ok dX7_text_15 rfl rfl ?_
    refine sw_if_ge (tgt := 25) (pc' := 19) ok dX7_text_16 (by decide) rfl ?_ ?_
    · refine sw_aload_n (z := a0) (pc' := 26) ok dX7_text_25 rfl rfl ?_
      refine sw_getR (pc' := 29) ok (fr_X7_15.g) dX7_text_26 rfl (fun v2 => ?_)
      refine sw_iload_n (z := x1) (pc' := 30) ok dX7_text_29 rfl rfl ?_
      refine sw_aldR (pc' := 31) ok dX7_text_30 rfl (fun v3 => ?_)
      refine sw_iload_n (z := x2) (pc' := 32) ok dX7_text_31 rfl rfl ?_
      refine sw_cllV_U (st := []) (as := [.int x2]) (pc' := 35) ok (S_X5_begin v3 x2) (by decide) lk_X7_86 rfl dX7_text_32 rfl (Nat.le_of_ble_eq_true rfl) rfl (fun _ => ?_)
      refine sw_iload_n (z := x2) (pc' := 36) ok dX7_text_35 rfl rfl ?_
      exact sw_ret ok okr dX7_text_36 trivial rfl
    refine sw_aload_n (z := a0) (pc' := 20) ok dX7_text_19 rfl rfl ?_
    refine sw_iconst (v := 5) (pc' := 21) ok dX7_text_20 rfl cc_iconst_5 ?_
    refine sw_cllV_I (st := []) (as := [.int 5]) (pc' := 24) ok (S_X7_found a0 5) (by decide) lk_X7_82 rfl dX7_text_21 rfl (Nat.le_of_ble_eq_true rfl) rfl (fun v4 => ?_)
    exact sw_ret ok okr dX7_text_24 trivial rfl
  refine sw_iconst (v := (-1)) (pc' := 14) ok dX7_text_13 rfl cc_iconst_m1 ?_
  exact sw_ret ok okr dX7_text_14 trivial rfl
theorem S_X7_text (a0 : Nat) (x1 : Int32) (x2 : Int32) : Sim 2 yX7_text cX7_text 3 (some .int) iI [.ref a0, .int x1, .int x2] (P_X7_text a0 x1 x2) := Sim.intro wd_1004 (by decide) (by decide +kernel) (Nat.le_of_ble_eq_true rfl) (fun Γ ok okr => W_X7_text ok okr a0 x1 x2)
theorem dX7_put_0 : decode cX7_put 0 = .ok (.iload_n 1, 1) := by decide +kernel
theorem dX7_put_1 : decode cX7_put 1 = .ok (.invokestatic 128, 3) := by decide +kernel
theorem dX7_put_4 : decode cX7_put 4 = .ok (.ifCond .ne 5, 3) := by decide +kernel
theorem dX7_put_7 : decode cX7_put 7 = .ok (.iconst (-1), 1) := by decide +kernel
theorem dX7_put_8 : decode cX7_put 8 = .ok (.ireturn, 1) := by decide +kernel
theorem dX7_put_9 : decode cX7_put 9 = .ok (.aload_n 0, 1) := by decide +kernel
theorem dX7_put_10 : decode cX7_put 10 = .ok (.aload_n 0, 1) := by decide +kernel
theorem dX7_put_11 : decode cX7_put 11 = .ok (.getfield 15, 3) := by decide +kernel
theorem dX7_put_14 : decode cX7_put 14 = .ok (.iload_n 1, 1) := by decide +kernel
theorem dX7_put_15 : decode cX7_put 15 = .ok (.aaload, 1) := by decide +kernel
theorem dX7_put_16 : decode cX7_put 16 = .ok (.iload_n 2, 1) := by decide +kernel
theorem dX7_put_17 : decode cX7_put 17 = .ok (.invokevirtual 90, 3) := by decide +kernel
theorem dX7_put_20 : decode cX7_put 20 = .ok (.istore 4, 2) := by decide +kernel
theorem dX7_put_22 : decode cX7_put 22 = .ok (.iload 4, 2) := by decide +kernel
theorem dX7_put_24 : decode cX7_put 24 = .ok (.ifCond .ge 8, 3) := by decide +kernel
theorem dX7_put_27 : decode cX7_put 27 = .ok (.iload 4, 2) := by decide +kernel
theorem dX7_put_29 : decode cX7_put 29 = .ok (.goto 19, 3) := by decide +kernel
theorem dX7_put_32 : decode cX7_put 32 = .ok (.sipush 1000, 3) := by decide +kernel
theorem dX7_put_35 : decode cX7_put 35 = .ok (.aload_n 0, 1) := by decide +kernel
theorem dX7_put_36 : decode cX7_put 36 = .ok (.getfield 15, 3) := by decide +kernel
theorem dX7_put_39 : decode cX7_put 39 = .ok (.iload_n 1, 1) := by decide +kernel
theorem dX7_put_40 : decode cX7_put 40 = .ok (.aaload, 1) := by decide +kernel
theorem dX7_put_41 : decode cX7_put 41 = .ok (.iload_n 2, 1) := by decide +kernel
theorem dX7_put_42 : decode cX7_put 42 = .ok (.iload_n 3, 1) := by decide +kernel
theorem dX7_put_43 : decode cX7_put 43 = .ok (.i2b, 1) := by decide +kernel
theorem dX7_put_44 : decode cX7_put 44 = .ok (.invokevirtual 94, 3) := by decide +kernel
theorem dX7_put_47 : decode cX7_put 47 = .ok (.iadd, 1) := by decide +kernel
theorem dX7_put_48 : decode cX7_put 48 = .ok (.ireturn, 1) := by decide +kernel
def P_X7_put (a0 : Nat) (x1 : Int32) (x2 : Int32) (x3 : Int32) : PM Int32 :=
cll0 (P_X7_isText x1) fun v1 =>
ifB (decide (¬ v1 = 0)) (
getR 7 1 a0 fun v2 =>
aldR v2 x1 fun v3 =>
cllV 7 a0 (P_X7_refusePlace a0 v3 x2) fun v4 =>
ifB (decide (0 ≤ v4)) (
getR 7 1 a0 fun v5 =>
aldR v5 x1 fun v6 =>
cllV 5 v6 (P_X5_swap v6 x2 ((Int32.toInt8 x3).toInt32)) fun v7 =>
pureM (1000 + v7)) (
pureM v4)) (
pureM ((-1)))
set_option maxHeartbeats 4000000 in
set_option maxRecDepth 100000 in
theorem W_X7_put {Γ : Cx} (ok : OKc Γ cX7_put RX7 3 "put") (okr : OKr Γ cX7_put (some .int)) (a0 : Nat) (x1 : Int32) (x2 : Int32) (x3 : Int32) : SW Γ iI 0 [some (.ref a0), some (.int x1), some (.int x2), some (.int x3), none] [] (P_X7_put a0 x1 x2 x3) := by
  unfold P_X7_put
  refine sw_iload_n (z := x1) (pc' := 1) ok dX7_put_0 rfl rfl ?_
  refine sw_cll0_I (st := []) (as := [.int x1]) (pc' := 4) ok (S_X7_isText x1) (by decide) lk_X7_128 rfl dX7_put_1 rfl (Nat.le_of_ble_eq_true rfl) rfl (fun v1 => ?_)
  refine sw_if_ne (tgt := 9) (pc' := 7) ok dX7_put_4 (by decide) rfl ?_ ?_
  · refine sw_aload_n (z := a0) (pc' := 10) ok dX7_put_9 rfl rfl ?_
    refine sw_aload_n (z := a0) (pc' := 11) ok dX7_put_10 rfl rfl ?_
    refine sw_getR (pc' := 14) ok (fr_X7_15.g) dX7_put_11 rfl (fun v2 => ?_)
    refine sw_iload_n (z := x1) (pc' := 15) ok dX7_put_14 rfl rfl ?_
    refine sw_aldR (pc' := 16) ok dX7_put_15 rfl (fun v3 => ?_)
    refine sw_iload_n (z := x2) (pc' := 17) ok dX7_put_16 rfl rfl ?_
    refine sw_cllV_I (st := []) (as := [.ref v3, .int x2]) (pc' := 20) ok (S_X7_refusePlace a0 v3 x2) (by decide) lk_X7_90 rfl dX7_put_17 rfl (Nat.le_of_ble_eq_true rfl) rfl (fun v4 => ?_)
    refine sw_istore (pc' := 22) (l' := [some (.ref a0), some (.int x1), some (.int x2), some (.int x3), some (.int v4)]) ok dX7_put_20 rfl (Nat.le_of_ble_eq_true rfl) rfl ?_
    refine sw_iload (z := v4) (pc' := 24) ok dX7_put_22 rfl rfl ?_
    refine sw_if_ge (tgt := 32) (pc' := 27) ok dX7_put_24 (by decide) rfl ?_ ?_
    · refine sw_sipush (v := 1000) (pc' := 35) ok dX7_put_32 rfl cc_sipush_1000 ?_
      refine sw_aload_n (z := a0) (pc' := 36) ok dX7_put_35 rfl rfl ?_
      refine sw_getR (pc' := 39) ok (fr_X7_15.g) dX7_put_36 rfl (fun v5 => ?_)
      refine sw_iload_n (z := x1) (pc' := 40) ok dX7_put_39 rfl rfl ?_
      refine sw_aldR (pc' := 41) ok dX7_put_40 rfl (fun v6 => ?_)
      refine sw_iload_n (z := x2) (pc' := 42) ok dX7_put_41 rfl rfl ?_
      refine sw_iload_n (z := x3) (pc' := 43) ok dX7_put_42 rfl rfl ?_
      refine sw_i2b (pc' := 44) ok dX7_put_43 rfl ?_
      refine sw_cllV_I (st := [.int 1000]) (as := [.int x2, .int ((Int32.toInt8 x3).toInt32)]) (pc' := 47) ok (S_X5_swap v6 x2 ((Int32.toInt8 x3).toInt32)) (by decide) lk_X7_94 rfl dX7_put_44 rfl (Nat.le_of_ble_eq_true rfl) rfl (fun v7 => ?_)
      refine sw_iadd (pc' := 48) ok dX7_put_47 rfl ?_
      exact sw_ret ok okr dX7_put_48 trivial rfl
    refine sw_iload (z := v4) (pc' := 29) ok dX7_put_27 rfl rfl ?_
    refine sw_goto (tgt := 48) ok dX7_put_29 (by decide) ?_
    exact sw_ret ok okr dX7_put_48 trivial rfl
  refine sw_iconst (v := (-1)) (pc' := 8) ok dX7_put_7 rfl cc_iconst_m1 ?_
  exact sw_ret ok okr dX7_put_8 trivial rfl
theorem S_X7_put (a0 : Nat) (x1 : Int32) (x2 : Int32) (x3 : Int32) : Sim 3 yX7_put cX7_put 5 (some .int) iI [.ref a0, .int x1, .int x2, .int x3] (P_X7_put a0 x1 x2 x3) := Sim.intro wd_1005 (by decide) (by decide +kernel) (Nat.le_of_ble_eq_true rfl) (fun Γ ok okr => W_X7_put ok okr a0 x1 x2 x3)
theorem dX7_fault_0 : decode cX7_fault 0 = .ok (.iload_n 1, 1) := by decide +kernel
theorem dX7_fault_1 : decode cX7_fault 1 = .ok (.invokestatic 128, 3) := by decide +kernel
theorem dX7_fault_4 : decode cX7_fault 4 = .ok (.ifCond .ne 5, 3) := by decide +kernel
theorem dX7_fault_7 : decode cX7_fault 7 = .ok (.iconst (-1), 1) := by decide +kernel
theorem dX7_fault_8 : decode cX7_fault 8 = .ok (.ireturn, 1) := by decide +kernel
theorem dX7_fault_9 : decode cX7_fault 9 = .ok (.aload_n 0, 1) := by decide +kernel
theorem dX7_fault_10 : decode cX7_fault 10 = .ok (.getfield 15, 3) := by decide +kernel
theorem dX7_fault_13 : decode cX7_fault 13 = .ok (.iload_n 1, 1) := by decide +kernel
theorem dX7_fault_14 : decode cX7_fault 14 = .ok (.aaload, 1) := by decide +kernel
theorem dX7_fault_15 : decode cX7_fault 15 = .ok (.getfield 104, 3) := by decide +kernel
theorem dX7_fault_18 : decode cX7_fault 18 = .ok (.ifCond .eq 19, 3) := by decide +kernel
theorem dX7_fault_21 : decode cX7_fault 21 = .ok (.aload_n 0, 1) := by decide +kernel
theorem dX7_fault_22 : decode cX7_fault 22 = .ok (.getfield 34, 3) := by decide +kernel
theorem dX7_fault_25 : decode cX7_fault 25 = .ok (.aload_n 0, 1) := by decide +kernel
theorem dX7_fault_26 : decode cX7_fault 26 = .ok (.getfield 15, 3) := by decide +kernel
theorem dX7_fault_29 : decode cX7_fault 29 = .ok (.iload_n 1, 1) := by decide +kernel
theorem dX7_fault_30 : decode cX7_fault 30 = .ok (.aaload, 1) := by decide +kernel
theorem dX7_fault_31 : decode cX7_fault 31 = .ok (.invokevirtual 131, 3) := by decide +kernel
theorem dX7_fault_34 : decode cX7_fault 34 = .ok (.goto 8, 3) := by decide +kernel
theorem dX7_fault_37 : decode cX7_fault 37 = .ok (.aload_n 0, 1) := by decide +kernel
theorem dX7_fault_38 : decode cX7_fault 38 = .ok (.iconst 1, 1) := by decide +kernel
theorem dX7_fault_39 : decode cX7_fault 39 = .ok (.invokevirtual 82, 3) := by decide +kernel
theorem dX7_fault_42 : decode cX7_fault 42 = .ok (.ireturn, 1) := by decide +kernel
def P_X7_fault (a0 : Nat) (x1 : Int32) : PM Int32 :=
cll0 (P_X7_isText x1) fun v1 =>
ifB (decide (¬ v1 = 0)) (
getR 7 1 a0 fun v2 =>
aldR v2 x1 fun v3 =>
getI 5 3 v3 fun v4 =>
ifB (decide (v4 = 0)) (
cllV 7 a0 (P_X7_found a0 1) fun v5 =>
pureM v5) (
getR 7 4 a0 fun v6 =>
getR 7 1 a0 fun v7 =>
aldR v7 x1 fun v8 =>
cllV 4 v6 (P_X4_read v6 v8) fun v9 =>
pureM v9)) (
pureM ((-1)))
set_option maxHeartbeats 4000000 in
set_option maxRecDepth 100000 in
theorem W_X7_fault {Γ : Cx} (ok : OKc Γ cX7_fault RX7 5 "fault") (okr : OKr Γ cX7_fault (some .int)) (a0 : Nat) (x1 : Int32) : SW Γ iI 0 [some (.ref a0), some (.int x1)] [] (P_X7_fault a0 x1) := by
  unfold P_X7_fault
  refine sw_iload_n (z := x1) (pc' := 1) ok dX7_fault_0 rfl rfl ?_
  refine sw_cll0_I (st := []) (as := [.int x1]) (pc' := 4) ok (S_X7_isText x1) (by decide) lk_X7_128 rfl dX7_fault_1 rfl (Nat.le_of_ble_eq_true rfl) rfl (fun v1 => ?_)
  refine sw_if_ne (tgt := 9) (pc' := 7) ok dX7_fault_4 (by decide) rfl ?_ ?_
  · refine sw_aload_n (z := a0) (pc' := 10) ok dX7_fault_9 rfl rfl ?_
    refine sw_getR (pc' := 13) ok (fr_X7_15.g) dX7_fault_10 rfl (fun v2 => ?_)
    refine sw_iload_n (z := x1) (pc' := 14) ok dX7_fault_13 rfl rfl ?_
    refine sw_aldR (pc' := 15) ok dX7_fault_14 rfl (fun v3 => ?_)
    refine sw_getI (pc' := 18) ok (fr_X7_104.g) dX7_fault_15 rfl (fun v4 => ?_)
    refine sw_if_eq (tgt := 37) (pc' := 21) ok dX7_fault_18 (by decide) rfl ?_ ?_
    · refine sw_aload_n (z := a0) (pc' := 38) ok dX7_fault_37 rfl rfl ?_
      refine sw_iconst (v := 1) (pc' := 39) ok dX7_fault_38 rfl cc_iconst_1 ?_
      refine sw_cllV_I (st := []) (as := [.int 1]) (pc' := 42) ok (S_X7_found a0 1) (by decide) lk_X7_82 rfl dX7_fault_39 rfl (Nat.le_of_ble_eq_true rfl) rfl (fun v5 => ?_)
      exact sw_ret ok okr dX7_fault_42 trivial rfl
    refine sw_aload_n (z := a0) (pc' := 22) ok dX7_fault_21 rfl rfl ?_
    refine sw_getR (pc' := 25) ok (fr_X7_34.g) dX7_fault_22 rfl (fun v6 => ?_)
    refine sw_aload_n (z := a0) (pc' := 26) ok dX7_fault_25 rfl rfl ?_
    refine sw_getR (pc' := 29) ok (fr_X7_15.g) dX7_fault_26 rfl (fun v7 => ?_)
    refine sw_iload_n (z := x1) (pc' := 30) ok dX7_fault_29 rfl rfl ?_
    refine sw_aldR (pc' := 31) ok dX7_fault_30 rfl (fun v8 => ?_)
    refine sw_cllV_I (st := []) (as := [.ref v8]) (pc' := 34) ok (S_X4_read v6 v8) (by decide) lk_X7_131 rfl dX7_fault_31 rfl (Nat.le_of_ble_eq_true rfl) rfl (fun v9 => ?_)
    refine sw_goto (tgt := 42) ok dX7_fault_34 (by decide) ?_
    exact sw_ret ok okr dX7_fault_42 trivial rfl
  refine sw_iconst (v := (-1)) (pc' := 8) ok dX7_fault_7 rfl cc_iconst_m1 ?_
  exact sw_ret ok okr dX7_fault_8 trivial rfl
theorem S_X7_fault (a0 : Nat) (x1 : Int32) : Sim 5 yX7_fault cX7_fault 2 (some .int) iI [.ref a0, .int x1] (P_X7_fault a0 x1) := Sim.intro wd_1006 (by decide) (by decide +kernel) (Nat.le_of_ble_eq_true rfl) (fun Γ ok okr => W_X7_fault ok okr a0 x1)
theorem dX7_bridge_0 : decode cX7_bridge 0 = .ok (.iload_n 1, 1) := by decide +kernel
theorem dX7_bridge_1 : decode cX7_bridge 1 = .ok (.invokestatic 128, 3) := by decide +kernel
theorem dX7_bridge_4 : decode cX7_bridge 4 = .ok (.ifCond .ne 5, 3) := by decide +kernel
theorem dX7_bridge_7 : decode cX7_bridge 7 = .ok (.iconst (-1), 1) := by decide +kernel
theorem dX7_bridge_8 : decode cX7_bridge 8 = .ok (.ireturn, 1) := by decide +kernel
theorem dX7_bridge_9 : decode cX7_bridge 9 = .ok (.aload_n 0, 1) := by decide +kernel
theorem dX7_bridge_10 : decode cX7_bridge 10 = .ok (.getfield 15, 3) := by decide +kernel
theorem dX7_bridge_13 : decode cX7_bridge 13 = .ok (.iload_n 1, 1) := by decide +kernel
theorem dX7_bridge_14 : decode cX7_bridge 14 = .ok (.aaload, 1) := by decide +kernel
theorem dX7_bridge_15 : decode cX7_bridge 15 = .ok (.getfield 104, 3) := by decide +kernel
theorem dX7_bridge_18 : decode cX7_bridge 18 = .ok (.ifCond .ne 9, 3) := by decide +kernel
theorem dX7_bridge_21 : decode cX7_bridge 21 = .ok (.aload_n 0, 1) := by decide +kernel
theorem dX7_bridge_22 : decode cX7_bridge 22 = .ok (.iconst 1, 1) := by decide +kernel
theorem dX7_bridge_23 : decode cX7_bridge 23 = .ok (.invokevirtual 82, 3) := by decide +kernel
theorem dX7_bridge_26 : decode cX7_bridge 26 = .ok (.ireturn, 1) := by decide +kernel
theorem dX7_bridge_27 : decode cX7_bridge 27 = .ok (.aload_n 0, 1) := by decide +kernel
theorem dX7_bridge_28 : decode cX7_bridge 28 = .ok (.getfield 34, 3) := by decide +kernel
theorem dX7_bridge_31 : decode cX7_bridge 31 = .ok (.aload_n 0, 1) := by decide +kernel
theorem dX7_bridge_32 : decode cX7_bridge 32 = .ok (.getfield 15, 3) := by decide +kernel
theorem dX7_bridge_35 : decode cX7_bridge 35 = .ok (.iload_n 1, 1) := by decide +kernel
theorem dX7_bridge_36 : decode cX7_bridge 36 = .ok (.aaload, 1) := by decide +kernel
theorem dX7_bridge_37 : decode cX7_bridge 37 = .ok (.invokevirtual 131, 3) := by decide +kernel
theorem dX7_bridge_40 : decode cX7_bridge 40 = .ok (.bipush (-9), 2) := by decide +kernel
theorem dX7_bridge_42 : decode cX7_bridge 42 = .ok (.if_icmp .eq 6, 3) := by decide +kernel
theorem dX7_bridge_45 : decode cX7_bridge 45 = .ok (.bipush (-4), 2) := by decide +kernel
theorem dX7_bridge_47 : decode cX7_bridge 47 = .ok (.ireturn, 1) := by decide +kernel
theorem dX7_bridge_48 : decode cX7_bridge 48 = .ok (.aload_n 0, 1) := by decide +kernel
theorem dX7_bridge_49 : decode cX7_bridge 49 = .ok (.getfield 27, 3) := by decide +kernel
theorem dX7_bridge_52 : decode cX7_bridge 52 = .ok (.aload_n 0, 1) := by decide +kernel
theorem dX7_bridge_53 : decode cX7_bridge 53 = .ok (.getfield 34, 3) := by decide +kernel
theorem dX7_bridge_56 : decode cX7_bridge 56 = .ok (.getfield 135, 3) := by decide +kernel
theorem dX7_bridge_59 : decode cX7_bridge 59 = .ok (.invokevirtual 136, 3) := by decide +kernel
theorem dX7_bridge_62 : decode cX7_bridge 62 = .ok (.aload_n 0, 1) := by decide +kernel
theorem dX7_bridge_63 : decode cX7_bridge 63 = .ok (.getfield 39, 3) := by decide +kernel
theorem dX7_bridge_66 : decode cX7_bridge 66 = .ok (.aload_n 0, 1) := by decide +kernel
theorem dX7_bridge_67 : decode cX7_bridge 67 = .ok (.getfield 27, 3) := by decide +kernel
theorem dX7_bridge_70 : decode cX7_bridge 70 = .ok (.invokevirtual 140, 3) := by decide +kernel
theorem dX7_bridge_73 : decode cX7_bridge 73 = .ok (.iconst 0, 1) := by decide +kernel
theorem dX7_bridge_74 : decode cX7_bridge 74 = .ok (.istore_n 2, 1) := by decide +kernel
theorem dX7_bridge_75 : decode cX7_bridge 75 = .ok (.iload_n 2, 1) := by decide +kernel
theorem dX7_bridge_76 : decode cX7_bridge 76 = .ok (.iconst 3, 1) := by decide +kernel
theorem dX7_bridge_77 : decode cX7_bridge 77 = .ok (.if_icmp .ge 19, 3) := by decide +kernel
theorem dX7_bridge_80 : decode cX7_bridge 80 = .ok (.aload_n 0, 1) := by decide +kernel
theorem dX7_bridge_81 : decode cX7_bridge 81 = .ok (.getfield 20, 3) := by decide +kernel
theorem dX7_bridge_84 : decode cX7_bridge 84 = .ok (.iload_n 2, 1) := by decide +kernel
theorem dX7_bridge_85 : decode cX7_bridge 85 = .ok (.aaload, 1) := by decide +kernel
theorem dX7_bridge_86 : decode cX7_bridge 86 = .ok (.iconst 0, 1) := by decide +kernel
theorem dX7_bridge_87 : decode cX7_bridge 87 = .ok (.putfield 142, 3) := by decide +kernel
theorem dX7_bridge_90 : decode cX7_bridge 90 = .ok (.iinc 2 1, 3) := by decide +kernel
theorem dX7_bridge_93 : decode cX7_bridge 93 = .ok (.goto (-18), 3) := by decide +kernel
theorem dX7_bridge_96 : decode cX7_bridge 96 = .ok (.aload_n 0, 1) := by decide +kernel
theorem dX7_bridge_97 : decode cX7_bridge 97 = .ok (.getfield 27, 3) := by decide +kernel
theorem dX7_bridge_100 : decode cX7_bridge 100 = .ok (.getfield 143, 3) := by decide +kernel
theorem dX7_bridge_103 : decode cX7_bridge 103 = .ok (.ireturn, 1) := by decide +kernel
def P_X7_bridge_75 (k_96 : PM Int32) (p0 : Nat) : Nat → Int32 → PM Int32
  | 0, _ => failM
  | n + 1, q2 =>
    ifB (decide (3 ≤ q2)) (
    k_96) (
    getR 7 2 p0 fun v17 =>
    aldR v17 q2 fun v18 =>
    setZ 3 6 v18 0 <|
    P_X7_bridge_75 k_96 p0 n (q2 + 1))
def P_X7_bridge (a0 : Nat) (x1 : Int32) : PM Int32 :=
cll0 (P_X7_isText x1) fun v1 =>
ifB (decide (¬ v1 = 0)) (
getR 7 1 a0 fun v2 =>
aldR v2 x1 fun v3 =>
getI 5 3 v3 fun v4 =>
ifB (decide (¬ v4 = 0)) (
getR 7 4 a0 fun v5 =>
getR 7 1 a0 fun v6 =>
aldR v6 x1 fun v7 =>
cllV 4 v5 (P_X4_read v5 v7) fun v8 =>
ifB (decide (v8 = ((-9)))) (
getR 7 3 a0 fun v9 =>
getR 7 4 a0 fun v10 =>
getR 4 0 v10 fun v11 =>
cllV 0 v9 (P_X0_become v9 v11) fun _ =>
getR 7 5 a0 fun v12 =>
getR 7 3 a0 fun v13 =>
cllV 3 v12 (P_X3_begin v12 v13) fun _ =>
jn (
getR 7 3 a0 fun v14 =>
getI 0 4 v14 fun v15 =>
pureM v15) fun k16 =>
P_X7_bridge_75 k16 a0 4000 0) (
pureM ((-4)))) (
cllV 7 a0 (P_X7_found a0 1) fun v19 =>
pureM v19)) (
pureM ((-1)))
set_option maxHeartbeats 4000000 in
set_option maxRecDepth 100000 in
theorem W_X7_bridge_75 {Γ : Cx} (ok : OKc Γ cX7_bridge RX7 5 "bridge") (okr : OKr Γ cX7_bridge (some .int)) (k_96 : PM Int32) (p0 : Nat) (hk_96 : SW Γ iI 96 [some (.ref p0), none, none] [] (k_96)) : ∀ (n : Nat) (q2 : Int32), SW Γ iI 75 [some (.ref p0), none, some (.int q2)] [] (P_X7_bridge_75 k_96 p0 n q2) := by
  intro n
  induction n with
  | zero =>
    intros
    exact sw_fail
  | succ n ih =>
    intro q2
    unfold P_X7_bridge_75
    refine sw_iload_n (z := q2) (pc' := 76) ok dX7_bridge_75 rfl rfl ?_
    refine sw_iconst (v := 3) (pc' := 77) ok dX7_bridge_76 rfl cc_iconst_3 ?_
    refine sw_icmp_ge (tgt := 96) (pc' := 80) ok dX7_bridge_77 (by decide) rfl ?_ ?_
    · refine sw_fg (l' := [some (.ref p0), none, none]) [true, false, false] rfl ?_
      exact hk_96
    refine sw_aload_n (z := p0) (pc' := 81) ok dX7_bridge_80 rfl rfl ?_
    refine sw_getR (pc' := 84) ok (fr_X7_20.g) dX7_bridge_81 rfl (fun v17 => ?_)
    refine sw_iload_n (z := q2) (pc' := 85) ok dX7_bridge_84 rfl rfl ?_
    refine sw_aldR (pc' := 86) ok dX7_bridge_85 rfl (fun v18 => ?_)
    refine sw_iconst (v := 0) (pc' := 87) ok dX7_bridge_86 rfl cc_iconst_0 ?_
    refine sw_setZ (pc' := 90) ok fr_X7_142 dX7_bridge_87 (fun h => by cases h) rfl ?_
    refine sw_iinc (z := q2) (v := q2 + 1) (pc' := 93) (l' := [some (.ref p0), none, some (.int (q2 + 1))]) ok dX7_bridge_90 rfl rfl (by rw [cc_iconst_1]) rfl ?_
    refine sw_goto (tgt := 75) ok dX7_bridge_93 (by decide) ?_
    exact ih (q2 + 1)
set_option maxHeartbeats 4000000 in
set_option maxRecDepth 100000 in
theorem W_X7_bridge {Γ : Cx} (ok : OKc Γ cX7_bridge RX7 5 "bridge") (okr : OKr Γ cX7_bridge (some .int)) (a0 : Nat) (x1 : Int32) : SW Γ iI 0 [some (.ref a0), some (.int x1), none] [] (P_X7_bridge a0 x1) := by
  unfold P_X7_bridge
  refine sw_iload_n (z := x1) (pc' := 1) ok dX7_bridge_0 rfl rfl ?_
  refine sw_cll0_I (st := []) (as := [.int x1]) (pc' := 4) ok (S_X7_isText x1) (by decide) lk_X7_128 rfl dX7_bridge_1 rfl (Nat.le_of_ble_eq_true rfl) rfl (fun v1 => ?_)
  refine sw_if_ne (tgt := 9) (pc' := 7) ok dX7_bridge_4 (by decide) rfl ?_ ?_
  · refine sw_aload_n (z := a0) (pc' := 10) ok dX7_bridge_9 rfl rfl ?_
    refine sw_getR (pc' := 13) ok (fr_X7_15.g) dX7_bridge_10 rfl (fun v2 => ?_)
    refine sw_iload_n (z := x1) (pc' := 14) ok dX7_bridge_13 rfl rfl ?_
    refine sw_aldR (pc' := 15) ok dX7_bridge_14 rfl (fun v3 => ?_)
    refine sw_getI (pc' := 18) ok (fr_X7_104.g) dX7_bridge_15 rfl (fun v4 => ?_)
    refine sw_if_ne (tgt := 27) (pc' := 21) ok dX7_bridge_18 (by decide) rfl ?_ ?_
    · refine sw_aload_n (z := a0) (pc' := 28) ok dX7_bridge_27 rfl rfl ?_
      refine sw_getR (pc' := 31) ok (fr_X7_34.g) dX7_bridge_28 rfl (fun v5 => ?_)
      refine sw_aload_n (z := a0) (pc' := 32) ok dX7_bridge_31 rfl rfl ?_
      refine sw_getR (pc' := 35) ok (fr_X7_15.g) dX7_bridge_32 rfl (fun v6 => ?_)
      refine sw_iload_n (z := x1) (pc' := 36) ok dX7_bridge_35 rfl rfl ?_
      refine sw_aldR (pc' := 37) ok dX7_bridge_36 rfl (fun v7 => ?_)
      refine sw_cllV_I (st := []) (as := [.ref v7]) (pc' := 40) ok (S_X4_read v5 v7) (by decide) lk_X7_131 rfl dX7_bridge_37 rfl (Nat.le_of_ble_eq_true rfl) rfl (fun v8 => ?_)
      refine sw_bipush (v := (-9)) (pc' := 42) ok dX7_bridge_40 rfl cc_bipush_m9 ?_
      refine sw_icmp_eq (tgt := 48) (pc' := 45) ok dX7_bridge_42 (by decide) rfl ?_ ?_
      · refine sw_aload_n (z := a0) (pc' := 49) ok dX7_bridge_48 rfl rfl ?_
        refine sw_getR (pc' := 52) ok (fr_X7_27.g) dX7_bridge_49 rfl (fun v9 => ?_)
        refine sw_aload_n (z := a0) (pc' := 53) ok dX7_bridge_52 rfl rfl ?_
        refine sw_getR (pc' := 56) ok (fr_X7_34.g) dX7_bridge_53 rfl (fun v10 => ?_)
        refine sw_getR (pc' := 59) ok (fr_X7_135) dX7_bridge_56 rfl (fun v11 => ?_)
        refine sw_cllV_U (st := []) (as := [.ref v11]) (pc' := 62) ok (S_X0_become v9 v11) (by decide) lk_X7_136 rfl dX7_bridge_59 rfl (Nat.le_of_ble_eq_true rfl) rfl (fun _ => ?_)
        refine sw_aload_n (z := a0) (pc' := 63) ok dX7_bridge_62 rfl rfl ?_
        refine sw_getR (pc' := 66) ok (fr_X7_39.g) dX7_bridge_63 rfl (fun v12 => ?_)
        refine sw_aload_n (z := a0) (pc' := 67) ok dX7_bridge_66 rfl rfl ?_
        refine sw_getR (pc' := 70) ok (fr_X7_27.g) dX7_bridge_67 rfl (fun v13 => ?_)
        refine sw_cllV_U (st := []) (as := [.ref v13]) (pc' := 73) ok (S_X3_begin v12 v13) (by decide) lk_X7_140 rfl dX7_bridge_70 rfl (Nat.le_of_ble_eq_true rfl) rfl (fun _ => ?_)
        refine sw_iconst (v := 0) (pc' := 74) ok dX7_bridge_73 rfl cc_iconst_0 ?_
        refine sw_istore_n (pc' := 75) (l' := [some (.ref a0), some (.int x1), some (.int 0)]) ok dX7_bridge_74 rfl (Nat.le_of_ble_eq_true rfl) rfl ?_
        refine sw_jn (fun k16 : PM Int32 => SW Γ iI 96 [some (.ref a0), none, none] [] (k16)) ?_ (fun k16 hk16 => ?_)
        · refine sw_aload_n (z := a0) (pc' := 97) ok dX7_bridge_96 rfl rfl ?_
          refine sw_getR (pc' := 100) ok (fr_X7_27.g) dX7_bridge_97 rfl (fun v14 => ?_)
          refine sw_getI (pc' := 103) ok (fr_X7_143.g) dX7_bridge_100 rfl (fun v15 => ?_)
          exact sw_ret ok okr dX7_bridge_103 trivial rfl
        refine sw_fg (l' := [some (.ref a0), none, some (.int 0)]) [true, false, true] rfl ?_
        exact W_X7_bridge_75 ok okr k16 a0 hk16 4000 0
      refine sw_bipush (v := (-4)) (pc' := 47) ok dX7_bridge_45 rfl cc_bipush_m4 ?_
      exact sw_ret ok okr dX7_bridge_47 trivial rfl
    refine sw_aload_n (z := a0) (pc' := 22) ok dX7_bridge_21 rfl rfl ?_
    refine sw_iconst (v := 1) (pc' := 23) ok dX7_bridge_22 rfl cc_iconst_1 ?_
    refine sw_cllV_I (st := []) (as := [.int 1]) (pc' := 26) ok (S_X7_found a0 1) (by decide) lk_X7_82 rfl dX7_bridge_23 rfl (Nat.le_of_ble_eq_true rfl) rfl (fun v19 => ?_)
    exact sw_ret ok okr dX7_bridge_26 trivial rfl
  refine sw_iconst (v := (-1)) (pc' := 8) ok dX7_bridge_7 rfl cc_iconst_m1 ?_
  exact sw_ret ok okr dX7_bridge_8 trivial rfl
theorem S_X7_bridge (a0 : Nat) (x1 : Int32) : Sim 5 yX7_bridge cX7_bridge 3 (some .int) iI [.ref a0, .int x1] (P_X7_bridge a0 x1) := Sim.intro wd_1007 (by decide) (by decide +kernel) (Nat.le_of_ble_eq_true rfl) (fun Γ ok okr => W_X7_bridge ok okr a0 x1)
theorem dX7_fact_0 : decode cX7_fact 0 = .ok (.aload_n 0, 1) := by decide +kernel
theorem dX7_fact_1 : decode cX7_fact 1 = .ok (.getfield 27, 3) := by decide +kernel
theorem dX7_fact_4 : decode cX7_fact 4 = .ok (.iload_n 1, 1) := by decide +kernel
theorem dX7_fact_5 : decode cX7_fact 5 = .ok (.invokevirtual 144, 3) := by decide +kernel
theorem dX7_fact_8 : decode cX7_fact 8 = .ok (.ifCond .ne 5, 3) := by decide +kernel
theorem dX7_fact_11 : decode cX7_fact 11 = .ok (.iconst 0, 1) := by decide +kernel
theorem dX7_fact_12 : decode cX7_fact 12 = .ok (.ireturn, 1) := by decide +kernel
theorem dX7_fact_13 : decode cX7_fact 13 = .ok (.iload_n 2, 1) := by decide +kernel
theorem dX7_fact_14 : decode cX7_fact 14 = .ok (.tableswitch 90 0 4 #[34, 44, 54, 64, 77], 34) := by decide +kernel
theorem dX7_fact_48 : decode cX7_fact 48 = .ok (.aload_n 0, 1) := by decide +kernel
theorem dX7_fact_49 : decode cX7_fact 49 = .ok (.getfield 27, 3) := by decide +kernel
theorem dX7_fact_52 : decode cX7_fact 52 = .ok (.getfield 150, 3) := by decide +kernel
theorem dX7_fact_55 : decode cX7_fact 55 = .ok (.iload_n 1, 1) := by decide +kernel
theorem dX7_fact_56 : decode cX7_fact 56 = .ok (.iaload, 1) := by decide +kernel
theorem dX7_fact_57 : decode cX7_fact 57 = .ok (.ireturn, 1) := by decide +kernel
theorem dX7_fact_58 : decode cX7_fact 58 = .ok (.aload_n 0, 1) := by decide +kernel
theorem dX7_fact_59 : decode cX7_fact 59 = .ok (.getfield 27, 3) := by decide +kernel
theorem dX7_fact_62 : decode cX7_fact 62 = .ok (.getfield 291, 3) := by decide +kernel
theorem dX7_fact_65 : decode cX7_fact 65 = .ok (.iload_n 1, 1) := by decide +kernel
theorem dX7_fact_66 : decode cX7_fact 66 = .ok (.iaload, 1) := by decide +kernel
theorem dX7_fact_67 : decode cX7_fact 67 = .ok (.ireturn, 1) := by decide +kernel
theorem dX7_fact_68 : decode cX7_fact 68 = .ok (.aload_n 0, 1) := by decide +kernel
theorem dX7_fact_69 : decode cX7_fact 69 = .ok (.getfield 27, 3) := by decide +kernel
theorem dX7_fact_72 : decode cX7_fact 72 = .ok (.getfield 383, 3) := by decide +kernel
theorem dX7_fact_75 : decode cX7_fact 75 = .ok (.iload_n 1, 1) := by decide +kernel
theorem dX7_fact_76 : decode cX7_fact 76 = .ok (.iaload, 1) := by decide +kernel
theorem dX7_fact_77 : decode cX7_fact 77 = .ok (.ireturn, 1) := by decide +kernel
theorem dX7_fact_78 : decode cX7_fact 78 = .ok (.aload_n 0, 1) := by decide +kernel
theorem dX7_fact_79 : decode cX7_fact 79 = .ok (.getfield 39, 3) := by decide +kernel
theorem dX7_fact_82 : decode cX7_fact 82 = .ok (.getfield 156, 3) := by decide +kernel
theorem dX7_fact_85 : decode cX7_fact 85 = .ok (.getfield 166, 3) := by decide +kernel
theorem dX7_fact_88 : decode cX7_fact 88 = .ok (.iload_n 1, 1) := by decide +kernel
theorem dX7_fact_89 : decode cX7_fact 89 = .ok (.iaload, 1) := by decide +kernel
theorem dX7_fact_90 : decode cX7_fact 90 = .ok (.ireturn, 1) := by decide +kernel
theorem dX7_fact_91 : decode cX7_fact 91 = .ok (.aload_n 0, 1) := by decide +kernel
theorem dX7_fact_92 : decode cX7_fact 92 = .ok (.getfield 39, 3) := by decide +kernel
theorem dX7_fact_95 : decode cX7_fact 95 = .ok (.getfield 156, 3) := by decide +kernel
theorem dX7_fact_98 : decode cX7_fact 98 = .ok (.getfield 173, 3) := by decide +kernel
theorem dX7_fact_101 : decode cX7_fact 101 = .ok (.iload_n 1, 1) := by decide +kernel
theorem dX7_fact_102 : decode cX7_fact 102 = .ok (.iaload, 1) := by decide +kernel
theorem dX7_fact_103 : decode cX7_fact 103 = .ok (.ireturn, 1) := by decide +kernel
theorem dX7_fact_104 : decode cX7_fact 104 = .ok (.aload_n 0, 1) := by decide +kernel
theorem dX7_fact_105 : decode cX7_fact 105 = .ok (.getfield 27, 3) := by decide +kernel
theorem dX7_fact_108 : decode cX7_fact 108 = .ok (.getfield 386, 3) := by decide +kernel
theorem dX7_fact_111 : decode cX7_fact 111 = .ok (.iload_n 1, 1) := by decide +kernel
theorem dX7_fact_112 : decode cX7_fact 112 = .ok (.iaload, 1) := by decide +kernel
theorem dX7_fact_113 : decode cX7_fact 113 = .ok (.ireturn, 1) := by decide +kernel
def P_X7_fact (a0 : Nat) (x1 : Int32) (x2 : Int32) : PM Int32 :=
getR 7 3 a0 fun v1 =>
cllV 0 v1 (P_X0_has v1 x1) fun v2 =>
ifB (decide (¬ v2 = 0)) (
swT x2 0 [
getR 7 3 a0 fun v3 =>
getR 0 0 v3 fun v4 =>
ald v4 x1 fun v5 =>
pureM v5,
getR 7 3 a0 fun v6 =>
getR 0 1 v6 fun v7 =>
ald v7 x1 fun v8 =>
pureM v8,
getR 7 3 a0 fun v9 =>
getR 0 2 v9 fun v10 =>
ald v10 x1 fun v11 =>
pureM v11,
getR 7 5 a0 fun v12 =>
getR 3 0 v12 fun v13 =>
getR 1 0 v13 fun v14 =>
ald v14 x1 fun v15 =>
pureM v15,
getR 7 5 a0 fun v16 =>
getR 3 0 v16 fun v17 =>
getR 1 1 v17 fun v18 =>
ald v18 x1 fun v19 =>
pureM v19] (
getR 7 3 a0 fun v20 =>
getR 0 3 v20 fun v21 =>
ald v21 x1 fun v22 =>
pureM v22)) (
pureM 0)
set_option maxHeartbeats 4000000 in
set_option maxRecDepth 100000 in
theorem W_X7_fact {Γ : Cx} (ok : OKc Γ cX7_fact RX7 1 "fact") (okr : OKr Γ cX7_fact (some .int)) (a0 : Nat) (x1 : Int32) (x2 : Int32) : SW Γ iI 0 [some (.ref a0), some (.int x1), some (.int x2)] [] (P_X7_fact a0 x1 x2) := by
  unfold P_X7_fact
  refine sw_aload_n (z := a0) (pc' := 1) ok dX7_fact_0 rfl rfl ?_
  refine sw_getR (pc' := 4) ok (fr_X7_27.g) dX7_fact_1 rfl (fun v1 => ?_)
  refine sw_iload_n (z := x1) (pc' := 5) ok dX7_fact_4 rfl rfl ?_
  refine sw_cllV_I (st := []) (as := [.int x1]) (pc' := 8) ok (S_X0_has v1 x1) (by decide) lk_X7_144 rfl dX7_fact_5 rfl (Nat.le_of_ble_eq_true rfl) rfl (fun v2 => ?_)
  refine sw_if_ne (tgt := 13) (pc' := 11) ok dX7_fact_8 (by decide) rfl ?_ ?_
  · refine sw_iload_n (z := x2) (pc' := 14) ok dX7_fact_13 rfl rfl ?_
    refine sw_tsw (tgt := 104) ok dX7_fact_14 (by decide) (by rfl) ⟨⟨48, by decide, ?_⟩, ⟨58, by decide, ?_⟩, ⟨68, by decide, ?_⟩, ⟨78, by decide, ?_⟩, ⟨91, by decide, ?_⟩, trivial⟩ ?_
    · refine sw_aload_n (z := a0) (pc' := 49) ok dX7_fact_48 rfl rfl ?_
      refine sw_getR (pc' := 52) ok (fr_X7_27.g) dX7_fact_49 rfl (fun v3 => ?_)
      refine sw_getR (pc' := 55) ok (fr_X7_150) dX7_fact_52 rfl (fun v4 => ?_)
      refine sw_iload_n (z := x1) (pc' := 56) ok dX7_fact_55 rfl rfl ?_
      refine sw_ald (pc' := 57) ok dX7_fact_56 rfl (fun v5 => ?_)
      exact sw_ret ok okr dX7_fact_57 trivial rfl
    · refine sw_aload_n (z := a0) (pc' := 59) ok dX7_fact_58 rfl rfl ?_
      refine sw_getR (pc' := 62) ok (fr_X7_27.g) dX7_fact_59 rfl (fun v6 => ?_)
      refine sw_getR (pc' := 65) ok (fr_X7_291) dX7_fact_62 rfl (fun v7 => ?_)
      refine sw_iload_n (z := x1) (pc' := 66) ok dX7_fact_65 rfl rfl ?_
      refine sw_ald (pc' := 67) ok dX7_fact_66 rfl (fun v8 => ?_)
      exact sw_ret ok okr dX7_fact_67 trivial rfl
    · refine sw_aload_n (z := a0) (pc' := 69) ok dX7_fact_68 rfl rfl ?_
      refine sw_getR (pc' := 72) ok (fr_X7_27.g) dX7_fact_69 rfl (fun v9 => ?_)
      refine sw_getR (pc' := 75) ok (fr_X7_383) dX7_fact_72 rfl (fun v10 => ?_)
      refine sw_iload_n (z := x1) (pc' := 76) ok dX7_fact_75 rfl rfl ?_
      refine sw_ald (pc' := 77) ok dX7_fact_76 rfl (fun v11 => ?_)
      exact sw_ret ok okr dX7_fact_77 trivial rfl
    · refine sw_aload_n (z := a0) (pc' := 79) ok dX7_fact_78 rfl rfl ?_
      refine sw_getR (pc' := 82) ok (fr_X7_39.g) dX7_fact_79 rfl (fun v12 => ?_)
      refine sw_getR (pc' := 85) ok (fr_X7_156) dX7_fact_82 rfl (fun v13 => ?_)
      refine sw_getR (pc' := 88) ok (fr_X7_166) dX7_fact_85 rfl (fun v14 => ?_)
      refine sw_iload_n (z := x1) (pc' := 89) ok dX7_fact_88 rfl rfl ?_
      refine sw_ald (pc' := 90) ok dX7_fact_89 rfl (fun v15 => ?_)
      exact sw_ret ok okr dX7_fact_90 trivial rfl
    · refine sw_aload_n (z := a0) (pc' := 92) ok dX7_fact_91 rfl rfl ?_
      refine sw_getR (pc' := 95) ok (fr_X7_39.g) dX7_fact_92 rfl (fun v16 => ?_)
      refine sw_getR (pc' := 98) ok (fr_X7_156) dX7_fact_95 rfl (fun v17 => ?_)
      refine sw_getR (pc' := 101) ok (fr_X7_173) dX7_fact_98 rfl (fun v18 => ?_)
      refine sw_iload_n (z := x1) (pc' := 102) ok dX7_fact_101 rfl rfl ?_
      refine sw_ald (pc' := 103) ok dX7_fact_102 rfl (fun v19 => ?_)
      exact sw_ret ok okr dX7_fact_103 trivial rfl
    refine sw_aload_n (z := a0) (pc' := 105) ok dX7_fact_104 rfl rfl ?_
    refine sw_getR (pc' := 108) ok (fr_X7_27.g) dX7_fact_105 rfl (fun v20 => ?_)
    refine sw_getR (pc' := 111) ok (fr_X7_386) dX7_fact_108 rfl (fun v21 => ?_)
    refine sw_iload_n (z := x1) (pc' := 112) ok dX7_fact_111 rfl rfl ?_
    refine sw_ald (pc' := 113) ok dX7_fact_112 rfl (fun v22 => ?_)
    exact sw_ret ok okr dX7_fact_113 trivial rfl
  refine sw_iconst (v := 0) (pc' := 12) ok dX7_fact_11 rfl cc_iconst_0 ?_
  exact sw_ret ok okr dX7_fact_12 trivial rfl
theorem S_X7_fact (a0 : Nat) (x1 : Int32) (x2 : Int32) : Sim 1 yX7_fact cX7_fact 3 (some .int) iI [.ref a0, .int x1, .int x2] (P_X7_fact a0 x1 x2) := Sim.intro wd_1008 (by decide) (by decide +kernel) (Nat.le_of_ble_eq_true rfl) (fun Γ ok okr => W_X7_fact ok okr a0 x1 x2)
theorem dX7_one_0 : decode cX7_one 0 = .ok (.aload_n 0, 1) := by decide +kernel
theorem dX7_one_1 : decode cX7_one 1 = .ok (.getfield 27, 3) := by decide +kernel
theorem dX7_one_4 : decode cX7_one 4 = .ok (.iload_n 1, 1) := by decide +kernel
theorem dX7_one_5 : decode cX7_one 5 = .ok (.invokevirtual 144, 3) := by decide +kernel
theorem dX7_one_8 : decode cX7_one 8 = .ok (.ifCond .eq 13, 3) := by decide +kernel
theorem dX7_one_11 : decode cX7_one 11 = .ok (.iload_n 2, 1) := by decide +kernel
theorem dX7_one_12 : decode cX7_one 12 = .ok (.ifCond .lt 9, 3) := by decide +kernel
theorem dX7_one_15 : decode cX7_one 15 = .ok (.iload_n 2, 1) := by decide +kernel
theorem dX7_one_16 : decode cX7_one 16 = .ok (.bipush 6, 2) := by decide +kernel
theorem dX7_one_18 : decode cX7_one 18 = .ok (.if_icmp .lt 5, 3) := by decide +kernel
theorem dX7_one_21 : decode cX7_one 21 = .ok (.iconst (-1), 1) := by decide +kernel
theorem dX7_one_22 : decode cX7_one 22 = .ok (.ireturn, 1) := by decide +kernel
theorem dX7_one_23 : decode cX7_one 23 = .ok (.aload_n 0, 1) := by decide +kernel
theorem dX7_one_24 : decode cX7_one 24 = .ok (.aload_n 0, 1) := by decide +kernel
theorem dX7_one_25 : decode cX7_one 25 = .ok (.iload_n 1, 1) := by decide +kernel
theorem dX7_one_26 : decode cX7_one 26 = .ok (.iload_n 2, 1) := by decide +kernel
theorem dX7_one_27 : decode cX7_one 27 = .ok (.invokevirtual 147, 3) := by decide +kernel
theorem dX7_one_30 : decode cX7_one 30 = .ok (.invokevirtual 98, 3) := by decide +kernel
theorem dX7_one_33 : decode cX7_one 33 = .ok (.ireturn, 1) := by decide +kernel
def P_X7_one (a0 : Nat) (x1 : Int32) (x2 : Int32) : PM Int32 :=
getR 7 3 a0 fun v1 =>
cllV 0 v1 (P_X0_has v1 x1) fun v2 =>
ifB (decide (v2 = 0)) (
pureM ((-1))) (
ifB (decide (x2 < 0)) (
pureM ((-1))) (
ifB (decide (x2 < 6)) (
cllV 7 a0 (P_X7_fact a0 x1 x2) fun v3 =>
cllV 7 a0 (P_X7_tellAsked a0 v3) fun v4 =>
pureM v4) (
pureM ((-1)))))
set_option maxHeartbeats 4000000 in
set_option maxRecDepth 100000 in
theorem W_X7_one {Γ : Cx} (ok : OKc Γ cX7_one RX7 2 "one") (okr : OKr Γ cX7_one (some .int)) (a0 : Nat) (x1 : Int32) (x2 : Int32) : SW Γ iI 0 [some (.ref a0), some (.int x1), some (.int x2)] [] (P_X7_one a0 x1 x2) := by
  unfold P_X7_one
  refine sw_aload_n (z := a0) (pc' := 1) ok dX7_one_0 rfl rfl ?_
  refine sw_getR (pc' := 4) ok (fr_X7_27.g) dX7_one_1 rfl (fun v1 => ?_)
  refine sw_iload_n (z := x1) (pc' := 5) ok dX7_one_4 rfl rfl ?_
  refine sw_cllV_I (st := []) (as := [.int x1]) (pc' := 8) ok (S_X0_has v1 x1) (by decide) lk_X7_144 rfl dX7_one_5 rfl (Nat.le_of_ble_eq_true rfl) rfl (fun v2 => ?_)
  refine sw_if_eq (tgt := 21) (pc' := 11) ok dX7_one_8 (by decide) rfl ?_ ?_
  · refine sw_iconst (v := (-1)) (pc' := 22) ok dX7_one_21 rfl cc_iconst_m1 ?_
    exact sw_ret ok okr dX7_one_22 trivial rfl
  refine sw_iload_n (z := x2) (pc' := 12) ok dX7_one_11 rfl rfl ?_
  refine sw_if_lt (tgt := 21) (pc' := 15) ok dX7_one_12 (by decide) rfl ?_ ?_
  · refine sw_iconst (v := (-1)) (pc' := 22) ok dX7_one_21 rfl cc_iconst_m1 ?_
    exact sw_ret ok okr dX7_one_22 trivial rfl
  refine sw_iload_n (z := x2) (pc' := 16) ok dX7_one_15 rfl rfl ?_
  refine sw_bipush (v := 6) (pc' := 18) ok dX7_one_16 rfl cc_bipush_6 ?_
  refine sw_icmp_lt (tgt := 23) (pc' := 21) ok dX7_one_18 (by decide) rfl ?_ ?_
  · refine sw_aload_n (z := a0) (pc' := 24) ok dX7_one_23 rfl rfl ?_
    refine sw_aload_n (z := a0) (pc' := 25) ok dX7_one_24 rfl rfl ?_
    refine sw_iload_n (z := x1) (pc' := 26) ok dX7_one_25 rfl rfl ?_
    refine sw_iload_n (z := x2) (pc' := 27) ok dX7_one_26 rfl rfl ?_
    refine sw_cllV_I (st := [.ref a0]) (as := [.int x1, .int x2]) (pc' := 30) ok (S_X7_fact a0 x1 x2) (by decide) lk_X7_147 rfl dX7_one_27 rfl (Nat.le_of_ble_eq_true rfl) rfl (fun v3 => ?_)
    refine sw_cllV_I (st := []) (as := [.int v3]) (pc' := 33) ok (S_X7_tellAsked a0 v3) (by decide) lk_X7_98 rfl dX7_one_30 rfl (Nat.le_of_ble_eq_true rfl) rfl (fun v4 => ?_)
    exact sw_ret ok okr dX7_one_33 trivial rfl
  refine sw_iconst (v := (-1)) (pc' := 22) ok dX7_one_21 rfl cc_iconst_m1 ?_
  exact sw_ret ok okr dX7_one_22 trivial rfl
theorem S_X7_one (a0 : Nat) (x1 : Int32) (x2 : Int32) : Sim 2 yX7_one cX7_one 3 (some .int) iI [.ref a0, .int x1, .int x2] (P_X7_one a0 x1 x2) := Sim.intro wd_1009 (by decide) (by decide +kernel) (Nat.le_of_ble_eq_true rfl) (fun Γ ok okr => W_X7_one ok okr a0 x1 x2)
theorem dX7_preachedPairs_0 : decode cX7_preachedPairs 0 = .ok (.iconst 0, 1) := by decide +kernel
theorem dX7_preachedPairs_1 : decode cX7_preachedPairs 1 = .ok (.istore_n 2, 1) := by decide +kernel
theorem dX7_preachedPairs_2 : decode cX7_preachedPairs 2 = .ok (.iconst 0, 1) := by decide +kernel
theorem dX7_preachedPairs_3 : decode cX7_preachedPairs 3 = .ok (.istore_n 3, 1) := by decide +kernel
theorem dX7_preachedPairs_4 : decode cX7_preachedPairs 4 = .ok (.iload_n 3, 1) := by decide +kernel
theorem dX7_preachedPairs_5 : decode cX7_preachedPairs 5 = .ok (.aload_n 0, 1) := by decide +kernel
theorem dX7_preachedPairs_6 : decode cX7_preachedPairs 6 = .ok (.getfield 27, 3) := by decide +kernel
theorem dX7_preachedPairs_9 : decode cX7_preachedPairs 9 = .ok (.getfield 143, 3) := by decide +kernel
theorem dX7_preachedPairs_12 : decode cX7_preachedPairs 12 = .ok (.if_icmp .ge 36, 3) := by decide +kernel
theorem dX7_preachedPairs_15 : decode cX7_preachedPairs 15 = .ok (.iload_n 3, 1) := by decide +kernel
theorem dX7_preachedPairs_16 : decode cX7_preachedPairs 16 = .ok (.iload_n 1, 1) := by decide +kernel
theorem dX7_preachedPairs_17 : decode cX7_preachedPairs 17 = .ok (.if_icmp .eq 25, 3) := by decide +kernel
theorem dX7_preachedPairs_20 : decode cX7_preachedPairs 20 = .ok (.aload_n 0, 1) := by decide +kernel
theorem dX7_preachedPairs_21 : decode cX7_preachedPairs 21 = .ok (.getfield 39, 3) := by decide +kernel
theorem dX7_preachedPairs_24 : decode cX7_preachedPairs 24 = .ok (.getfield 156, 3) := by decide +kernel
theorem dX7_preachedPairs_27 : decode cX7_preachedPairs 27 = .ok (.aload_n 0, 1) := by decide +kernel
theorem dX7_preachedPairs_28 : decode cX7_preachedPairs 28 = .ok (.getfield 27, 3) := by decide +kernel
theorem dX7_preachedPairs_31 : decode cX7_preachedPairs 31 = .ok (.iload_n 1, 1) := by decide +kernel
theorem dX7_preachedPairs_32 : decode cX7_preachedPairs 32 = .ok (.iload_n 3, 1) := by decide +kernel
theorem dX7_preachedPairs_33 : decode cX7_preachedPairs 33 = .ok (.invokevirtual 389, 3) := by decide +kernel
theorem dX7_preachedPairs_36 : decode cX7_preachedPairs 36 = .ok (.ifCond .le 6, 3) := by decide +kernel
theorem dX7_preachedPairs_39 : decode cX7_preachedPairs 39 = .ok (.iinc 2 1, 3) := by decide +kernel
theorem dX7_preachedPairs_42 : decode cX7_preachedPairs 42 = .ok (.iinc 3 1, 3) := by decide +kernel
theorem dX7_preachedPairs_45 : decode cX7_preachedPairs 45 = .ok (.goto (-41), 3) := by decide +kernel
theorem dX7_preachedPairs_48 : decode cX7_preachedPairs 48 = .ok (.iload_n 2, 1) := by decide +kernel
theorem dX7_preachedPairs_49 : decode cX7_preachedPairs 49 = .ok (.ireturn, 1) := by decide +kernel
def P_X7_preachedPairs_4 (p0 : Nat) (p1 : Int32) : Nat → Int32 → Int32 → PM Int32
  | 0, _, _ => failM
  | n + 1, q2, q3 =>
    getR 7 3 p0 fun v1 =>
    getI 0 4 v1 fun v2 =>
    ifB (decide (v2 ≤ q3)) (
    pureM q2) (
    jn (fun (j3 : Int32) =>
    P_X7_preachedPairs_4 p0 p1 n j3 (q3 + 1)) fun k4 =>
    ifB (decide (q3 = p1)) (
    k4 q2) (
    getR 7 5 p0 fun v5 =>
    getR 3 0 v5 fun v6 =>
    getR 7 3 p0 fun v7 =>
    cllV 1 v6 (P_X1_pairMeans v6 v7 p1 q3) fun v8 =>
    ifB (decide (v8 ≤ 0)) (
    k4 q2) (
    k4 (q2 + 1))))
def P_X7_preachedPairs (a0 : Nat) (x1 : Int32) : PM Int32 :=
P_X7_preachedPairs_4 a0 x1 4000 0 0
set_option maxHeartbeats 4000000 in
set_option maxRecDepth 100000 in
theorem W_X7_preachedPairs_4 {Γ : Cx} (ok : OKc Γ cX7_preachedPairs RX7 2 "preachedPairs") (okr : OKr Γ cX7_preachedPairs (some .int)) (p0 : Nat) (p1 : Int32) : ∀ (n : Nat) (q2 : Int32) (q3 : Int32), SW Γ iI 4 [some (.ref p0), some (.int p1), some (.int q2), some (.int q3)] [] (P_X7_preachedPairs_4 p0 p1 n q2 q3) := by
  intro n
  induction n with
  | zero =>
    intros
    exact sw_fail
  | succ n ih =>
    intro q2 q3
    unfold P_X7_preachedPairs_4
    refine sw_iload_n (z := q3) (pc' := 5) ok dX7_preachedPairs_4 rfl rfl ?_
    refine sw_aload_n (z := p0) (pc' := 6) ok dX7_preachedPairs_5 rfl rfl ?_
    refine sw_getR (pc' := 9) ok (fr_X7_27.g) dX7_preachedPairs_6 rfl (fun v1 => ?_)
    refine sw_getI (pc' := 12) ok (fr_X7_143.g) dX7_preachedPairs_9 rfl (fun v2 => ?_)
    refine sw_icmp_ge (tgt := 48) (pc' := 15) ok dX7_preachedPairs_12 (by decide) rfl ?_ ?_
    · refine sw_iload_n (z := q2) (pc' := 49) ok dX7_preachedPairs_48 rfl rfl ?_
      exact sw_ret ok okr dX7_preachedPairs_49 trivial rfl
    refine sw_iload_n (z := q3) (pc' := 16) ok dX7_preachedPairs_15 rfl rfl ?_
    refine sw_iload_n (z := p1) (pc' := 17) ok dX7_preachedPairs_16 rfl rfl ?_
    refine sw_jn (fun k4 : Int32 → PM Int32 => ∀ (j3 : Int32), SW Γ iI 42 [some (.ref p0), some (.int p1), some (.int j3), some (.int q3)] [] (k4 j3)) ?_ (fun k4 hk4 => ?_)
    · intro j3
      refine sw_iinc (z := q3) (v := q3 + 1) (pc' := 45) (l' := [some (.ref p0), some (.int p1), some (.int j3), some (.int (q3 + 1))]) ok dX7_preachedPairs_42 rfl rfl (by rw [cc_iconst_1]) rfl ?_
      refine sw_goto (tgt := 4) ok dX7_preachedPairs_45 (by decide) ?_
      exact ih j3 (q3 + 1)
    refine sw_icmp_eq (tgt := 42) (pc' := 20) ok dX7_preachedPairs_17 (by decide) rfl ?_ ?_
    · exact hk4 q2
    refine sw_aload_n (z := p0) (pc' := 21) ok dX7_preachedPairs_20 rfl rfl ?_
    refine sw_getR (pc' := 24) ok (fr_X7_39.g) dX7_preachedPairs_21 rfl (fun v5 => ?_)
    refine sw_getR (pc' := 27) ok (fr_X7_156) dX7_preachedPairs_24 rfl (fun v6 => ?_)
    refine sw_aload_n (z := p0) (pc' := 28) ok dX7_preachedPairs_27 rfl rfl ?_
    refine sw_getR (pc' := 31) ok (fr_X7_27.g) dX7_preachedPairs_28 rfl (fun v7 => ?_)
    refine sw_iload_n (z := p1) (pc' := 32) ok dX7_preachedPairs_31 rfl rfl ?_
    refine sw_iload_n (z := q3) (pc' := 33) ok dX7_preachedPairs_32 rfl rfl ?_
    refine sw_cllV_I (st := []) (as := [.ref v7, .int p1, .int q3]) (pc' := 36) ok (S_X1_pairMeans v6 v7 p1 q3) (by decide) lk_X7_389 rfl dX7_preachedPairs_33 rfl (Nat.le_of_ble_eq_true rfl) rfl (fun v8 => ?_)
    refine sw_if_le (tgt := 42) (pc' := 39) ok dX7_preachedPairs_36 (by decide) rfl ?_ ?_
    · exact hk4 q2
    refine sw_iinc (z := q2) (v := q2 + 1) (pc' := 42) (l' := [some (.ref p0), some (.int p1), some (.int (q2 + 1)), some (.int q3)]) ok dX7_preachedPairs_39 rfl rfl (by rw [cc_iconst_1]) rfl ?_
    exact hk4 (q2 + 1)
set_option maxHeartbeats 4000000 in
set_option maxRecDepth 100000 in
theorem W_X7_preachedPairs {Γ : Cx} (ok : OKc Γ cX7_preachedPairs RX7 2 "preachedPairs") (okr : OKr Γ cX7_preachedPairs (some .int)) (a0 : Nat) (x1 : Int32) : SW Γ iI 0 [some (.ref a0), some (.int x1), none, none] [] (P_X7_preachedPairs a0 x1) := by
  unfold P_X7_preachedPairs
  refine sw_iconst (v := 0) (pc' := 1) ok dX7_preachedPairs_0 rfl cc_iconst_0 ?_
  refine sw_istore_n (pc' := 2) (l' := [some (.ref a0), some (.int x1), some (.int 0), none]) ok dX7_preachedPairs_1 rfl (Nat.le_of_ble_eq_true rfl) rfl ?_
  refine sw_iconst (v := 0) (pc' := 3) ok dX7_preachedPairs_2 rfl cc_iconst_0 ?_
  refine sw_istore_n (pc' := 4) (l' := [some (.ref a0), some (.int x1), some (.int 0), some (.int 0)]) ok dX7_preachedPairs_3 rfl (Nat.le_of_ble_eq_true rfl) rfl ?_
  exact W_X7_preachedPairs_4 ok okr a0 x1 4000 0 0
theorem S_X7_preachedPairs (a0 : Nat) (x1 : Int32) : Sim 2 yX7_preachedPairs cX7_preachedPairs 4 (some .int) iI [.ref a0, .int x1] (P_X7_preachedPairs a0 x1) := Sim.intro wd_1010 (by decide) (by decide +kernel) (Nat.le_of_ble_eq_true rfl) (fun Γ ok okr => W_X7_preachedPairs ok okr a0 x1)
theorem dX7_mark_0 : decode cX7_mark 0 = .ok (.aload_n 0, 1) := by decide +kernel
theorem dX7_mark_1 : decode cX7_mark 1 = .ok (.getfield 27, 3) := by decide +kernel
theorem dX7_mark_4 : decode cX7_mark 4 = .ok (.iload_n 1, 1) := by decide +kernel
theorem dX7_mark_5 : decode cX7_mark 5 = .ok (.invokevirtual 144, 3) := by decide +kernel
theorem dX7_mark_8 : decode cX7_mark 8 = .ok (.ifCond .eq 12, 3) := by decide +kernel
theorem dX7_mark_11 : decode cX7_mark 11 = .ok (.iload_n 2, 1) := by decide +kernel
theorem dX7_mark_12 : decode cX7_mark 12 = .ok (.ifCond .le 8, 3) := by decide +kernel
theorem dX7_mark_15 : decode cX7_mark 15 = .ok (.iload_n 2, 1) := by decide +kernel
theorem dX7_mark_16 : decode cX7_mark 16 = .ok (.iconst 5, 1) := by decide +kernel
theorem dX7_mark_17 : decode cX7_mark 17 = .ok (.if_icmp .le 5, 3) := by decide +kernel
theorem dX7_mark_20 : decode cX7_mark 20 = .ok (.iconst (-1), 1) := by decide +kernel
theorem dX7_mark_21 : decode cX7_mark 21 = .ok (.ireturn, 1) := by decide +kernel
theorem dX7_mark_22 : decode cX7_mark 22 = .ok (.aload_n 0, 1) := by decide +kernel
theorem dX7_mark_23 : decode cX7_mark 23 = .ok (.getfield 27, 3) := by decide +kernel
theorem dX7_mark_26 : decode cX7_mark 26 = .ok (.getfield 150, 3) := by decide +kernel
theorem dX7_mark_29 : decode cX7_mark 29 = .ok (.iload_n 1, 1) := by decide +kernel
theorem dX7_mark_30 : decode cX7_mark 30 = .ok (.iaload, 1) := by decide +kernel
theorem dX7_mark_31 : decode cX7_mark 31 = .ok (.iload_n 2, 1) := by decide +kernel
theorem dX7_mark_32 : decode cX7_mark 32 = .ok (.invokestatic 153, 3) := by decide +kernel
theorem dX7_mark_35 : decode cX7_mark 35 = .ok (.ifCond .ne 9, 3) := by decide +kernel
theorem dX7_mark_38 : decode cX7_mark 38 = .ok (.aload_n 0, 1) := by decide +kernel
theorem dX7_mark_39 : decode cX7_mark 39 = .ok (.iconst 3, 1) := by decide +kernel
theorem dX7_mark_40 : decode cX7_mark 40 = .ok (.invokevirtual 82, 3) := by decide +kernel
theorem dX7_mark_43 : decode cX7_mark 43 = .ok (.ireturn, 1) := by decide +kernel
theorem dX7_mark_44 : decode cX7_mark 44 = .ok (.aload_n 0, 1) := by decide +kernel
theorem dX7_mark_45 : decode cX7_mark 45 = .ok (.getfield 39, 3) := by decide +kernel
theorem dX7_mark_48 : decode cX7_mark 48 = .ok (.getfield 156, 3) := by decide +kernel
theorem dX7_mark_51 : decode cX7_mark 51 = .ok (.astore_n 3, 1) := by decide +kernel
theorem dX7_mark_52 : decode cX7_mark 52 = .ok (.aload_n 3, 1) := by decide +kernel
theorem dX7_mark_53 : decode cX7_mark 53 = .ok (.invokevirtual 160, 3) := by decide +kernel
theorem dX7_mark_56 : decode cX7_mark 56 = .ok (.istore 4, 2) := by decide +kernel
theorem dX7_mark_58 : decode cX7_mark 58 = .ok (.iload_n 2, 1) := by decide +kernel
theorem dX7_mark_59 : decode cX7_mark 59 = .ok (.tableswitch 85 1 4 #[29, 54, 70, 79], 29) := by decide +kernel
theorem dX7_mark_88 : decode cX7_mark 88 = .ok (.aload_n 0, 1) := by decide +kernel
theorem dX7_mark_89 : decode cX7_mark 89 = .ok (.getfield 27, 3) := by decide +kernel
theorem dX7_mark_92 : decode cX7_mark 92 = .ok (.iload_n 1, 1) := by decide +kernel
theorem dX7_mark_93 : decode cX7_mark 93 = .ok (.iconst 0, 1) := by decide +kernel
theorem dX7_mark_94 : decode cX7_mark 94 = .ok (.aload_n 3, 1) := by decide +kernel
theorem dX7_mark_95 : decode cX7_mark 95 = .ok (.getfield 166, 3) := by decide +kernel
theorem dX7_mark_98 : decode cX7_mark 98 = .ok (.iload_n 1, 1) := by decide +kernel
theorem dX7_mark_99 : decode cX7_mark 99 = .ok (.iaload, 1) := by decide +kernel
theorem dX7_mark_100 : decode cX7_mark 100 = .ok (.iload 4, 2) := by decide +kernel
theorem dX7_mark_102 : decode cX7_mark 102 = .ok (.invokevirtual 169, 3) := by decide +kernel
theorem dX7_mark_105 : decode cX7_mark 105 = .ok (.aload_n 3, 1) := by decide +kernel
theorem dX7_mark_106 : decode cX7_mark 106 = .ok (.getfield 173, 3) := by decide +kernel
theorem dX7_mark_109 : decode cX7_mark 109 = .ok (.iload_n 1, 1) := by decide +kernel
theorem dX7_mark_110 : decode cX7_mark 110 = .ok (.iaload, 1) := by decide +kernel
theorem dX7_mark_111 : decode cX7_mark 111 = .ok (.isub, 1) := by decide +kernel
theorem dX7_mark_112 : decode cX7_mark 112 = .ok (.ireturn, 1) := by decide +kernel
theorem dX7_mark_113 : decode cX7_mark 113 = .ok (.iload 4, 2) := by decide +kernel
theorem dX7_mark_115 : decode cX7_mark 115 = .ok (.iconst 4, 1) := by decide +kernel
theorem dX7_mark_116 : decode cX7_mark 116 = .ok (.if_icmp .ge 7, 3) := by decide +kernel
theorem dX7_mark_119 : decode cX7_mark 119 = .ok (.iconst 0, 1) := by decide +kernel
theorem dX7_mark_120 : decode cX7_mark 120 = .ok (.goto 8, 3) := by decide +kernel
theorem dX7_mark_123 : decode cX7_mark 123 = .ok (.bipush 12, 2) := by decide +kernel
theorem dX7_mark_125 : decode cX7_mark 125 = .ok (.iload 4, 2) := by decide +kernel
theorem dX7_mark_127 : decode cX7_mark 127 = .ok (.isub, 1) := by decide +kernel
theorem dX7_mark_128 : decode cX7_mark 128 = .ok (.ireturn, 1) := by decide +kernel
theorem dX7_mark_129 : decode cX7_mark 129 = .ok (.iconst 0, 1) := by decide +kernel
theorem dX7_mark_130 : decode cX7_mark 130 = .ok (.iconst 3, 1) := by decide +kernel
theorem dX7_mark_131 : decode cX7_mark 131 = .ok (.iload 4, 2) := by decide +kernel
theorem dX7_mark_133 : decode cX7_mark 133 = .ok (.isub, 1) := by decide +kernel
theorem dX7_mark_134 : decode cX7_mark 134 = .ok (.invokestatic 176, 3) := by decide +kernel
theorem dX7_mark_137 : decode cX7_mark 137 = .ok (.ireturn, 1) := by decide +kernel
theorem dX7_mark_138 : decode cX7_mark 138 = .ok (.aload_n 0, 1) := by decide +kernel
theorem dX7_mark_139 : decode cX7_mark 139 = .ok (.iload_n 1, 1) := by decide +kernel
theorem dX7_mark_140 : decode cX7_mark 140 = .ok (.invokevirtual 181, 3) := by decide +kernel
theorem dX7_mark_143 : decode cX7_mark 143 = .ok (.ireturn, 1) := by decide +kernel
theorem dX7_mark_144 : decode cX7_mark 144 = .ok (.aload_n 3, 1) := by decide +kernel
theorem dX7_mark_145 : decode cX7_mark 145 = .ok (.getfield 173, 3) := by decide +kernel
theorem dX7_mark_148 : decode cX7_mark 148 = .ok (.iload_n 1, 1) := by decide +kernel
theorem dX7_mark_149 : decode cX7_mark 149 = .ok (.iaload, 1) := by decide +kernel
theorem dX7_mark_150 : decode cX7_mark 150 = .ok (.aload_n 0, 1) := by decide +kernel
theorem dX7_mark_151 : decode cX7_mark 151 = .ok (.getfield 27, 3) := by decide +kernel
theorem dX7_mark_154 : decode cX7_mark 154 = .ok (.iload_n 1, 1) := by decide +kernel
theorem dX7_mark_155 : decode cX7_mark 155 = .ok (.iconst 2, 1) := by decide +kernel
theorem dX7_mark_156 : decode cX7_mark 156 = .ok (.aload_n 3, 1) := by decide +kernel
theorem dX7_mark_157 : decode cX7_mark 157 = .ok (.getfield 166, 3) := by decide +kernel
theorem dX7_mark_160 : decode cX7_mark 160 = .ok (.iload_n 1, 1) := by decide +kernel
theorem dX7_mark_161 : decode cX7_mark 161 = .ok (.iaload, 1) := by decide +kernel
theorem dX7_mark_162 : decode cX7_mark 162 = .ok (.iload 4, 2) := by decide +kernel
theorem dX7_mark_164 : decode cX7_mark 164 = .ok (.invokevirtual 169, 3) := by decide +kernel
theorem dX7_mark_167 : decode cX7_mark 167 = .ok (.isub, 1) := by decide +kernel
theorem dX7_mark_168 : decode cX7_mark 168 = .ok (.ireturn, 1) := by decide +kernel
def P_X7_mark (a0 : Nat) (x1 : Int32) (x2 : Int32) : PM Int32 :=
getR 7 3 a0 fun v1 =>
cllV 0 v1 (P_X0_has v1 x1) fun v2 =>
ifB (decide (v2 = 0)) (
pureM ((-1))) (
ifB (decide (x2 ≤ 0)) (
pureM ((-1))) (
ifB (decide (x2 ≤ 5)) (
getR 7 3 a0 fun v3 =>
getR 0 0 v3 fun v4 =>
ald v4 x1 fun v5 =>
cll0 (P_X0_isOfKind v5 x2) fun v6 =>
ifB (decide (¬ v6 = 0)) (
getR 7 5 a0 fun v7 =>
getR 3 0 v7 fun v8 =>
cllV 1 v8 (P_X1_hour v8) fun v9 =>
swT x2 1 [
getR 7 3 a0 fun v10 =>
getR 1 0 v8 fun v11 =>
ald v11 x1 fun v12 =>
cllV 0 v10 (P_X0_tellsAs v10 x1 0 v12 v9) fun v13 =>
getR 1 1 v8 fun v14 =>
ald v14 x1 fun v15 =>
pureM (v13 - v15),
ifB (decide (4 ≤ v9)) (
pureM (12 - v9)) (
pureM 0),
cll0 (P_J9_max_7cf53 0 (3 - v9)) fun v16 =>
pureM v16,
cllV 7 a0 (P_X7_preachedPairs a0 x1) fun v17 =>
pureM v17] (
getR 1 1 v8 fun v18 =>
ald v18 x1 fun v19 =>
getR 7 3 a0 fun v20 =>
getR 1 0 v8 fun v21 =>
ald v21 x1 fun v22 =>
cllV 0 v20 (P_X0_tellsAs v20 x1 2 v22 v9) fun v23 =>
pureM (v19 - v23))) (
cllV 7 a0 (P_X7_found a0 3) fun v24 =>
pureM v24)) (
pureM ((-1)))))
set_option maxHeartbeats 4000000 in
set_option maxRecDepth 100000 in
theorem W_X7_mark {Γ : Cx} (ok : OKc Γ cX7_mark RX7 3 "mark") (okr : OKr Γ cX7_mark (some .int)) (a0 : Nat) (x1 : Int32) (x2 : Int32) : SW Γ iI 0 [some (.ref a0), some (.int x1), some (.int x2), none, none] [] (P_X7_mark a0 x1 x2) := by
  unfold P_X7_mark
  refine sw_aload_n (z := a0) (pc' := 1) ok dX7_mark_0 rfl rfl ?_
  refine sw_getR (pc' := 4) ok (fr_X7_27.g) dX7_mark_1 rfl (fun v1 => ?_)
  refine sw_iload_n (z := x1) (pc' := 5) ok dX7_mark_4 rfl rfl ?_
  refine sw_cllV_I (st := []) (as := [.int x1]) (pc' := 8) ok (S_X0_has v1 x1) (by decide) lk_X7_144 rfl dX7_mark_5 rfl (Nat.le_of_ble_eq_true rfl) rfl (fun v2 => ?_)
  refine sw_if_eq (tgt := 20) (pc' := 11) ok dX7_mark_8 (by decide) rfl ?_ ?_
  · refine sw_iconst (v := (-1)) (pc' := 21) ok dX7_mark_20 rfl cc_iconst_m1 ?_
    exact sw_ret ok okr dX7_mark_21 trivial rfl
  refine sw_iload_n (z := x2) (pc' := 12) ok dX7_mark_11 rfl rfl ?_
  refine sw_if_le (tgt := 20) (pc' := 15) ok dX7_mark_12 (by decide) rfl ?_ ?_
  · refine sw_iconst (v := (-1)) (pc' := 21) ok dX7_mark_20 rfl cc_iconst_m1 ?_
    exact sw_ret ok okr dX7_mark_21 trivial rfl
  refine sw_iload_n (z := x2) (pc' := 16) ok dX7_mark_15 rfl rfl ?_
  refine sw_iconst (v := 5) (pc' := 17) ok dX7_mark_16 rfl cc_iconst_5 ?_
  refine sw_icmp_le (tgt := 22) (pc' := 20) ok dX7_mark_17 (by decide) rfl ?_ ?_
  · refine sw_aload_n (z := a0) (pc' := 23) ok dX7_mark_22 rfl rfl ?_
    refine sw_getR (pc' := 26) ok (fr_X7_27.g) dX7_mark_23 rfl (fun v3 => ?_)
    refine sw_getR (pc' := 29) ok (fr_X7_150) dX7_mark_26 rfl (fun v4 => ?_)
    refine sw_iload_n (z := x1) (pc' := 30) ok dX7_mark_29 rfl rfl ?_
    refine sw_ald (pc' := 31) ok dX7_mark_30 rfl (fun v5 => ?_)
    refine sw_iload_n (z := x2) (pc' := 32) ok dX7_mark_31 rfl rfl ?_
    refine sw_cll0_I (st := []) (as := [.int v5, .int x2]) (pc' := 35) ok (S_X0_isOfKind v5 x2) (by decide) lk_X7_153 rfl dX7_mark_32 rfl (Nat.le_of_ble_eq_true rfl) rfl (fun v6 => ?_)
    refine sw_if_ne (tgt := 44) (pc' := 38) ok dX7_mark_35 (by decide) rfl ?_ ?_
    · refine sw_aload_n (z := a0) (pc' := 45) ok dX7_mark_44 rfl rfl ?_
      refine sw_getR (pc' := 48) ok (fr_X7_39.g) dX7_mark_45 rfl (fun v7 => ?_)
      refine sw_getR (pc' := 51) ok (fr_X7_156) dX7_mark_48 rfl (fun v8 => ?_)
      refine sw_astore_n (pc' := 52) (l' := [some (.ref a0), some (.int x1), some (.int x2), some (.ref v8), none]) ok dX7_mark_51 rfl (Nat.le_of_ble_eq_true rfl) rfl ?_
      refine sw_aload_n (z := v8) (pc' := 53) ok dX7_mark_52 rfl rfl ?_
      refine sw_cllV_I (st := []) (as := []) (pc' := 56) ok (S_X1_hour v8) (by decide) lk_X7_160 rfl dX7_mark_53 rfl (Nat.le_of_ble_eq_true rfl) rfl (fun v9 => ?_)
      refine sw_istore (pc' := 58) (l' := [some (.ref a0), some (.int x1), some (.int x2), some (.ref v8), some (.int v9)]) ok dX7_mark_56 rfl (Nat.le_of_ble_eq_true rfl) rfl ?_
      refine sw_iload_n (z := x2) (pc' := 59) ok dX7_mark_58 rfl rfl ?_
      refine sw_tsw (tgt := 144) ok dX7_mark_59 (by decide) (by rfl) ⟨⟨88, by decide, ?_⟩, ⟨113, by decide, ?_⟩, ⟨129, by decide, ?_⟩, ⟨138, by decide, ?_⟩, trivial⟩ ?_
      · refine sw_aload_n (z := a0) (pc' := 89) ok dX7_mark_88 rfl rfl ?_
        refine sw_getR (pc' := 92) ok (fr_X7_27.g) dX7_mark_89 rfl (fun v10 => ?_)
        refine sw_iload_n (z := x1) (pc' := 93) ok dX7_mark_92 rfl rfl ?_
        refine sw_iconst (v := 0) (pc' := 94) ok dX7_mark_93 rfl cc_iconst_0 ?_
        refine sw_aload_n (z := v8) (pc' := 95) ok dX7_mark_94 rfl rfl ?_
        refine sw_getR (pc' := 98) ok (fr_X7_166) dX7_mark_95 rfl (fun v11 => ?_)
        refine sw_iload_n (z := x1) (pc' := 99) ok dX7_mark_98 rfl rfl ?_
        refine sw_ald (pc' := 100) ok dX7_mark_99 rfl (fun v12 => ?_)
        refine sw_iload (z := v9) (pc' := 102) ok dX7_mark_100 rfl rfl ?_
        refine sw_cllV_I (st := []) (as := [.int x1, .int 0, .int v12, .int v9]) (pc' := 105) ok (S_X0_tellsAs v10 x1 0 v12 v9) (by decide) lk_X7_169 rfl dX7_mark_102 rfl (Nat.le_of_ble_eq_true rfl) rfl (fun v13 => ?_)
        refine sw_aload_n (z := v8) (pc' := 106) ok dX7_mark_105 rfl rfl ?_
        refine sw_getR (pc' := 109) ok (fr_X7_173) dX7_mark_106 rfl (fun v14 => ?_)
        refine sw_iload_n (z := x1) (pc' := 110) ok dX7_mark_109 rfl rfl ?_
        refine sw_ald (pc' := 111) ok dX7_mark_110 rfl (fun v15 => ?_)
        refine sw_isub (pc' := 112) ok dX7_mark_111 rfl ?_
        exact sw_ret ok okr dX7_mark_112 trivial rfl
      · refine sw_iload (z := v9) (pc' := 115) ok dX7_mark_113 rfl rfl ?_
        refine sw_iconst (v := 4) (pc' := 116) ok dX7_mark_115 rfl cc_iconst_4 ?_
        refine sw_icmp_ge (tgt := 123) (pc' := 119) ok dX7_mark_116 (by decide) rfl ?_ ?_
        · refine sw_bipush (v := 12) (pc' := 125) ok dX7_mark_123 rfl cc_bipush_12 ?_
          refine sw_iload (z := v9) (pc' := 127) ok dX7_mark_125 rfl rfl ?_
          refine sw_isub (pc' := 128) ok dX7_mark_127 rfl ?_
          exact sw_ret ok okr dX7_mark_128 trivial rfl
        refine sw_iconst (v := 0) (pc' := 120) ok dX7_mark_119 rfl cc_iconst_0 ?_
        refine sw_goto (tgt := 128) ok dX7_mark_120 (by decide) ?_
        exact sw_ret ok okr dX7_mark_128 trivial rfl
      · refine sw_iconst (v := 0) (pc' := 130) ok dX7_mark_129 rfl cc_iconst_0 ?_
        refine sw_iconst (v := 3) (pc' := 131) ok dX7_mark_130 rfl cc_iconst_3 ?_
        refine sw_iload (z := v9) (pc' := 133) ok dX7_mark_131 rfl rfl ?_
        refine sw_isub (pc' := 134) ok dX7_mark_133 rfl ?_
        refine sw_cll0_I (st := []) (as := [.int 0, .int (3 - v9)]) (pc' := 137) ok (S_J9_max_7cf53 0 (3 - v9)) (by decide) lk_X7_176 rfl dX7_mark_134 rfl (Nat.le_of_ble_eq_true rfl) rfl (fun v16 => ?_)
        exact sw_ret ok okr dX7_mark_137 trivial rfl
      · refine sw_aload_n (z := a0) (pc' := 139) ok dX7_mark_138 rfl rfl ?_
        refine sw_iload_n (z := x1) (pc' := 140) ok dX7_mark_139 rfl rfl ?_
        refine sw_cllV_I (st := []) (as := [.int x1]) (pc' := 143) ok (S_X7_preachedPairs a0 x1) (by decide) lk_X7_181 rfl dX7_mark_140 rfl (Nat.le_of_ble_eq_true rfl) rfl (fun v17 => ?_)
        exact sw_ret ok okr dX7_mark_143 trivial rfl
      refine sw_aload_n (z := v8) (pc' := 145) ok dX7_mark_144 rfl rfl ?_
      refine sw_getR (pc' := 148) ok (fr_X7_173) dX7_mark_145 rfl (fun v18 => ?_)
      refine sw_iload_n (z := x1) (pc' := 149) ok dX7_mark_148 rfl rfl ?_
      refine sw_ald (pc' := 150) ok dX7_mark_149 rfl (fun v19 => ?_)
      refine sw_aload_n (z := a0) (pc' := 151) ok dX7_mark_150 rfl rfl ?_
      refine sw_getR (pc' := 154) ok (fr_X7_27.g) dX7_mark_151 rfl (fun v20 => ?_)
      refine sw_iload_n (z := x1) (pc' := 155) ok dX7_mark_154 rfl rfl ?_
      refine sw_iconst (v := 2) (pc' := 156) ok dX7_mark_155 rfl cc_iconst_2 ?_
      refine sw_aload_n (z := v8) (pc' := 157) ok dX7_mark_156 rfl rfl ?_
      refine sw_getR (pc' := 160) ok (fr_X7_166) dX7_mark_157 rfl (fun v21 => ?_)
      refine sw_iload_n (z := x1) (pc' := 161) ok dX7_mark_160 rfl rfl ?_
      refine sw_ald (pc' := 162) ok dX7_mark_161 rfl (fun v22 => ?_)
      refine sw_iload (z := v9) (pc' := 164) ok dX7_mark_162 rfl rfl ?_
      refine sw_cllV_I (st := [.int v19]) (as := [.int x1, .int 2, .int v22, .int v9]) (pc' := 167) ok (S_X0_tellsAs v20 x1 2 v22 v9) (by decide) lk_X7_169 rfl dX7_mark_164 rfl (Nat.le_of_ble_eq_true rfl) rfl (fun v23 => ?_)
      refine sw_isub (pc' := 168) ok dX7_mark_167 rfl ?_
      exact sw_ret ok okr dX7_mark_168 trivial rfl
    refine sw_aload_n (z := a0) (pc' := 39) ok dX7_mark_38 rfl rfl ?_
    refine sw_iconst (v := 3) (pc' := 40) ok dX7_mark_39 rfl cc_iconst_3 ?_
    refine sw_cllV_I (st := []) (as := [.int 3]) (pc' := 43) ok (S_X7_found a0 3) (by decide) lk_X7_82 rfl dX7_mark_40 rfl (Nat.le_of_ble_eq_true rfl) rfl (fun v24 => ?_)
    exact sw_ret ok okr dX7_mark_43 trivial rfl
  refine sw_iconst (v := (-1)) (pc' := 21) ok dX7_mark_20 rfl cc_iconst_m1 ?_
  exact sw_ret ok okr dX7_mark_21 trivial rfl
theorem S_X7_mark (a0 : Nat) (x1 : Int32) (x2 : Int32) : Sim 3 yX7_mark cX7_mark 5 (some .int) iI [.ref a0, .int x1, .int x2] (P_X7_mark a0 x1 x2) := Sim.intro wd_1011 (by decide) (by decide +kernel) (Nat.le_of_ble_eq_true rfl) (fun Γ ok okr => W_X7_mark ok okr a0 x1 x2)
theorem dX7_talk_0 : decode cX7_talk 0 = .ok (.aload_n 0, 1) := by decide +kernel
theorem dX7_talk_1 : decode cX7_talk 1 = .ok (.getfield 27, 3) := by decide +kernel
theorem dX7_talk_4 : decode cX7_talk 4 = .ok (.iload_n 1, 1) := by decide +kernel
theorem dX7_talk_5 : decode cX7_talk 5 = .ok (.iload_n 2, 1) := by decide +kernel
theorem dX7_talk_6 : decode cX7_talk 6 = .ok (.invokevirtual 184, 3) := by decide +kernel
theorem dX7_talk_9 : decode cX7_talk 9 = .ok (.ifCond .eq 22, 3) := by decide +kernel
theorem dX7_talk_12 : decode cX7_talk 12 = .ok (.aload_n 0, 1) := by decide +kernel
theorem dX7_talk_13 : decode cX7_talk 13 = .ok (.getfield 39, 3) := by decide +kernel
theorem dX7_talk_16 : decode cX7_talk 16 = .ok (.getfield 156, 3) := by decide +kernel
theorem dX7_talk_19 : decode cX7_talk 19 = .ok (.aload_n 0, 1) := by decide +kernel
theorem dX7_talk_20 : decode cX7_talk 20 = .ok (.getfield 27, 3) := by decide +kernel
theorem dX7_talk_23 : decode cX7_talk 23 = .ok (.iload_n 1, 1) := by decide +kernel
theorem dX7_talk_24 : decode cX7_talk 24 = .ok (.iload_n 2, 1) := by decide +kernel
theorem dX7_talk_25 : decode cX7_talk 25 = .ok (.invokevirtual 187, 3) := by decide +kernel
theorem dX7_talk_28 : decode cX7_talk 28 = .ok (.goto 4, 3) := by decide +kernel
theorem dX7_talk_31 : decode cX7_talk 31 = .ok (.iconst (-1), 1) := by decide +kernel
theorem dX7_talk_32 : decode cX7_talk 32 = .ok (.ireturn, 1) := by decide +kernel
def P_X7_talk (a0 : Nat) (x1 : Int32) (x2 : Int32) : PM Int32 :=
getR 7 3 a0 fun v1 =>
cllV 0 v1 (P_X0_isPair v1 x1 x2) fun v2 =>
ifB (decide (v2 = 0)) (
pureM ((-1))) (
getR 7 5 a0 fun v3 =>
getR 3 0 v3 fun v4 =>
getR 7 3 a0 fun v5 =>
cllV 1 v4 (P_X1_pairTells v4 v5 x1 x2) fun v6 =>
pureM v6)
set_option maxHeartbeats 4000000 in
set_option maxRecDepth 100000 in
theorem W_X7_talk {Γ : Cx} (ok : OKc Γ cX7_talk RX7 3 "talk") (okr : OKr Γ cX7_talk (some .int)) (a0 : Nat) (x1 : Int32) (x2 : Int32) : SW Γ iI 0 [some (.ref a0), some (.int x1), some (.int x2)] [] (P_X7_talk a0 x1 x2) := by
  unfold P_X7_talk
  refine sw_aload_n (z := a0) (pc' := 1) ok dX7_talk_0 rfl rfl ?_
  refine sw_getR (pc' := 4) ok (fr_X7_27.g) dX7_talk_1 rfl (fun v1 => ?_)
  refine sw_iload_n (z := x1) (pc' := 5) ok dX7_talk_4 rfl rfl ?_
  refine sw_iload_n (z := x2) (pc' := 6) ok dX7_talk_5 rfl rfl ?_
  refine sw_cllV_I (st := []) (as := [.int x1, .int x2]) (pc' := 9) ok (S_X0_isPair v1 x1 x2) (by decide) lk_X7_184 rfl dX7_talk_6 rfl (Nat.le_of_ble_eq_true rfl) rfl (fun v2 => ?_)
  refine sw_if_eq (tgt := 31) (pc' := 12) ok dX7_talk_9 (by decide) rfl ?_ ?_
  · refine sw_iconst (v := (-1)) (pc' := 32) ok dX7_talk_31 rfl cc_iconst_m1 ?_
    exact sw_ret ok okr dX7_talk_32 trivial rfl
  refine sw_aload_n (z := a0) (pc' := 13) ok dX7_talk_12 rfl rfl ?_
  refine sw_getR (pc' := 16) ok (fr_X7_39.g) dX7_talk_13 rfl (fun v3 => ?_)
  refine sw_getR (pc' := 19) ok (fr_X7_156) dX7_talk_16 rfl (fun v4 => ?_)
  refine sw_aload_n (z := a0) (pc' := 20) ok dX7_talk_19 rfl rfl ?_
  refine sw_getR (pc' := 23) ok (fr_X7_27.g) dX7_talk_20 rfl (fun v5 => ?_)
  refine sw_iload_n (z := x1) (pc' := 24) ok dX7_talk_23 rfl rfl ?_
  refine sw_iload_n (z := x2) (pc' := 25) ok dX7_talk_24 rfl rfl ?_
  refine sw_cllV_I (st := []) (as := [.ref v5, .int x1, .int x2]) (pc' := 28) ok (S_X1_pairTells v4 v5 x1 x2) (by decide) lk_X7_187 rfl dX7_talk_25 rfl (Nat.le_of_ble_eq_true rfl) rfl (fun v6 => ?_)
  refine sw_goto (tgt := 32) ok dX7_talk_28 (by decide) ?_
  exact sw_ret ok okr dX7_talk_32 trivial rfl
theorem S_X7_talk (a0 : Nat) (x1 : Int32) (x2 : Int32) : Sim 3 yX7_talk cX7_talk 3 (some .int) iI [.ref a0, .int x1, .int x2] (P_X7_talk a0 x1 x2) := Sim.intro wd_1012 (by decide) (by decide +kernel) (Nat.le_of_ble_eq_true rfl) (fun Γ ok okr => W_X7_talk ok okr a0 x1 x2)
theorem dX7_watch_0 : decode cX7_watch 0 = .ok (.aload_n 0, 1) := by decide +kernel
theorem dX7_watch_1 : decode cX7_watch 1 = .ok (.getfield 27, 3) := by decide +kernel
theorem dX7_watch_4 : decode cX7_watch 4 = .ok (.iload_n 1, 1) := by decide +kernel
theorem dX7_watch_5 : decode cX7_watch 5 = .ok (.iload_n 2, 1) := by decide +kernel
theorem dX7_watch_6 : decode cX7_watch 6 = .ok (.invokevirtual 184, 3) := by decide +kernel
theorem dX7_watch_9 : decode cX7_watch 9 = .ok (.ifCond .ne 5, 3) := by decide +kernel
theorem dX7_watch_12 : decode cX7_watch 12 = .ok (.iconst (-1), 1) := by decide +kernel
theorem dX7_watch_13 : decode cX7_watch 13 = .ok (.ireturn, 1) := by decide +kernel
theorem dX7_watch_14 : decode cX7_watch 14 = .ok (.aload_n 0, 1) := by decide +kernel
theorem dX7_watch_15 : decode cX7_watch 15 = .ok (.getfield 39, 3) := by decide +kernel
theorem dX7_watch_18 : decode cX7_watch 18 = .ok (.iconst 1, 1) := by decide +kernel
theorem dX7_watch_19 : decode cX7_watch 19 = .ok (.invokevirtual 191, 3) := by decide +kernel
theorem dX7_watch_22 : decode cX7_watch 22 = .ok (.ifCond .eq 19, 3) := by decide +kernel
theorem dX7_watch_25 : decode cX7_watch 25 = .ok (.aload_n 0, 1) := by decide +kernel
theorem dX7_watch_26 : decode cX7_watch 26 = .ok (.getfield 39, 3) := by decide +kernel
theorem dX7_watch_29 : decode cX7_watch 29 = .ok (.aload_n 0, 1) := by decide +kernel
theorem dX7_watch_30 : decode cX7_watch 30 = .ok (.getfield 27, 3) := by decide +kernel
theorem dX7_watch_33 : decode cX7_watch 33 = .ok (.iload_n 1, 1) := by decide +kernel
theorem dX7_watch_34 : decode cX7_watch 34 = .ok (.iload_n 2, 1) := by decide +kernel
theorem dX7_watch_35 : decode cX7_watch 35 = .ok (.invokevirtual 194, 3) := by decide +kernel
theorem dX7_watch_38 : decode cX7_watch 38 = .ok (.goto 5, 3) := by decide +kernel
theorem dX7_watch_41 : decode cX7_watch 41 = .ok (.bipush (-2), 2) := by decide +kernel
theorem dX7_watch_43 : decode cX7_watch 43 = .ok (.ireturn, 1) := by decide +kernel
def P_X7_watch (a0 : Nat) (x1 : Int32) (x2 : Int32) : PM Int32 :=
getR 7 3 a0 fun v1 =>
cllV 0 v1 (P_X0_isPair v1 x1 x2) fun v2 =>
ifB (decide (¬ v2 = 0)) (
getR 7 5 a0 fun v3 =>
cllV 3 v3 (P_X3_hasRoom v3 1) fun v4 =>
ifB (decide (v4 = 0)) (
pureM ((-2))) (
getR 7 5 a0 fun v5 =>
getR 7 3 a0 fun v6 =>
cllV 3 v5 (P_X3_doWatch v5 v6 x1 x2) fun v7 =>
pureM v7)) (
pureM ((-1)))
set_option maxHeartbeats 4000000 in
set_option maxRecDepth 100000 in
theorem W_X7_watch {Γ : Cx} (ok : OKc Γ cX7_watch RX7 5 "watch") (okr : OKr Γ cX7_watch (some .int)) (a0 : Nat) (x1 : Int32) (x2 : Int32) : SW Γ iI 0 [some (.ref a0), some (.int x1), some (.int x2)] [] (P_X7_watch a0 x1 x2) := by
  unfold P_X7_watch
  refine sw_aload_n (z := a0) (pc' := 1) ok dX7_watch_0 rfl rfl ?_
  refine sw_getR (pc' := 4) ok (fr_X7_27.g) dX7_watch_1 rfl (fun v1 => ?_)
  refine sw_iload_n (z := x1) (pc' := 5) ok dX7_watch_4 rfl rfl ?_
  refine sw_iload_n (z := x2) (pc' := 6) ok dX7_watch_5 rfl rfl ?_
  refine sw_cllV_I (st := []) (as := [.int x1, .int x2]) (pc' := 9) ok (S_X0_isPair v1 x1 x2) (by decide) lk_X7_184 rfl dX7_watch_6 rfl (Nat.le_of_ble_eq_true rfl) rfl (fun v2 => ?_)
  refine sw_if_ne (tgt := 14) (pc' := 12) ok dX7_watch_9 (by decide) rfl ?_ ?_
  · refine sw_aload_n (z := a0) (pc' := 15) ok dX7_watch_14 rfl rfl ?_
    refine sw_getR (pc' := 18) ok (fr_X7_39.g) dX7_watch_15 rfl (fun v3 => ?_)
    refine sw_iconst (v := 1) (pc' := 19) ok dX7_watch_18 rfl cc_iconst_1 ?_
    refine sw_cllV_I (st := []) (as := [.int 1]) (pc' := 22) ok (S_X3_hasRoom v3 1) (by decide) lk_X7_191 rfl dX7_watch_19 rfl (Nat.le_of_ble_eq_true rfl) rfl (fun v4 => ?_)
    refine sw_if_eq (tgt := 41) (pc' := 25) ok dX7_watch_22 (by decide) rfl ?_ ?_
    · refine sw_bipush (v := (-2)) (pc' := 43) ok dX7_watch_41 rfl cc_bipush_m2 ?_
      exact sw_ret ok okr dX7_watch_43 trivial rfl
    refine sw_aload_n (z := a0) (pc' := 26) ok dX7_watch_25 rfl rfl ?_
    refine sw_getR (pc' := 29) ok (fr_X7_39.g) dX7_watch_26 rfl (fun v5 => ?_)
    refine sw_aload_n (z := a0) (pc' := 30) ok dX7_watch_29 rfl rfl ?_
    refine sw_getR (pc' := 33) ok (fr_X7_27.g) dX7_watch_30 rfl (fun v6 => ?_)
    refine sw_iload_n (z := x1) (pc' := 34) ok dX7_watch_33 rfl rfl ?_
    refine sw_iload_n (z := x2) (pc' := 35) ok dX7_watch_34 rfl rfl ?_
    refine sw_cllV_I (st := []) (as := [.ref v6, .int x1, .int x2]) (pc' := 38) ok (S_X3_doWatch v5 v6 x1 x2) (by decide) lk_X7_194 rfl dX7_watch_35 rfl (Nat.le_of_ble_eq_true rfl) rfl (fun v7 => ?_)
    refine sw_goto (tgt := 43) ok dX7_watch_38 (by decide) ?_
    exact sw_ret ok okr dX7_watch_43 trivial rfl
  refine sw_iconst (v := (-1)) (pc' := 13) ok dX7_watch_12 rfl cc_iconst_m1 ?_
  exact sw_ret ok okr dX7_watch_13 trivial rfl
theorem S_X7_watch (a0 : Nat) (x1 : Int32) (x2 : Int32) : Sim 5 yX7_watch cX7_watch 3 (some .int) iI [.ref a0, .int x1, .int x2] (P_X7_watch a0 x1 x2) := Sim.intro wd_1013 (by decide) (by decide +kernel) (Nat.le_of_ble_eq_true rfl) (fun Γ ok okr => W_X7_watch ok okr a0 x1 x2)
theorem dX7_isStrength_0 : decode cX7_isStrength 0 = .ok (.iload_n 0, 1) := by decide +kernel
theorem dX7_isStrength_1 : decode cX7_isStrength 1 = .ok (.ifCond .lt 13, 3) := by decide +kernel
theorem dX7_isStrength_4 : decode cX7_isStrength 4 = .ok (.iload_n 0, 1) := by decide +kernel
theorem dX7_isStrength_5 : decode cX7_isStrength 5 = .ok (.bipush 60, 2) := by decide +kernel
theorem dX7_isStrength_7 : decode cX7_isStrength 7 = .ok (.if_icmp .gt 7, 3) := by decide +kernel
theorem dX7_isStrength_10 : decode cX7_isStrength 10 = .ok (.iconst 1, 1) := by decide +kernel
theorem dX7_isStrength_11 : decode cX7_isStrength 11 = .ok (.goto 4, 3) := by decide +kernel
theorem dX7_isStrength_14 : decode cX7_isStrength 14 = .ok (.iconst 0, 1) := by decide +kernel
theorem dX7_isStrength_15 : decode cX7_isStrength 15 = .ok (.ireturn, 1) := by decide +kernel
def P_X7_isStrength (x0 : Int32) : PM Int32 :=
jn (
retZ 0) fun k1 =>
ifB (decide (x0 < 0)) (
k1) (
ifB (decide (60 < x0)) (
k1) (
retZ 1))
set_option maxHeartbeats 4000000 in
set_option maxRecDepth 100000 in
theorem W_X7_isStrength {Γ : Cx} (ok : OKc Γ cX7_isStrength RX7 0 "isStrength") (okr : OKr Γ cX7_isStrength (some .boolean)) (x0 : Int32) : SW Γ iI 0 [some (.int x0)] [] (P_X7_isStrength x0) := by
  unfold P_X7_isStrength
  refine sw_iload_n (z := x0) (pc' := 1) ok dX7_isStrength_0 rfl rfl ?_
  refine sw_jn (fun k1 : PM Int32 => SW Γ iI 14 [none] [] (k1)) ?_ (fun k1 hk1 => ?_)
  · refine sw_iconst (v := 0) (pc' := 15) ok dX7_isStrength_14 rfl cc_iconst_0 ?_
    exact sw_retZ ok okr dX7_isStrength_15
  refine sw_if_lt (tgt := 14) (pc' := 4) ok dX7_isStrength_1 (by decide) rfl ?_ ?_
  · refine sw_fg (l' := [none]) [false] rfl ?_
    exact hk1
  refine sw_iload_n (z := x0) (pc' := 5) ok dX7_isStrength_4 rfl rfl ?_
  refine sw_bipush (v := 60) (pc' := 7) ok dX7_isStrength_5 rfl cc_bipush_60 ?_
  refine sw_icmp_gt (tgt := 14) (pc' := 10) ok dX7_isStrength_7 (by decide) rfl ?_ ?_
  · refine sw_fg (l' := [none]) [false] rfl ?_
    exact hk1
  refine sw_iconst (v := 1) (pc' := 11) ok dX7_isStrength_10 rfl cc_iconst_1 ?_
  refine sw_goto (tgt := 15) ok dX7_isStrength_11 (by decide) ?_
  exact sw_retZ ok okr dX7_isStrength_15
theorem S_X7_isStrength (x0 : Int32) : Sim 0 yX7_isStrength cX7_isStrength 1 (some .boolean) iI [.int x0] (P_X7_isStrength x0) := Sim.intro wd_1014 (by decide) (by decide +kernel) (Nat.le_of_ble_eq_true rfl) (fun Γ ok okr => W_X7_isStrength ok okr x0)
theorem dX7_load_0 : decode cX7_load 0 = .ok (.iload_n 1, 1) := by decide +kernel
theorem dX7_load_1 : decode cX7_load 1 = .ok (.invokestatic 197, 3) := by decide +kernel
theorem dX7_load_4 : decode cX7_load 4 = .ok (.ifCond .ne 5, 3) := by decide +kernel
theorem dX7_load_7 : decode cX7_load 7 = .ok (.iconst (-1), 1) := by decide +kernel
theorem dX7_load_8 : decode cX7_load 8 = .ok (.ireturn, 1) := by decide +kernel
theorem dX7_load_9 : decode cX7_load 9 = .ok (.aload_n 0, 1) := by decide +kernel
theorem dX7_load_10 : decode cX7_load 10 = .ok (.getfield 27, 3) := by decide +kernel
theorem dX7_load_13 : decode cX7_load 13 = .ok (.invokevirtual 200, 3) := by decide +kernel
theorem dX7_load_16 : decode cX7_load 16 = .ok (.ifCond .eq 6, 3) := by decide +kernel
theorem dX7_load_19 : decode cX7_load 19 = .ok (.bipush (-4), 2) := by decide +kernel
theorem dX7_load_21 : decode cX7_load 21 = .ok (.ireturn, 1) := by decide +kernel
theorem dX7_load_22 : decode cX7_load 22 = .ok (.aload_n 0, 1) := by decide +kernel
theorem dX7_load_23 : decode cX7_load 23 = .ok (.getfield 39, 3) := by decide +kernel
theorem dX7_load_26 : decode cX7_load 26 = .ok (.iconst 1, 1) := by decide +kernel
theorem dX7_load_27 : decode cX7_load 27 = .ok (.invokevirtual 191, 3) := by decide +kernel
theorem dX7_load_30 : decode cX7_load 30 = .ok (.ifCond .eq 14, 3) := by decide +kernel
theorem dX7_load_33 : decode cX7_load 33 = .ok (.aload_n 0, 1) := by decide +kernel
theorem dX7_load_34 : decode cX7_load 34 = .ok (.getfield 39, 3) := by decide +kernel
theorem dX7_load_37 : decode cX7_load 37 = .ok (.iload_n 1, 1) := by decide +kernel
theorem dX7_load_38 : decode cX7_load 38 = .ok (.invokevirtual 204, 3) := by decide +kernel
theorem dX7_load_41 : decode cX7_load 41 = .ok (.goto 5, 3) := by decide +kernel
theorem dX7_load_44 : decode cX7_load 44 = .ok (.bipush (-2), 2) := by decide +kernel
theorem dX7_load_46 : decode cX7_load 46 = .ok (.ireturn, 1) := by decide +kernel
def P_X7_load (a0 : Nat) (x1 : Int32) : PM Int32 :=
cll0 (P_X7_isStrength x1) fun v1 =>
ifB (decide (¬ v1 = 0)) (
getR 7 3 a0 fun v2 =>
cllV 0 v2 (P_X0_isNobody v2) fun v3 =>
ifB (decide (v3 = 0)) (
getR 7 5 a0 fun v4 =>
cllV 3 v4 (P_X3_hasRoom v4 1) fun v5 =>
ifB (decide (v5 = 0)) (
pureM ((-2))) (
getR 7 5 a0 fun v6 =>
cllV 3 v6 (P_X3_doLoad v6 x1) fun v7 =>
pureM v7)) (
pureM ((-4)))) (
pureM ((-1)))
set_option maxHeartbeats 4000000 in
set_option maxRecDepth 100000 in
theorem W_X7_load {Γ : Cx} (ok : OKc Γ cX7_load RX7 2 "load") (okr : OKr Γ cX7_load (some .int)) (a0 : Nat) (x1 : Int32) : SW Γ iI 0 [some (.ref a0), some (.int x1)] [] (P_X7_load a0 x1) := by
  unfold P_X7_load
  refine sw_iload_n (z := x1) (pc' := 1) ok dX7_load_0 rfl rfl ?_
  refine sw_cll0_I (st := []) (as := [.int x1]) (pc' := 4) ok (S_X7_isStrength x1) (by decide) lk_X7_197 rfl dX7_load_1 rfl (Nat.le_of_ble_eq_true rfl) rfl (fun v1 => ?_)
  refine sw_if_ne (tgt := 9) (pc' := 7) ok dX7_load_4 (by decide) rfl ?_ ?_
  · refine sw_aload_n (z := a0) (pc' := 10) ok dX7_load_9 rfl rfl ?_
    refine sw_getR (pc' := 13) ok (fr_X7_27.g) dX7_load_10 rfl (fun v2 => ?_)
    refine sw_cllV_I (st := []) (as := []) (pc' := 16) ok (S_X0_isNobody v2) (by decide) lk_X7_200 rfl dX7_load_13 rfl (Nat.le_of_ble_eq_true rfl) rfl (fun v3 => ?_)
    refine sw_if_eq (tgt := 22) (pc' := 19) ok dX7_load_16 (by decide) rfl ?_ ?_
    · refine sw_aload_n (z := a0) (pc' := 23) ok dX7_load_22 rfl rfl ?_
      refine sw_getR (pc' := 26) ok (fr_X7_39.g) dX7_load_23 rfl (fun v4 => ?_)
      refine sw_iconst (v := 1) (pc' := 27) ok dX7_load_26 rfl cc_iconst_1 ?_
      refine sw_cllV_I (st := []) (as := [.int 1]) (pc' := 30) ok (S_X3_hasRoom v4 1) (by decide) lk_X7_191 rfl dX7_load_27 rfl (Nat.le_of_ble_eq_true rfl) rfl (fun v5 => ?_)
      refine sw_if_eq (tgt := 44) (pc' := 33) ok dX7_load_30 (by decide) rfl ?_ ?_
      · refine sw_bipush (v := (-2)) (pc' := 46) ok dX7_load_44 rfl cc_bipush_m2 ?_
        exact sw_ret ok okr dX7_load_46 trivial rfl
      refine sw_aload_n (z := a0) (pc' := 34) ok dX7_load_33 rfl rfl ?_
      refine sw_getR (pc' := 37) ok (fr_X7_39.g) dX7_load_34 rfl (fun v6 => ?_)
      refine sw_iload_n (z := x1) (pc' := 38) ok dX7_load_37 rfl rfl ?_
      refine sw_cllV_I (st := []) (as := [.int x1]) (pc' := 41) ok (S_X3_doLoad v6 x1) (by decide) lk_X7_204 rfl dX7_load_38 rfl (Nat.le_of_ble_eq_true rfl) rfl (fun v7 => ?_)
      refine sw_goto (tgt := 46) ok dX7_load_41 (by decide) ?_
      exact sw_ret ok okr dX7_load_46 trivial rfl
    refine sw_bipush (v := (-4)) (pc' := 21) ok dX7_load_19 rfl cc_bipush_m4 ?_
    exact sw_ret ok okr dX7_load_21 trivial rfl
  refine sw_iconst (v := (-1)) (pc' := 8) ok dX7_load_7 rfl cc_iconst_m1 ?_
  exact sw_ret ok okr dX7_load_8 trivial rfl
theorem S_X7_load (a0 : Nat) (x1 : Int32) : Sim 2 yX7_load cX7_load 2 (some .int) iI [.ref a0, .int x1] (P_X7_load a0 x1) := Sim.intro wd_1015 (by decide) (by decide +kernel) (Nat.le_of_ble_eq_true rfl) (fun Γ ok okr => W_X7_load ok okr a0 x1)
theorem dX7_coffee_0 : decode cX7_coffee 0 = .ok (.aload_n 0, 1) := by decide +kernel
theorem dX7_coffee_1 : decode cX7_coffee 1 = .ok (.getfield 27, 3) := by decide +kernel
theorem dX7_coffee_4 : decode cX7_coffee 4 = .ok (.iload_n 1, 1) := by decide +kernel
theorem dX7_coffee_5 : decode cX7_coffee 5 = .ok (.invokevirtual 144, 3) := by decide +kernel
theorem dX7_coffee_8 : decode cX7_coffee 8 = .ok (.ifCond .ne 5, 3) := by decide +kernel
theorem dX7_coffee_11 : decode cX7_coffee 11 = .ok (.iconst (-1), 1) := by decide +kernel
theorem dX7_coffee_12 : decode cX7_coffee 12 = .ok (.ireturn, 1) := by decide +kernel
theorem dX7_coffee_13 : decode cX7_coffee 13 = .ok (.aload_n 0, 1) := by decide +kernel
theorem dX7_coffee_14 : decode cX7_coffee 14 = .ok (.getfield 39, 3) := by decide +kernel
theorem dX7_coffee_17 : decode cX7_coffee 17 = .ok (.getfield 156, 3) := by decide +kernel
theorem dX7_coffee_20 : decode cX7_coffee 20 = .ok (.getfield 166, 3) := by decide +kernel
theorem dX7_coffee_23 : decode cX7_coffee 23 = .ok (.iload_n 1, 1) := by decide +kernel
theorem dX7_coffee_24 : decode cX7_coffee 24 = .ok (.iaload, 1) := by decide +kernel
theorem dX7_coffee_25 : decode cX7_coffee 25 = .ok (.ifCond .ne 6, 3) := by decide +kernel
theorem dX7_coffee_28 : decode cX7_coffee 28 = .ok (.bipush (-4), 2) := by decide +kernel
theorem dX7_coffee_30 : decode cX7_coffee 30 = .ok (.ireturn, 1) := by decide +kernel
theorem dX7_coffee_31 : decode cX7_coffee 31 = .ok (.aload_n 0, 1) := by decide +kernel
theorem dX7_coffee_32 : decode cX7_coffee 32 = .ok (.getfield 39, 3) := by decide +kernel
theorem dX7_coffee_35 : decode cX7_coffee 35 = .ok (.getfield 207, 3) := by decide +kernel
theorem dX7_coffee_38 : decode cX7_coffee 38 = .ok (.ifCond .gt 6, 3) := by decide +kernel
theorem dX7_coffee_41 : decode cX7_coffee 41 = .ok (.bipush (-6), 2) := by decide +kernel
theorem dX7_coffee_43 : decode cX7_coffee 43 = .ok (.ireturn, 1) := by decide +kernel
theorem dX7_coffee_44 : decode cX7_coffee 44 = .ok (.aload_n 0, 1) := by decide +kernel
theorem dX7_coffee_45 : decode cX7_coffee 45 = .ok (.getfield 39, 3) := by decide +kernel
theorem dX7_coffee_48 : decode cX7_coffee 48 = .ok (.iconst 1, 1) := by decide +kernel
theorem dX7_coffee_49 : decode cX7_coffee 49 = .ok (.invokevirtual 191, 3) := by decide +kernel
theorem dX7_coffee_52 : decode cX7_coffee 52 = .ok (.ifCond .eq 18, 3) := by decide +kernel
theorem dX7_coffee_55 : decode cX7_coffee 55 = .ok (.aload_n 0, 1) := by decide +kernel
theorem dX7_coffee_56 : decode cX7_coffee 56 = .ok (.getfield 39, 3) := by decide +kernel
theorem dX7_coffee_59 : decode cX7_coffee 59 = .ok (.aload_n 0, 1) := by decide +kernel
theorem dX7_coffee_60 : decode cX7_coffee 60 = .ok (.getfield 27, 3) := by decide +kernel
theorem dX7_coffee_63 : decode cX7_coffee 63 = .ok (.iload_n 1, 1) := by decide +kernel
theorem dX7_coffee_64 : decode cX7_coffee 64 = .ok (.invokevirtual 210, 3) := by decide +kernel
theorem dX7_coffee_67 : decode cX7_coffee 67 = .ok (.goto 5, 3) := by decide +kernel
theorem dX7_coffee_70 : decode cX7_coffee 70 = .ok (.bipush (-2), 2) := by decide +kernel
theorem dX7_coffee_72 : decode cX7_coffee 72 = .ok (.ireturn, 1) := by decide +kernel
def P_X7_coffee (a0 : Nat) (x1 : Int32) : PM Int32 :=
getR 7 3 a0 fun v1 =>
cllV 0 v1 (P_X0_has v1 x1) fun v2 =>
ifB (decide (¬ v2 = 0)) (
getR 7 5 a0 fun v3 =>
getR 3 0 v3 fun v4 =>
getR 1 0 v4 fun v5 =>
ald v5 x1 fun v6 =>
ifB (decide (¬ v6 = 0)) (
getR 7 5 a0 fun v7 =>
getI 3 3 v7 fun v8 =>
ifB (decide (0 < v8)) (
getR 7 5 a0 fun v9 =>
cllV 3 v9 (P_X3_hasRoom v9 1) fun v10 =>
ifB (decide (v10 = 0)) (
pureM ((-2))) (
getR 7 5 a0 fun v11 =>
getR 7 3 a0 fun v12 =>
cllV 3 v11 (P_X3_doCoffee v11 v12 x1) fun v13 =>
pureM v13)) (
pureM ((-6)))) (
pureM ((-4)))) (
pureM ((-1)))
set_option maxHeartbeats 4000000 in
set_option maxRecDepth 100000 in
theorem W_X7_coffee {Γ : Cx} (ok : OKc Γ cX7_coffee RX7 5 "coffee") (okr : OKr Γ cX7_coffee (some .int)) (a0 : Nat) (x1 : Int32) : SW Γ iI 0 [some (.ref a0), some (.int x1)] [] (P_X7_coffee a0 x1) := by
  unfold P_X7_coffee
  refine sw_aload_n (z := a0) (pc' := 1) ok dX7_coffee_0 rfl rfl ?_
  refine sw_getR (pc' := 4) ok (fr_X7_27.g) dX7_coffee_1 rfl (fun v1 => ?_)
  refine sw_iload_n (z := x1) (pc' := 5) ok dX7_coffee_4 rfl rfl ?_
  refine sw_cllV_I (st := []) (as := [.int x1]) (pc' := 8) ok (S_X0_has v1 x1) (by decide) lk_X7_144 rfl dX7_coffee_5 rfl (Nat.le_of_ble_eq_true rfl) rfl (fun v2 => ?_)
  refine sw_if_ne (tgt := 13) (pc' := 11) ok dX7_coffee_8 (by decide) rfl ?_ ?_
  · refine sw_aload_n (z := a0) (pc' := 14) ok dX7_coffee_13 rfl rfl ?_
    refine sw_getR (pc' := 17) ok (fr_X7_39.g) dX7_coffee_14 rfl (fun v3 => ?_)
    refine sw_getR (pc' := 20) ok (fr_X7_156) dX7_coffee_17 rfl (fun v4 => ?_)
    refine sw_getR (pc' := 23) ok (fr_X7_166) dX7_coffee_20 rfl (fun v5 => ?_)
    refine sw_iload_n (z := x1) (pc' := 24) ok dX7_coffee_23 rfl rfl ?_
    refine sw_ald (pc' := 25) ok dX7_coffee_24 rfl (fun v6 => ?_)
    refine sw_if_ne (tgt := 31) (pc' := 28) ok dX7_coffee_25 (by decide) rfl ?_ ?_
    · refine sw_aload_n (z := a0) (pc' := 32) ok dX7_coffee_31 rfl rfl ?_
      refine sw_getR (pc' := 35) ok (fr_X7_39.g) dX7_coffee_32 rfl (fun v7 => ?_)
      refine sw_getI (pc' := 38) ok (fr_X7_207.g) dX7_coffee_35 rfl (fun v8 => ?_)
      refine sw_if_gt (tgt := 44) (pc' := 41) ok dX7_coffee_38 (by decide) rfl ?_ ?_
      · refine sw_aload_n (z := a0) (pc' := 45) ok dX7_coffee_44 rfl rfl ?_
        refine sw_getR (pc' := 48) ok (fr_X7_39.g) dX7_coffee_45 rfl (fun v9 => ?_)
        refine sw_iconst (v := 1) (pc' := 49) ok dX7_coffee_48 rfl cc_iconst_1 ?_
        refine sw_cllV_I (st := []) (as := [.int 1]) (pc' := 52) ok (S_X3_hasRoom v9 1) (by decide) lk_X7_191 rfl dX7_coffee_49 rfl (Nat.le_of_ble_eq_true rfl) rfl (fun v10 => ?_)
        refine sw_if_eq (tgt := 70) (pc' := 55) ok dX7_coffee_52 (by decide) rfl ?_ ?_
        · refine sw_bipush (v := (-2)) (pc' := 72) ok dX7_coffee_70 rfl cc_bipush_m2 ?_
          exact sw_ret ok okr dX7_coffee_72 trivial rfl
        refine sw_aload_n (z := a0) (pc' := 56) ok dX7_coffee_55 rfl rfl ?_
        refine sw_getR (pc' := 59) ok (fr_X7_39.g) dX7_coffee_56 rfl (fun v11 => ?_)
        refine sw_aload_n (z := a0) (pc' := 60) ok dX7_coffee_59 rfl rfl ?_
        refine sw_getR (pc' := 63) ok (fr_X7_27.g) dX7_coffee_60 rfl (fun v12 => ?_)
        refine sw_iload_n (z := x1) (pc' := 64) ok dX7_coffee_63 rfl rfl ?_
        refine sw_cllV_I (st := []) (as := [.ref v12, .int x1]) (pc' := 67) ok (S_X3_doCoffee v11 v12 x1) (by decide) lk_X7_210 rfl dX7_coffee_64 rfl (Nat.le_of_ble_eq_true rfl) rfl (fun v13 => ?_)
        refine sw_goto (tgt := 72) ok dX7_coffee_67 (by decide) ?_
        exact sw_ret ok okr dX7_coffee_72 trivial rfl
      refine sw_bipush (v := (-6)) (pc' := 43) ok dX7_coffee_41 rfl cc_bipush_m6 ?_
      exact sw_ret ok okr dX7_coffee_43 trivial rfl
    refine sw_bipush (v := (-4)) (pc' := 30) ok dX7_coffee_28 rfl cc_bipush_m4 ?_
    exact sw_ret ok okr dX7_coffee_30 trivial rfl
  refine sw_iconst (v := (-1)) (pc' := 12) ok dX7_coffee_11 rfl cc_iconst_m1 ?_
  exact sw_ret ok okr dX7_coffee_12 trivial rfl
theorem S_X7_coffee (a0 : Nat) (x1 : Int32) : Sim 5 yX7_coffee cX7_coffee 2 (some .int) iI [.ref a0, .int x1] (P_X7_coffee a0 x1) := Sim.intro wd_1016 (by decide) (by decide +kernel) (Nat.le_of_ble_eq_true rfl) (fun Γ ok okr => W_X7_coffee ok okr a0 x1)
theorem dX7_undo_0 : decode cX7_undo 0 = .ok (.iload_n 1, 1) := by decide +kernel
theorem dX7_undo_1 : decode cX7_undo 1 = .ok (.ifCond .lt 14, 3) := by decide +kernel
theorem dX7_undo_4 : decode cX7_undo 4 = .ok (.iload_n 1, 1) := by decide +kernel
theorem dX7_undo_5 : decode cX7_undo 5 = .ok (.aload_n 0, 1) := by decide +kernel
theorem dX7_undo_6 : decode cX7_undo 6 = .ok (.getfield 39, 3) := by decide +kernel
theorem dX7_undo_9 : decode cX7_undo 9 = .ok (.getfield 214, 3) := by decide +kernel
theorem dX7_undo_12 : decode cX7_undo 12 = .ok (.if_icmp .le 5, 3) := by decide +kernel
theorem dX7_undo_15 : decode cX7_undo 15 = .ok (.iconst (-1), 1) := by decide +kernel
theorem dX7_undo_16 : decode cX7_undo 16 = .ok (.ireturn, 1) := by decide +kernel
theorem dX7_undo_17 : decode cX7_undo 17 = .ok (.aload_n 0, 1) := by decide +kernel
theorem dX7_undo_18 : decode cX7_undo 18 = .ok (.getfield 39, 3) := by decide +kernel
theorem dX7_undo_21 : decode cX7_undo 21 = .ok (.getfield 214, 3) := by decide +kernel
theorem dX7_undo_24 : decode cX7_undo 24 = .ok (.iload_n 1, 1) := by decide +kernel
theorem dX7_undo_25 : decode cX7_undo 25 = .ok (.isub, 1) := by decide +kernel
theorem dX7_undo_26 : decode cX7_undo 26 = .ok (.istore_n 2, 1) := by decide +kernel
theorem dX7_undo_27 : decode cX7_undo 27 = .ok (.iload_n 2, 1) := by decide +kernel
theorem dX7_undo_28 : decode cX7_undo 28 = .ok (.ifCond .le 15, 3) := by decide +kernel
theorem dX7_undo_31 : decode cX7_undo 31 = .ok (.aload_n 0, 1) := by decide +kernel
theorem dX7_undo_32 : decode cX7_undo 32 = .ok (.getfield 39, 3) := by decide +kernel
theorem dX7_undo_35 : decode cX7_undo 35 = .ok (.aload_n 0, 1) := by decide +kernel
theorem dX7_undo_36 : decode cX7_undo 36 = .ok (.getfield 27, 3) := by decide +kernel
theorem dX7_undo_39 : decode cX7_undo 39 = .ok (.iload_n 1, 1) := by decide +kernel
theorem dX7_undo_40 : decode cX7_undo 40 = .ok (.invokevirtual 217, 3) := by decide +kernel
theorem dX7_undo_43 : decode cX7_undo 43 = .ok (.iload_n 2, 1) := by decide +kernel
theorem dX7_undo_44 : decode cX7_undo 44 = .ok (.ireturn, 1) := by decide +kernel
def P_X7_undo (a0 : Nat) (x1 : Int32) : PM Int32 :=
ifB (decide (x1 < 0)) (
pureM ((-1))) (
getR 7 5 a0 fun v1 =>
getI 3 2 v1 fun v2 =>
ifB (decide (x1 ≤ v2)) (
getR 7 5 a0 fun v3 =>
getI 3 2 v3 fun v4 =>
ifB (decide ((v4 - x1) ≤ 0)) (
pureM (v4 - x1)) (
getR 7 5 a0 fun v5 =>
getR 7 3 a0 fun v6 =>
cllV 3 v5 (P_X3_goBackTo v5 v6 x1) fun _ =>
pureM (v4 - x1))) (
pureM ((-1))))
set_option maxHeartbeats 4000000 in
set_option maxRecDepth 100000 in
theorem W_X7_undo {Γ : Cx} (ok : OKc Γ cX7_undo RX7 6 "undo") (okr : OKr Γ cX7_undo (some .int)) (a0 : Nat) (x1 : Int32) : SW Γ iI 0 [some (.ref a0), some (.int x1), none] [] (P_X7_undo a0 x1) := by
  unfold P_X7_undo
  refine sw_iload_n (z := x1) (pc' := 1) ok dX7_undo_0 rfl rfl ?_
  refine sw_if_lt (tgt := 15) (pc' := 4) ok dX7_undo_1 (by decide) rfl ?_ ?_
  · refine sw_iconst (v := (-1)) (pc' := 16) ok dX7_undo_15 rfl cc_iconst_m1 ?_
    exact sw_ret ok okr dX7_undo_16 trivial rfl
  refine sw_iload_n (z := x1) (pc' := 5) ok dX7_undo_4 rfl rfl ?_
  refine sw_aload_n (z := a0) (pc' := 6) ok dX7_undo_5 rfl rfl ?_
  refine sw_getR (pc' := 9) ok (fr_X7_39.g) dX7_undo_6 rfl (fun v1 => ?_)
  refine sw_getI (pc' := 12) ok (fr_X7_214.g) dX7_undo_9 rfl (fun v2 => ?_)
  refine sw_icmp_le (tgt := 17) (pc' := 15) ok dX7_undo_12 (by decide) rfl ?_ ?_
  · refine sw_aload_n (z := a0) (pc' := 18) ok dX7_undo_17 rfl rfl ?_
    refine sw_getR (pc' := 21) ok (fr_X7_39.g) dX7_undo_18 rfl (fun v3 => ?_)
    refine sw_getI (pc' := 24) ok (fr_X7_214.g) dX7_undo_21 rfl (fun v4 => ?_)
    refine sw_iload_n (z := x1) (pc' := 25) ok dX7_undo_24 rfl rfl ?_
    refine sw_isub (pc' := 26) ok dX7_undo_25 rfl ?_
    refine sw_istore_n (pc' := 27) (l' := [some (.ref a0), some (.int x1), some (.int (v4 - x1))]) ok dX7_undo_26 rfl (Nat.le_of_ble_eq_true rfl) rfl ?_
    refine sw_iload_n (z := (v4 - x1)) (pc' := 28) ok dX7_undo_27 rfl rfl ?_
    refine sw_if_le (tgt := 43) (pc' := 31) ok dX7_undo_28 (by decide) rfl ?_ ?_
    · refine sw_iload_n (z := (v4 - x1)) (pc' := 44) ok dX7_undo_43 rfl rfl ?_
      exact sw_ret ok okr dX7_undo_44 trivial rfl
    refine sw_aload_n (z := a0) (pc' := 32) ok dX7_undo_31 rfl rfl ?_
    refine sw_getR (pc' := 35) ok (fr_X7_39.g) dX7_undo_32 rfl (fun v5 => ?_)
    refine sw_aload_n (z := a0) (pc' := 36) ok dX7_undo_35 rfl rfl ?_
    refine sw_getR (pc' := 39) ok (fr_X7_27.g) dX7_undo_36 rfl (fun v6 => ?_)
    refine sw_iload_n (z := x1) (pc' := 40) ok dX7_undo_39 rfl rfl ?_
    refine sw_cllV_U (st := []) (as := [.ref v6, .int x1]) (pc' := 43) ok (S_X3_goBackTo v5 v6 x1) (by decide) lk_X7_217 rfl dX7_undo_40 rfl (Nat.le_of_ble_eq_true rfl) rfl (fun _ => ?_)
    refine sw_iload_n (z := (v4 - x1)) (pc' := 44) ok dX7_undo_43 rfl rfl ?_
    exact sw_ret ok okr dX7_undo_44 trivial rfl
  refine sw_iconst (v := (-1)) (pc' := 16) ok dX7_undo_15 rfl cc_iconst_m1 ?_
  exact sw_ret ok okr dX7_undo_16 trivial rfl
theorem S_X7_undo (a0 : Nat) (x1 : Int32) : Sim 6 yX7_undo cX7_undo 3 (some .int) iI [.ref a0, .int x1] (P_X7_undo a0 x1) := Sim.intro wd_1017 (by decide) (by decide +kernel) (Nat.le_of_ble_eq_true rfl) (fun Γ ok okr => W_X7_undo ok okr a0 x1)
theorem dX7_isKeptPlace_0 : decode cX7_isKeptPlace 0 = .ok (.iload_n 0, 1) := by decide +kernel
theorem dX7_isKeptPlace_1 : decode cX7_isKeptPlace 1 = .ok (.ifCond .lt 12, 3) := by decide +kernel
theorem dX7_isKeptPlace_4 : decode cX7_isKeptPlace 4 = .ok (.iload_n 0, 1) := by decide +kernel
theorem dX7_isKeptPlace_5 : decode cX7_isKeptPlace 5 = .ok (.iconst 3, 1) := by decide +kernel
theorem dX7_isKeptPlace_6 : decode cX7_isKeptPlace 6 = .ok (.if_icmp .ge 7, 3) := by decide +kernel
theorem dX7_isKeptPlace_9 : decode cX7_isKeptPlace 9 = .ok (.iconst 1, 1) := by decide +kernel
theorem dX7_isKeptPlace_10 : decode cX7_isKeptPlace 10 = .ok (.goto 4, 3) := by decide +kernel
theorem dX7_isKeptPlace_13 : decode cX7_isKeptPlace 13 = .ok (.iconst 0, 1) := by decide +kernel
theorem dX7_isKeptPlace_14 : decode cX7_isKeptPlace 14 = .ok (.ireturn, 1) := by decide +kernel
def P_X7_isKeptPlace (x0 : Int32) : PM Int32 :=
jn (
retZ 0) fun k1 =>
ifB (decide (x0 < 0)) (
k1) (
ifB (decide (3 ≤ x0)) (
k1) (
retZ 1))
set_option maxHeartbeats 4000000 in
set_option maxRecDepth 100000 in
theorem W_X7_isKeptPlace {Γ : Cx} (ok : OKc Γ cX7_isKeptPlace RX7 0 "isKeptPlace") (okr : OKr Γ cX7_isKeptPlace (some .boolean)) (x0 : Int32) : SW Γ iI 0 [some (.int x0)] [] (P_X7_isKeptPlace x0) := by
  unfold P_X7_isKeptPlace
  refine sw_iload_n (z := x0) (pc' := 1) ok dX7_isKeptPlace_0 rfl rfl ?_
  refine sw_jn (fun k1 : PM Int32 => SW Γ iI 13 [none] [] (k1)) ?_ (fun k1 hk1 => ?_)
  · refine sw_iconst (v := 0) (pc' := 14) ok dX7_isKeptPlace_13 rfl cc_iconst_0 ?_
    exact sw_retZ ok okr dX7_isKeptPlace_14
  refine sw_if_lt (tgt := 13) (pc' := 4) ok dX7_isKeptPlace_1 (by decide) rfl ?_ ?_
  · refine sw_fg (l' := [none]) [false] rfl ?_
    exact hk1
  refine sw_iload_n (z := x0) (pc' := 5) ok dX7_isKeptPlace_4 rfl rfl ?_
  refine sw_iconst (v := 3) (pc' := 6) ok dX7_isKeptPlace_5 rfl cc_iconst_3 ?_
  refine sw_icmp_ge (tgt := 13) (pc' := 9) ok dX7_isKeptPlace_6 (by decide) rfl ?_ ?_
  · refine sw_fg (l' := [none]) [false] rfl ?_
    exact hk1
  refine sw_iconst (v := 1) (pc' := 10) ok dX7_isKeptPlace_9 rfl cc_iconst_1 ?_
  refine sw_goto (tgt := 14) ok dX7_isKeptPlace_10 (by decide) ?_
  exact sw_retZ ok okr dX7_isKeptPlace_14
theorem S_X7_isKeptPlace (x0 : Int32) : Sim 0 yX7_isKeptPlace cX7_isKeptPlace 1 (some .boolean) iI [.int x0] (P_X7_isKeptPlace x0) := Sim.intro wd_1018 (by decide) (by decide +kernel) (Nat.le_of_ble_eq_true rfl) (fun Γ ok okr => W_X7_isKeptPlace ok okr x0)
theorem dX7_keep_0 : decode cX7_keep 0 = .ok (.iload_n 1, 1) := by decide +kernel
theorem dX7_keep_1 : decode cX7_keep 1 = .ok (.invokestatic 221, 3) := by decide +kernel
theorem dX7_keep_4 : decode cX7_keep 4 = .ok (.ifCond .ne 5, 3) := by decide +kernel
theorem dX7_keep_7 : decode cX7_keep 7 = .ok (.iconst (-1), 1) := by decide +kernel
theorem dX7_keep_8 : decode cX7_keep 8 = .ok (.ireturn, 1) := by decide +kernel
theorem dX7_keep_9 : decode cX7_keep 9 = .ok (.aload_n 0, 1) := by decide +kernel
theorem dX7_keep_10 : decode cX7_keep 10 = .ok (.getfield 27, 3) := by decide +kernel
theorem dX7_keep_13 : decode cX7_keep 13 = .ok (.invokevirtual 200, 3) := by decide +kernel
theorem dX7_keep_16 : decode cX7_keep 16 = .ok (.ifCond .eq 6, 3) := by decide +kernel
theorem dX7_keep_19 : decode cX7_keep 19 = .ok (.bipush (-4), 2) := by decide +kernel
theorem dX7_keep_21 : decode cX7_keep 21 = .ok (.ireturn, 1) := by decide +kernel
theorem dX7_keep_22 : decode cX7_keep 22 = .ok (.aload_n 0, 1) := by decide +kernel
theorem dX7_keep_23 : decode cX7_keep 23 = .ok (.getfield 20, 3) := by decide +kernel
theorem dX7_keep_26 : decode cX7_keep 26 = .ok (.iload_n 1, 1) := by decide +kernel
theorem dX7_keep_27 : decode cX7_keep 27 = .ok (.aaload, 1) := by decide +kernel
theorem dX7_keep_28 : decode cX7_keep 28 = .ok (.aload_n 0, 1) := by decide +kernel
theorem dX7_keep_29 : decode cX7_keep 29 = .ok (.getfield 39, 3) := by decide +kernel
theorem dX7_keep_32 : decode cX7_keep 32 = .ok (.invokevirtual 224, 3) := by decide +kernel
theorem dX7_keep_35 : decode cX7_keep 35 = .ok (.aload_n 0, 1) := by decide +kernel
theorem dX7_keep_36 : decode cX7_keep 36 = .ok (.getfield 20, 3) := by decide +kernel
theorem dX7_keep_39 : decode cX7_keep 39 = .ok (.iload_n 1, 1) := by decide +kernel
theorem dX7_keep_40 : decode cX7_keep 40 = .ok (.aaload, 1) := by decide +kernel
theorem dX7_keep_41 : decode cX7_keep 41 = .ok (.iconst 1, 1) := by decide +kernel
theorem dX7_keep_42 : decode cX7_keep 42 = .ok (.putfield 142, 3) := by decide +kernel
theorem dX7_keep_45 : decode cX7_keep 45 = .ok (.aload_n 0, 1) := by decide +kernel
theorem dX7_keep_46 : decode cX7_keep 46 = .ok (.getfield 39, 3) := by decide +kernel
theorem dX7_keep_49 : decode cX7_keep 49 = .ok (.getfield 214, 3) := by decide +kernel
theorem dX7_keep_52 : decode cX7_keep 52 = .ok (.ireturn, 1) := by decide +kernel
def P_X7_keep (a0 : Nat) (x1 : Int32) : PM Int32 :=
cll0 (P_X7_isKeptPlace x1) fun v1 =>
ifB (decide (¬ v1 = 0)) (
getR 7 3 a0 fun v2 =>
cllV 0 v2 (P_X0_isNobody v2) fun v3 =>
ifB (decide (v3 = 0)) (
getR 7 2 a0 fun v4 =>
aldR v4 x1 fun v5 =>
getR 7 5 a0 fun v6 =>
cllV 3 v5 (P_X3_become v5 v6) fun _ =>
getR 7 2 a0 fun v7 =>
aldR v7 x1 fun v8 =>
setZ 3 6 v8 1 <|
getR 7 5 a0 fun v9 =>
getI 3 2 v9 fun v10 =>
pureM v10) (
pureM ((-4)))) (
pureM ((-1)))
set_option maxHeartbeats 4000000 in
set_option maxRecDepth 100000 in
theorem W_X7_keep {Γ : Cx} (ok : OKc Γ cX7_keep RX7 2 "keep") (okr : OKr Γ cX7_keep (some .int)) (a0 : Nat) (x1 : Int32) : SW Γ iI 0 [some (.ref a0), some (.int x1)] [] (P_X7_keep a0 x1) := by
  unfold P_X7_keep
  refine sw_iload_n (z := x1) (pc' := 1) ok dX7_keep_0 rfl rfl ?_
  refine sw_cll0_I (st := []) (as := [.int x1]) (pc' := 4) ok (S_X7_isKeptPlace x1) (by decide) lk_X7_221 rfl dX7_keep_1 rfl (Nat.le_of_ble_eq_true rfl) rfl (fun v1 => ?_)
  refine sw_if_ne (tgt := 9) (pc' := 7) ok dX7_keep_4 (by decide) rfl ?_ ?_
  · refine sw_aload_n (z := a0) (pc' := 10) ok dX7_keep_9 rfl rfl ?_
    refine sw_getR (pc' := 13) ok (fr_X7_27.g) dX7_keep_10 rfl (fun v2 => ?_)
    refine sw_cllV_I (st := []) (as := []) (pc' := 16) ok (S_X0_isNobody v2) (by decide) lk_X7_200 rfl dX7_keep_13 rfl (Nat.le_of_ble_eq_true rfl) rfl (fun v3 => ?_)
    refine sw_if_eq (tgt := 22) (pc' := 19) ok dX7_keep_16 (by decide) rfl ?_ ?_
    · refine sw_aload_n (z := a0) (pc' := 23) ok dX7_keep_22 rfl rfl ?_
      refine sw_getR (pc' := 26) ok (fr_X7_20.g) dX7_keep_23 rfl (fun v4 => ?_)
      refine sw_iload_n (z := x1) (pc' := 27) ok dX7_keep_26 rfl rfl ?_
      refine sw_aldR (pc' := 28) ok dX7_keep_27 rfl (fun v5 => ?_)
      refine sw_aload_n (z := a0) (pc' := 29) ok dX7_keep_28 rfl rfl ?_
      refine sw_getR (pc' := 32) ok (fr_X7_39.g) dX7_keep_29 rfl (fun v6 => ?_)
      refine sw_cllV_U (st := []) (as := [.ref v6]) (pc' := 35) ok (S_X3_become v5 v6) (by decide) lk_X7_224 rfl dX7_keep_32 rfl (Nat.le_of_ble_eq_true rfl) rfl (fun _ => ?_)
      refine sw_aload_n (z := a0) (pc' := 36) ok dX7_keep_35 rfl rfl ?_
      refine sw_getR (pc' := 39) ok (fr_X7_20.g) dX7_keep_36 rfl (fun v7 => ?_)
      refine sw_iload_n (z := x1) (pc' := 40) ok dX7_keep_39 rfl rfl ?_
      refine sw_aldR (pc' := 41) ok dX7_keep_40 rfl (fun v8 => ?_)
      refine sw_iconst (v := 1) (pc' := 42) ok dX7_keep_41 rfl cc_iconst_1 ?_
      refine sw_setZ (pc' := 45) ok fr_X7_142 dX7_keep_42 (fun h => by cases h) rfl ?_
      refine sw_aload_n (z := a0) (pc' := 46) ok dX7_keep_45 rfl rfl ?_
      refine sw_getR (pc' := 49) ok (fr_X7_39.g) dX7_keep_46 rfl (fun v9 => ?_)
      refine sw_getI (pc' := 52) ok (fr_X7_214.g) dX7_keep_49 rfl (fun v10 => ?_)
      exact sw_ret ok okr dX7_keep_52 trivial rfl
    refine sw_bipush (v := (-4)) (pc' := 21) ok dX7_keep_19 rfl cc_bipush_m4 ?_
    exact sw_ret ok okr dX7_keep_21 trivial rfl
  refine sw_iconst (v := (-1)) (pc' := 8) ok dX7_keep_7 rfl cc_iconst_m1 ?_
  exact sw_ret ok okr dX7_keep_8 trivial rfl
theorem S_X7_keep (a0 : Nat) (x1 : Int32) : Sim 2 yX7_keep cX7_keep 2 (some .int) iI [.ref a0, .int x1] (P_X7_keep a0 x1) := Sim.intro wd_1019 (by decide) (by decide +kernel) (Nat.le_of_ble_eq_true rfl) (fun Γ ok okr => W_X7_keep ok okr a0 x1)
theorem dX7_on_0 : decode cX7_on 0 = .ok (.iload_n 1, 1) := by decide +kernel
theorem dX7_on_1 : decode cX7_on 1 = .ok (.invokestatic 221, 3) := by decide +kernel
theorem dX7_on_4 : decode cX7_on 4 = .ok (.ifCond .ne 5, 3) := by decide +kernel
theorem dX7_on_7 : decode cX7_on 7 = .ok (.iconst (-1), 1) := by decide +kernel
theorem dX7_on_8 : decode cX7_on 8 = .ok (.ireturn, 1) := by decide +kernel
theorem dX7_on_9 : decode cX7_on 9 = .ok (.aload_n 0, 1) := by decide +kernel
theorem dX7_on_10 : decode cX7_on 10 = .ok (.getfield 20, 3) := by decide +kernel
theorem dX7_on_13 : decode cX7_on 13 = .ok (.iload_n 1, 1) := by decide +kernel
theorem dX7_on_14 : decode cX7_on 14 = .ok (.aaload, 1) := by decide +kernel
theorem dX7_on_15 : decode cX7_on 15 = .ok (.getfield 142, 3) := by decide +kernel
theorem dX7_on_18 : decode cX7_on 18 = .ok (.ifCond .ne 9, 3) := by decide +kernel
theorem dX7_on_21 : decode cX7_on 21 = .ok (.aload_n 0, 1) := by decide +kernel
theorem dX7_on_22 : decode cX7_on 22 = .ok (.iconst 1, 1) := by decide +kernel
theorem dX7_on_23 : decode cX7_on 23 = .ok (.invokevirtual 82, 3) := by decide +kernel
theorem dX7_on_26 : decode cX7_on 26 = .ok (.ireturn, 1) := by decide +kernel
theorem dX7_on_27 : decode cX7_on 27 = .ok (.aload_n 0, 1) := by decide +kernel
theorem dX7_on_28 : decode cX7_on 28 = .ok (.getfield 39, 3) := by decide +kernel
theorem dX7_on_31 : decode cX7_on 31 = .ok (.aload_n 0, 1) := by decide +kernel
theorem dX7_on_32 : decode cX7_on 32 = .ok (.getfield 20, 3) := by decide +kernel
theorem dX7_on_35 : decode cX7_on 35 = .ok (.iload_n 1, 1) := by decide +kernel
theorem dX7_on_36 : decode cX7_on 36 = .ok (.aaload, 1) := by decide +kernel
theorem dX7_on_37 : decode cX7_on 37 = .ok (.invokevirtual 224, 3) := by decide +kernel
theorem dX7_on_40 : decode cX7_on 40 = .ok (.aload_n 0, 1) := by decide +kernel
theorem dX7_on_41 : decode cX7_on 41 = .ok (.getfield 39, 3) := by decide +kernel
theorem dX7_on_44 : decode cX7_on 44 = .ok (.getfield 214, 3) := by decide +kernel
theorem dX7_on_47 : decode cX7_on 47 = .ok (.ireturn, 1) := by decide +kernel
def P_X7_on (a0 : Nat) (x1 : Int32) : PM Int32 :=
cll0 (P_X7_isKeptPlace x1) fun v1 =>
ifB (decide (¬ v1 = 0)) (
getR 7 2 a0 fun v2 =>
aldR v2 x1 fun v3 =>
getI 3 6 v3 fun v4 =>
ifB (decide (¬ v4 = 0)) (
getR 7 5 a0 fun v5 =>
getR 7 2 a0 fun v6 =>
aldR v6 x1 fun v7 =>
cllV 3 v5 (P_X3_become v5 v7) fun _ =>
getR 7 5 a0 fun v8 =>
getI 3 2 v8 fun v9 =>
pureM v9) (
cllV 7 a0 (P_X7_found a0 1) fun v10 =>
pureM v10)) (
pureM ((-1)))
set_option maxHeartbeats 4000000 in
set_option maxRecDepth 100000 in
theorem W_X7_on {Γ : Cx} (ok : OKc Γ cX7_on RX7 2 "on") (okr : OKr Γ cX7_on (some .int)) (a0 : Nat) (x1 : Int32) : SW Γ iI 0 [some (.ref a0), some (.int x1)] [] (P_X7_on a0 x1) := by
  unfold P_X7_on
  refine sw_iload_n (z := x1) (pc' := 1) ok dX7_on_0 rfl rfl ?_
  refine sw_cll0_I (st := []) (as := [.int x1]) (pc' := 4) ok (S_X7_isKeptPlace x1) (by decide) lk_X7_221 rfl dX7_on_1 rfl (Nat.le_of_ble_eq_true rfl) rfl (fun v1 => ?_)
  refine sw_if_ne (tgt := 9) (pc' := 7) ok dX7_on_4 (by decide) rfl ?_ ?_
  · refine sw_aload_n (z := a0) (pc' := 10) ok dX7_on_9 rfl rfl ?_
    refine sw_getR (pc' := 13) ok (fr_X7_20.g) dX7_on_10 rfl (fun v2 => ?_)
    refine sw_iload_n (z := x1) (pc' := 14) ok dX7_on_13 rfl rfl ?_
    refine sw_aldR (pc' := 15) ok dX7_on_14 rfl (fun v3 => ?_)
    refine sw_getI (pc' := 18) ok (fr_X7_142.g) dX7_on_15 rfl (fun v4 => ?_)
    refine sw_if_ne (tgt := 27) (pc' := 21) ok dX7_on_18 (by decide) rfl ?_ ?_
    · refine sw_aload_n (z := a0) (pc' := 28) ok dX7_on_27 rfl rfl ?_
      refine sw_getR (pc' := 31) ok (fr_X7_39.g) dX7_on_28 rfl (fun v5 => ?_)
      refine sw_aload_n (z := a0) (pc' := 32) ok dX7_on_31 rfl rfl ?_
      refine sw_getR (pc' := 35) ok (fr_X7_20.g) dX7_on_32 rfl (fun v6 => ?_)
      refine sw_iload_n (z := x1) (pc' := 36) ok dX7_on_35 rfl rfl ?_
      refine sw_aldR (pc' := 37) ok dX7_on_36 rfl (fun v7 => ?_)
      refine sw_cllV_U (st := []) (as := [.ref v7]) (pc' := 40) ok (S_X3_become v5 v7) (by decide) lk_X7_224 rfl dX7_on_37 rfl (Nat.le_of_ble_eq_true rfl) rfl (fun _ => ?_)
      refine sw_aload_n (z := a0) (pc' := 41) ok dX7_on_40 rfl rfl ?_
      refine sw_getR (pc' := 44) ok (fr_X7_39.g) dX7_on_41 rfl (fun v8 => ?_)
      refine sw_getI (pc' := 47) ok (fr_X7_214.g) dX7_on_44 rfl (fun v9 => ?_)
      exact sw_ret ok okr dX7_on_47 trivial rfl
    refine sw_aload_n (z := a0) (pc' := 22) ok dX7_on_21 rfl rfl ?_
    refine sw_iconst (v := 1) (pc' := 23) ok dX7_on_22 rfl cc_iconst_1 ?_
    refine sw_cllV_I (st := []) (as := [.int 1]) (pc' := 26) ok (S_X7_found a0 1) (by decide) lk_X7_82 rfl dX7_on_23 rfl (Nat.le_of_ble_eq_true rfl) rfl (fun v10 => ?_)
    exact sw_ret ok okr dX7_on_26 trivial rfl
  refine sw_iconst (v := (-1)) (pc' := 8) ok dX7_on_7 rfl cc_iconst_m1 ?_
  exact sw_ret ok okr dX7_on_8 trivial rfl
theorem S_X7_on (a0 : Nat) (x1 : Int32) : Sim 2 yX7_on cX7_on 2 (some .int) iI [.ref a0, .int x1] (P_X7_on a0 x1) := Sim.intro wd_1020 (by decide) (by decide +kernel) (Nat.le_of_ble_eq_true rfl) (fun Γ ok okr => W_X7_on ok okr a0 x1)
theorem dX7_isTurns_0 : decode cX7_isTurns 0 = .ok (.iload_n 0, 1) := by decide +kernel
theorem dX7_isTurns_1 : decode cX7_isTurns 1 = .ok (.ifCond .lt 12, 3) := by decide +kernel
theorem dX7_isTurns_4 : decode cX7_isTurns 4 = .ok (.iload_n 0, 1) := by decide +kernel
theorem dX7_isTurns_5 : decode cX7_isTurns 5 = .ok (.iconst 3, 1) := by decide +kernel
theorem dX7_isTurns_6 : decode cX7_isTurns 6 = .ok (.if_icmp .gt 7, 3) := by decide +kernel
theorem dX7_isTurns_9 : decode cX7_isTurns 9 = .ok (.iconst 1, 1) := by decide +kernel
theorem dX7_isTurns_10 : decode cX7_isTurns 10 = .ok (.goto 4, 3) := by decide +kernel
theorem dX7_isTurns_13 : decode cX7_isTurns 13 = .ok (.iconst 0, 1) := by decide +kernel
theorem dX7_isTurns_14 : decode cX7_isTurns 14 = .ok (.ireturn, 1) := by decide +kernel
def P_X7_isTurns (x0 : Int32) : PM Int32 :=
jn (
retZ 0) fun k1 =>
ifB (decide (x0 < 0)) (
k1) (
ifB (decide (3 < x0)) (
k1) (
retZ 1))
set_option maxHeartbeats 4000000 in
set_option maxRecDepth 100000 in
theorem W_X7_isTurns {Γ : Cx} (ok : OKc Γ cX7_isTurns RX7 0 "isTurns") (okr : OKr Γ cX7_isTurns (some .boolean)) (x0 : Int32) : SW Γ iI 0 [some (.int x0)] [] (P_X7_isTurns x0) := by
  unfold P_X7_isTurns
  refine sw_iload_n (z := x0) (pc' := 1) ok dX7_isTurns_0 rfl rfl ?_
  refine sw_jn (fun k1 : PM Int32 => SW Γ iI 13 [none] [] (k1)) ?_ (fun k1 hk1 => ?_)
  · refine sw_iconst (v := 0) (pc' := 14) ok dX7_isTurns_13 rfl cc_iconst_0 ?_
    exact sw_retZ ok okr dX7_isTurns_14
  refine sw_if_lt (tgt := 13) (pc' := 4) ok dX7_isTurns_1 (by decide) rfl ?_ ?_
  · refine sw_fg (l' := [none]) [false] rfl ?_
    exact hk1
  refine sw_iload_n (z := x0) (pc' := 5) ok dX7_isTurns_4 rfl rfl ?_
  refine sw_iconst (v := 3) (pc' := 6) ok dX7_isTurns_5 rfl cc_iconst_3 ?_
  refine sw_icmp_gt (tgt := 13) (pc' := 9) ok dX7_isTurns_6 (by decide) rfl ?_ ?_
  · refine sw_fg (l' := [none]) [false] rfl ?_
    exact hk1
  refine sw_iconst (v := 1) (pc' := 10) ok dX7_isTurns_9 rfl cc_iconst_1 ?_
  refine sw_goto (tgt := 14) ok dX7_isTurns_10 (by decide) ?_
  exact sw_retZ ok okr dX7_isTurns_14
theorem S_X7_isTurns (x0 : Int32) : Sim 0 yX7_isTurns cX7_isTurns 1 (some .boolean) iI [.int x0] (P_X7_isTurns x0) := Sim.intro wd_1021 (by decide) (by decide +kernel) (Nat.le_of_ble_eq_true rfl) (fun Γ ok okr => W_X7_isTurns ok okr x0)
