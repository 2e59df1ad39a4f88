/-! Programs and walks, printed by program (gen.py). -/
theorem dX8_load_0 : decode cX8_load 0 = .ok (.iload_n 1, 1) := by decide +kernel
theorem dX8_load_1 : decode cX8_load 1 = .ok (.i2l, 1) := by decide +kernel
theorem dX8_load_2 : decode cX8_load 2 = .ok (.lconst 0, 1) := by decide +kernel
theorem dX8_load_3 : decode cX8_load 3 = .ok (.ldc2_w 217, 3) := by decide +kernel
theorem dX8_load_6 : decode cX8_load 6 = .ok (.invokestatic 80, 3) := by decide +kernel
theorem dX8_load_9 : decode cX8_load 9 = .ok (.ifCond .ne 5, 3) := by decide +kernel
theorem dX8_load_12 : decode cX8_load 12 = .ok (.iconst (-1), 1) := by decide +kernel
theorem dX8_load_13 : decode cX8_load 13 = .ok (.ireturn, 1) := by decide +kernel
theorem dX8_load_14 : decode cX8_load 14 = .ok (.aload_n 0, 1) := by decide +kernel
theorem dX8_load_15 : decode cX8_load 15 = .ok (.getfield 156, 3) := by decide +kernel
theorem dX8_load_18 : decode cX8_load 18 = .ok (.ifCond .ne 6, 3) := by decide +kernel
theorem dX8_load_21 : decode cX8_load 21 = .ok (.bipush (-4), 2) := by decide +kernel
theorem dX8_load_23 : decode cX8_load 23 = .ok (.ireturn, 1) := by decide +kernel
theorem dX8_load_24 : decode cX8_load 24 = .ok (.aload_n 0, 1) := by decide +kernel
theorem dX8_load_25 : decode cX8_load 25 = .ok (.getfield 159, 3) := by decide +kernel
theorem dX8_load_28 : decode cX8_load 28 = .ok (.bipush 40, 2) := by decide +kernel
theorem dX8_load_30 : decode cX8_load 30 = .ok (.if_icmp .ne 6, 3) := by decide +kernel
theorem dX8_load_33 : decode cX8_load 33 = .ok (.bipush (-2), 2) := by decide +kernel
theorem dX8_load_35 : decode cX8_load 35 = .ok (.ireturn, 1) := by decide +kernel
theorem dX8_load_36 : decode cX8_load 36 = .ok (.aload_n 0, 1) := by decide +kernel
theorem dX8_load_37 : decode cX8_load 37 = .ok (.invokevirtual 211, 3) := by decide +kernel
theorem dX8_load_40 : decode cX8_load 40 = .ok (.aload_n 0, 1) := by decide +kernel
theorem dX8_load_41 : decode cX8_load 41 = .ok (.iload_n 1, 1) := by decide +kernel
theorem dX8_load_42 : decode cX8_load 42 = .ok (.invokevirtual 219, 3) := by decide +kernel
theorem dX8_load_45 : decode cX8_load 45 = .ok (.ireturn, 1) := by decide +kernel
def P_X8_load (a0 : Nat) (x1 : Int32) : PM Int32 :=
cll0 (P_X8_in (Int32.toInt64 x1) 0 60) fun v1 =>
ifB (decide (¬ v1 = 0)) (
getI 8 10 a0 fun v2 =>
ifB (decide (¬ v2 = 0)) (
getI 8 11 a0 fun v3 =>
ifB (decide (¬ v3 = 40)) (
cllV 8 a0 (P_X8_remember a0) fun _ =>
cllV 8 a0 (P_X8_send a0 x1) fun v4 =>
pureM v4) (
pureM ((-2)))) (
pureM ((-4)))) (
pureM ((-1)))
set_option maxHeartbeats 4000000 in
set_option maxRecDepth 100000 in
theorem W_X8_load {Γ : Cx} (ok : OKc Γ cX8_load RX8 2 "load") (okr : OKr Γ cX8_load (some .int)) (a0 : Nat) (x1 : Int32) : SW Γ iI 0 [some (.ref a0), some (.int x1)] [] (P_X8_load a0 x1) := by
  unfold P_X8_load
  refine sw_iload_n (z := x1) (pc' := 1) ok dX8_load_0 rfl rfl ?_
  refine sw_i2l (pc' := 2) ok dX8_load_1 rfl ?_
  refine sw_lconst (v := 0) (pc' := 3) ok dX8_load_2 rfl cc_lconst_0 ?_
  refine sw_ldc2 (v := 60) (pc' := 6) ok dX8_load_3 rfl wd_572 ?_
  refine sw_cll0_I (st := []) (as := [.long (Int32.toInt64 x1), .long 0, .long 60]) (pc' := 9) ok (S_X8_in (Int32.toInt64 x1) 0 60) (by decide) lk_X8_80 rfl dX8_load_6 rfl (Nat.le_of_ble_eq_true rfl) rfl (fun v1 => ?_)
  refine sw_if_ne (tgt := 14) (pc' := 12) ok dX8_load_9 (by decide) rfl ?_ ?_
  · refine sw_aload_n (z := a0) (pc' := 15) ok dX8_load_14 rfl rfl ?_
    refine sw_getI (pc' := 18) ok (fr_X8_156.g) dX8_load_15 rfl (fun v2 => ?_)
    refine sw_if_ne (tgt := 24) (pc' := 21) ok dX8_load_18 (by decide) rfl ?_ ?_
    · refine sw_aload_n (z := a0) (pc' := 25) ok dX8_load_24 rfl rfl ?_
      refine sw_getI (pc' := 28) ok (fr_X8_159.g) dX8_load_25 rfl (fun v3 => ?_)
      refine sw_bipush (v := 40) (pc' := 30) ok dX8_load_28 rfl cc_bipush_40 ?_
      refine sw_icmp_ne (tgt := 36) (pc' := 33) ok dX8_load_30 (by decide) rfl ?_ ?_
      · refine sw_aload_n (z := a0) (pc' := 37) ok dX8_load_36 rfl rfl ?_
        refine sw_cllV_U (st := []) (as := []) (pc' := 40) ok (S_X8_remember a0) (by decide) lk_X8_211 rfl dX8_load_37 rfl (Nat.le_of_ble_eq_true rfl) rfl (fun _ => ?_)
        refine sw_aload_n (z := a0) (pc' := 41) ok dX8_load_40 rfl rfl ?_
        refine sw_iload_n (z := x1) (pc' := 42) ok dX8_load_41 rfl rfl ?_
        refine sw_cllV_I (st := []) (as := [.int x1]) (pc' := 45) ok (S_X8_send a0 x1) (by decide) lk_X8_219 rfl dX8_load_42 rfl (Nat.le_of_ble_eq_true rfl) rfl (fun v4 => ?_)
        exact sw_ret ok okr dX8_load_45 trivial rfl
      refine sw_bipush (v := (-2)) (pc' := 35) ok dX8_load_33 rfl cc_bipush_m2 ?_
      exact sw_ret ok okr dX8_load_35 trivial rfl
    refine sw_bipush (v := (-4)) (pc' := 23) ok dX8_load_21 rfl cc_bipush_m4 ?_
    exact sw_ret ok okr dX8_load_23 trivial rfl
  refine sw_iconst (v := (-1)) (pc' := 13) ok dX8_load_12 rfl cc_iconst_m1 ?_
  exact sw_ret ok okr dX8_load_13 trivial rfl
theorem S_X8_load (a0 : Nat) (x1 : Int32) : Sim 2 yX8_load cX8_load 2 (some .int) iI [.ref a0, .int x1] (P_X8_load a0 x1) := Sim.intro wd_1107 (by decide) (by decide +kernel) (Nat.le_of_ble_eq_true rfl) (fun Γ ok okr => W_X8_load ok okr a0 x1)
theorem dX8_coffee_0 : decode cX8_coffee 0 = .ok (.aload_n 0, 1) := by decide +kernel
theorem dX8_coffee_1 : decode cX8_coffee 1 = .ok (.iload_n 1, 1) := by decide +kernel
theorem dX8_coffee_2 : decode cX8_coffee 2 = .ok (.invokevirtual 186, 3) := by decide +kernel
theorem dX8_coffee_5 : decode cX8_coffee 5 = .ok (.ifCond .ne 5, 3) := by decide +kernel
theorem dX8_coffee_8 : decode cX8_coffee 8 = .ok (.iconst (-1), 1) := by decide +kernel
theorem dX8_coffee_9 : decode cX8_coffee 9 = .ok (.ireturn, 1) := by decide +kernel
theorem dX8_coffee_10 : decode cX8_coffee 10 = .ok (.aload_n 0, 1) := by decide +kernel
theorem dX8_coffee_11 : decode cX8_coffee 11 = .ok (.getfield 22, 3) := by decide +kernel
theorem dX8_coffee_14 : decode cX8_coffee 14 = .ok (.iconst 5, 1) := by decide +kernel
theorem dX8_coffee_15 : decode cX8_coffee 15 = .ok (.iload_n 1, 1) := by decide +kernel
theorem dX8_coffee_16 : decode cX8_coffee 16 = .ok (.iadd, 1) := by decide +kernel
theorem dX8_coffee_17 : decode cX8_coffee 17 = .ok (.iaload, 1) := by decide +kernel
theorem dX8_coffee_18 : decode cX8_coffee 18 = .ok (.ifCond .ne 6, 3) := by decide +kernel
theorem dX8_coffee_21 : decode cX8_coffee 21 = .ok (.bipush (-4), 2) := by decide +kernel
theorem dX8_coffee_23 : decode cX8_coffee 23 = .ok (.ireturn, 1) := by decide +kernel
theorem dX8_coffee_24 : decode cX8_coffee 24 = .ok (.aload_n 0, 1) := by decide +kernel
theorem dX8_coffee_25 : decode cX8_coffee 25 = .ok (.getfield 22, 3) := by decide +kernel
theorem dX8_coffee_28 : decode cX8_coffee 28 = .ok (.iconst 1, 1) := by decide +kernel
theorem dX8_coffee_29 : decode cX8_coffee 29 = .ok (.iaload, 1) := by decide +kernel
theorem dX8_coffee_30 : decode cX8_coffee 30 = .ok (.ifCond .ne 6, 3) := by decide +kernel
theorem dX8_coffee_33 : decode cX8_coffee 33 = .ok (.bipush (-6), 2) := by decide +kernel
theorem dX8_coffee_35 : decode cX8_coffee 35 = .ok (.ireturn, 1) := by decide +kernel
theorem dX8_coffee_36 : decode cX8_coffee 36 = .ok (.aload_n 0, 1) := by decide +kernel
theorem dX8_coffee_37 : decode cX8_coffee 37 = .ok (.getfield 159, 3) := by decide +kernel
theorem dX8_coffee_40 : decode cX8_coffee 40 = .ok (.bipush 40, 2) := by decide +kernel
theorem dX8_coffee_42 : decode cX8_coffee 42 = .ok (.if_icmp .ne 6, 3) := by decide +kernel
theorem dX8_coffee_45 : decode cX8_coffee 45 = .ok (.bipush (-2), 2) := by decide +kernel
theorem dX8_coffee_47 : decode cX8_coffee 47 = .ok (.ireturn, 1) := by decide +kernel
theorem dX8_coffee_48 : decode cX8_coffee 48 = .ok (.aload_n 0, 1) := by decide +kernel
theorem dX8_coffee_49 : decode cX8_coffee 49 = .ok (.invokevirtual 211, 3) := by decide +kernel
theorem dX8_coffee_52 : decode cX8_coffee 52 = .ok (.aload_n 0, 1) := by decide +kernel
theorem dX8_coffee_53 : decode cX8_coffee 53 = .ok (.getfield 22, 3) := by decide +kernel
theorem dX8_coffee_56 : decode cX8_coffee 56 = .ok (.iconst 1, 1) := by decide +kernel
theorem dX8_coffee_57 : decode cX8_coffee 57 = .ok (.dup2, 1) := by decide +kernel
theorem dX8_coffee_58 : decode cX8_coffee 58 = .ok (.iaload, 1) := by decide +kernel
theorem dX8_coffee_59 : decode cX8_coffee 59 = .ok (.iconst 1, 1) := by decide +kernel
theorem dX8_coffee_60 : decode cX8_coffee 60 = .ok (.isub, 1) := by decide +kernel
theorem dX8_coffee_61 : decode cX8_coffee 61 = .ok (.iastore, 1) := by decide +kernel
theorem dX8_coffee_62 : decode cX8_coffee 62 = .ok (.aload_n 0, 1) := by decide +kernel
theorem dX8_coffee_63 : decode cX8_coffee 63 = .ok (.getfield 22, 3) := by decide +kernel
theorem dX8_coffee_66 : decode cX8_coffee 66 = .ok (.iconst 5, 1) := by decide +kernel
theorem dX8_coffee_67 : decode cX8_coffee 67 = .ok (.iload_n 1, 1) := by decide +kernel
theorem dX8_coffee_68 : decode cX8_coffee 68 = .ok (.iadd, 1) := by decide +kernel
theorem dX8_coffee_69 : decode cX8_coffee 69 = .ok (.iconst 0, 1) := by decide +kernel
theorem dX8_coffee_70 : decode cX8_coffee 70 = .ok (.iastore, 1) := by decide +kernel
theorem dX8_coffee_71 : decode cX8_coffee 71 = .ok (.aload_n 0, 1) := by decide +kernel
theorem dX8_coffee_72 : decode cX8_coffee 72 = .ok (.getfield 22, 3) := by decide +kernel
theorem dX8_coffee_75 : decode cX8_coffee 75 = .ok (.iconst 1, 1) := by decide +kernel
theorem dX8_coffee_76 : decode cX8_coffee 76 = .ok (.iaload, 1) := by decide +kernel
theorem dX8_coffee_77 : decode cX8_coffee 77 = .ok (.ireturn, 1) := by decide +kernel
def P_X8_coffee (a0 : Nat) (x1 : Int32) : PM Int32 :=
cllV 8 a0 (P_X8_isOne a0 x1) fun v1 =>
ifB (decide (¬ v1 = 0)) (
getR 8 4 a0 fun v2 =>
ald v2 (5 + x1) fun v3 =>
ifB (decide (¬ v3 = 0)) (
getR 8 4 a0 fun v4 =>
ald v4 1 fun v5 =>
ifB (decide (¬ v5 = 0)) (
getI 8 11 a0 fun v6 =>
ifB (decide (¬ v6 = 40)) (
cllV 8 a0 (P_X8_remember a0) fun _ =>
getR 8 4 a0 fun v7 =>
ald v7 1 fun v8 =>
ast v7 1 (v8 - 1) <|
getR 8 4 a0 fun v9 =>
ast v9 (5 + x1) 0 <|
getR 8 4 a0 fun v10 =>
ald v10 1 fun v11 =>
pureM v11) (
pureM ((-2)))) (
pureM ((-6)))) (
pureM ((-4)))) (
pureM ((-1)))
set_option maxHeartbeats 4000000 in
set_option maxRecDepth 100000 in
theorem W_X8_coffee {Γ : Cx} (ok : OKc Γ cX8_coffee RX8 2 "coffee") (okr : OKr Γ cX8_coffee (some .int)) (a0 : Nat) (x1 : Int32) : SW Γ iI 0 [some (.ref a0), some (.int x1)] [] (P_X8_coffee a0 x1) := by
  unfold P_X8_coffee
  refine sw_aload_n (z := a0) (pc' := 1) ok dX8_coffee_0 rfl rfl ?_
  refine sw_iload_n (z := x1) (pc' := 2) ok dX8_coffee_1 rfl rfl ?_
  refine sw_cllV_I (st := []) (as := [.int x1]) (pc' := 5) ok (S_X8_isOne a0 x1) (by decide) lk_X8_186 rfl dX8_coffee_2 rfl (Nat.le_of_ble_eq_true rfl) rfl (fun v1 => ?_)
  refine sw_if_ne (tgt := 10) (pc' := 8) ok dX8_coffee_5 (by decide) rfl ?_ ?_
  · refine sw_aload_n (z := a0) (pc' := 11) ok dX8_coffee_10 rfl rfl ?_
    refine sw_getR (pc' := 14) ok (fr_X8_22.g) dX8_coffee_11 rfl (fun v2 => ?_)
    refine sw_iconst (v := 5) (pc' := 15) ok dX8_coffee_14 rfl cc_iconst_5 ?_
    refine sw_iload_n (z := x1) (pc' := 16) ok dX8_coffee_15 rfl rfl ?_
    refine sw_iadd (pc' := 17) ok dX8_coffee_16 rfl ?_
    refine sw_ald (pc' := 18) ok dX8_coffee_17 rfl (fun v3 => ?_)
    refine sw_if_ne (tgt := 24) (pc' := 21) ok dX8_coffee_18 (by decide) rfl ?_ ?_
    · refine sw_aload_n (z := a0) (pc' := 25) ok dX8_coffee_24 rfl rfl ?_
      refine sw_getR (pc' := 28) ok (fr_X8_22.g) dX8_coffee_25 rfl (fun v4 => ?_)
      refine sw_iconst (v := 1) (pc' := 29) ok dX8_coffee_28 rfl cc_iconst_1 ?_
      refine sw_ald (pc' := 30) ok dX8_coffee_29 rfl (fun v5 => ?_)
      refine sw_if_ne (tgt := 36) (pc' := 33) ok dX8_coffee_30 (by decide) rfl ?_ ?_
      · refine sw_aload_n (z := a0) (pc' := 37) ok dX8_coffee_36 rfl rfl ?_
        refine sw_getI (pc' := 40) ok (fr_X8_159.g) dX8_coffee_37 rfl (fun v6 => ?_)
        refine sw_bipush (v := 40) (pc' := 42) ok dX8_coffee_40 rfl cc_bipush_40 ?_
        refine sw_icmp_ne (tgt := 48) (pc' := 45) ok dX8_coffee_42 (by decide) rfl ?_ ?_
        · refine sw_aload_n (z := a0) (pc' := 49) ok dX8_coffee_48 rfl rfl ?_
          refine sw_cllV_U (st := []) (as := []) (pc' := 52) ok (S_X8_remember a0) (by decide) lk_X8_211 rfl dX8_coffee_49 rfl (Nat.le_of_ble_eq_true rfl) rfl (fun _ => ?_)
          refine sw_aload_n (z := a0) (pc' := 53) ok dX8_coffee_52 rfl rfl ?_
          refine sw_getR (pc' := 56) ok (fr_X8_22.g) dX8_coffee_53 rfl (fun v7 => ?_)
          refine sw_iconst (v := 1) (pc' := 57) ok dX8_coffee_56 rfl cc_iconst_1 ?_
          refine sw_dup2 (pc' := 58) ok dX8_coffee_57 rfl rfl rfl ?_
          refine sw_ald (pc' := 59) ok dX8_coffee_58 rfl (fun v8 => ?_)
          refine sw_iconst (v := 1) (pc' := 60) ok dX8_coffee_59 rfl cc_iconst_1 ?_
          refine sw_isub (pc' := 61) ok dX8_coffee_60 rfl ?_
          refine sw_ast (pc' := 62) ok dX8_coffee_61 rfl ?_
          refine sw_aload_n (z := a0) (pc' := 63) ok dX8_coffee_62 rfl rfl ?_
          refine sw_getR (pc' := 66) ok (fr_X8_22.g) dX8_coffee_63 rfl (fun v9 => ?_)
          refine sw_iconst (v := 5) (pc' := 67) ok dX8_coffee_66 rfl cc_iconst_5 ?_
          refine sw_iload_n (z := x1) (pc' := 68) ok dX8_coffee_67 rfl rfl ?_
          refine sw_iadd (pc' := 69) ok dX8_coffee_68 rfl ?_
          refine sw_iconst (v := 0) (pc' := 70) ok dX8_coffee_69 rfl cc_iconst_0 ?_
          refine sw_ast (pc' := 71) ok dX8_coffee_70 rfl ?_
          refine sw_aload_n (z := a0) (pc' := 72) ok dX8_coffee_71 rfl rfl ?_
          refine sw_getR (pc' := 75) ok (fr_X8_22.g) dX8_coffee_72 rfl (fun v10 => ?_)
          refine sw_iconst (v := 1) (pc' := 76) ok dX8_coffee_75 rfl cc_iconst_1 ?_
          refine sw_ald (pc' := 77) ok dX8_coffee_76 rfl (fun v11 => ?_)
          exact sw_ret ok okr dX8_coffee_77 trivial rfl
        refine sw_bipush (v := (-2)) (pc' := 47) ok dX8_coffee_45 rfl cc_bipush_m2 ?_
        exact sw_ret ok okr dX8_coffee_47 trivial rfl
      refine sw_bipush (v := (-6)) (pc' := 35) ok dX8_coffee_33 rfl cc_bipush_m6 ?_
      exact sw_ret ok okr dX8_coffee_35 trivial rfl
    refine sw_bipush (v := (-4)) (pc' := 23) ok dX8_coffee_21 rfl cc_bipush_m4 ?_
    exact sw_ret ok okr dX8_coffee_23 trivial rfl
  refine sw_iconst (v := (-1)) (pc' := 9) ok dX8_coffee_8 rfl cc_iconst_m1 ?_
  exact sw_ret ok okr dX8_coffee_9 trivial rfl
theorem S_X8_coffee (a0 : Nat) (x1 : Int32) : Sim 2 yX8_coffee cX8_coffee 2 (some .int) iI [.ref a0, .int x1] (P_X8_coffee a0 x1) := Sim.intro wd_1108 (by decide) (by decide +kernel) (Nat.le_of_ble_eq_true rfl) (fun Γ ok okr => W_X8_coffee ok okr a0 x1)
theorem dX8_undo_0 : decode cX8_undo 0 = .ok (.iload_n 1, 1) := by decide +kernel
theorem dX8_undo_1 : decode cX8_undo 1 = .ok (.i2l, 1) := by decide +kernel
theorem dX8_undo_2 : decode cX8_undo 2 = .ok (.lconst 0, 1) := by decide +kernel
theorem dX8_undo_3 : decode cX8_undo 3 = .ok (.aload_n 0, 1) := by decide +kernel
theorem dX8_undo_4 : decode cX8_undo 4 = .ok (.getfield 159, 3) := by decide +kernel
theorem dX8_undo_7 : decode cX8_undo 7 = .ok (.i2l, 1) := by decide +kernel
theorem dX8_undo_8 : decode cX8_undo 8 = .ok (.invokestatic 80, 3) := by decide +kernel
theorem dX8_undo_11 : decode cX8_undo 11 = .ok (.ifCond .ne 5, 3) := by decide +kernel
theorem dX8_undo_14 : decode cX8_undo 14 = .ok (.iconst (-1), 1) := by decide +kernel
theorem dX8_undo_15 : decode cX8_undo 15 = .ok (.ireturn, 1) := by decide +kernel
theorem dX8_undo_16 : decode cX8_undo 16 = .ok (.aload_n 0, 1) := by decide +kernel
theorem dX8_undo_17 : decode cX8_undo 17 = .ok (.getfield 159, 3) := by decide +kernel
theorem dX8_undo_20 : decode cX8_undo 20 = .ok (.iload_n 1, 1) := by decide +kernel
theorem dX8_undo_21 : decode cX8_undo 21 = .ok (.isub, 1) := by decide +kernel
theorem dX8_undo_22 : decode cX8_undo 22 = .ok (.istore_n 2, 1) := by decide +kernel
theorem dX8_undo_23 : decode cX8_undo 23 = .ok (.iload_n 2, 1) := by decide +kernel
theorem dX8_undo_24 : decode cX8_undo 24 = .ok (.ifCond .le 17, 3) := by decide +kernel
theorem dX8_undo_27 : decode cX8_undo 27 = .ok (.aload_n 0, 1) := by decide +kernel
theorem dX8_undo_28 : decode cX8_undo 28 = .ok (.bipush 22, 2) := by decide +kernel
theorem dX8_undo_30 : decode cX8_undo 30 = .ok (.bipush 11, 2) := by decide +kernel
theorem dX8_undo_32 : decode cX8_undo 32 = .ok (.iload_n 1, 1) := by decide +kernel
theorem dX8_undo_33 : decode cX8_undo 33 = .ok (.imul, 1) := by decide +kernel
theorem dX8_undo_34 : decode cX8_undo 34 = .ok (.iadd, 1) := by decide +kernel
theorem dX8_undo_35 : decode cX8_undo 35 = .ok (.iconst 0, 1) := by decide +kernel
theorem dX8_undo_36 : decode cX8_undo 36 = .ok (.bipush 11, 2) := by decide +kernel
theorem dX8_undo_38 : decode cX8_undo 38 = .ok (.invokevirtual 204, 3) := by decide +kernel
theorem dX8_undo_41 : decode cX8_undo 41 = .ok (.aload_n 0, 1) := by decide +kernel
theorem dX8_undo_42 : decode cX8_undo 42 = .ok (.iload_n 1, 1) := by decide +kernel
theorem dX8_undo_43 : decode cX8_undo 43 = .ok (.putfield 159, 3) := by decide +kernel
theorem dX8_undo_46 : decode cX8_undo 46 = .ok (.iload_n 2, 1) := by decide +kernel
theorem dX8_undo_47 : decode cX8_undo 47 = .ok (.ireturn, 1) := by decide +kernel
def P_X8_undo (a0 : Nat) (x1 : Int32) : PM Int32 :=
getI 8 11 a0 fun v1 =>
cll0 (P_X8_in (Int32.toInt64 x1) 0 (Int32.toInt64 v1)) fun v2 =>
ifB (decide (¬ v2 = 0)) (
getI 8 11 a0 fun v3 =>
jn (
setI 8 11 a0 x1 <|
pureM (v3 - x1)) fun k4 =>
ifB (decide ((v3 - x1) ≤ 0)) (
k4) (
cllV 8 a0 (P_X8_take a0 (22 + (11 * x1)) 0 11) fun _ =>
k4)) (
pureM ((-1)))
set_option maxHeartbeats 4000000 in
set_option maxRecDepth 100000 in
theorem W_X8_undo {Γ : Cx} (ok : OKc Γ cX8_undo RX8 1 "undo") (okr : OKr Γ cX8_undo (some .int)) (a0 : Nat) (x1 : Int32) : SW Γ iI 0 [some (.ref a0), some (.int x1), none] [] (P_X8_undo a0 x1) := by
  unfold P_X8_undo
  refine sw_iload_n (z := x1) (pc' := 1) ok dX8_undo_0 rfl rfl ?_
  refine sw_i2l (pc' := 2) ok dX8_undo_1 rfl ?_
  refine sw_lconst (v := 0) (pc' := 3) ok dX8_undo_2 rfl cc_lconst_0 ?_
  refine sw_aload_n (z := a0) (pc' := 4) ok dX8_undo_3 rfl rfl ?_
  refine sw_getI (pc' := 7) ok (fr_X8_159.g) dX8_undo_4 rfl (fun v1 => ?_)
  refine sw_i2l (pc' := 8) ok dX8_undo_7 rfl ?_
  refine sw_cll0_I (st := []) (as := [.long (Int32.toInt64 x1), .long 0, .long (Int32.toInt64 v1)]) (pc' := 11) ok (S_X8_in (Int32.toInt64 x1) 0 (Int32.toInt64 v1)) (by decide) lk_X8_80 rfl dX8_undo_8 rfl (Nat.le_of_ble_eq_true rfl) rfl (fun v2 => ?_)
  refine sw_if_ne (tgt := 16) (pc' := 14) ok dX8_undo_11 (by decide) rfl ?_ ?_
  · refine sw_aload_n (z := a0) (pc' := 17) ok dX8_undo_16 rfl rfl ?_
    refine sw_getI (pc' := 20) ok (fr_X8_159.g) dX8_undo_17 rfl (fun v3 => ?_)
    refine sw_iload_n (z := x1) (pc' := 21) ok dX8_undo_20 rfl rfl ?_
    refine sw_isub (pc' := 22) ok dX8_undo_21 rfl ?_
    refine sw_istore_n (pc' := 23) (l' := [some (.ref a0), some (.int x1), some (.int (v3 - x1))]) ok dX8_undo_22 rfl (Nat.le_of_ble_eq_true rfl) rfl ?_
    refine sw_iload_n (z := (v3 - x1)) (pc' := 24) ok dX8_undo_23 rfl rfl ?_
    refine sw_jn (fun k4 : PM Int32 => SW Γ iI 41 [some (.ref a0), some (.int x1), some (.int (v3 - x1))] [] (k4)) ?_ (fun k4 hk4 => ?_)
    · refine sw_aload_n (z := a0) (pc' := 42) ok dX8_undo_41 rfl rfl ?_
      refine sw_iload_n (z := x1) (pc' := 43) ok dX8_undo_42 rfl rfl ?_
      refine sw_setI (pc' := 46) ok fr_X8_159 dX8_undo_43 (fun h => by cases h) rfl ?_
      refine sw_iload_n (z := (v3 - x1)) (pc' := 47) ok dX8_undo_46 rfl rfl ?_
      exact sw_ret ok okr dX8_undo_47 trivial rfl
    refine sw_if_le (tgt := 41) (pc' := 27) ok dX8_undo_24 (by decide) rfl ?_ ?_
    · exact hk4
    refine sw_aload_n (z := a0) (pc' := 28) ok dX8_undo_27 rfl rfl ?_
    refine sw_bipush (v := 22) (pc' := 30) ok dX8_undo_28 rfl cc_bipush_22 ?_
    refine sw_bipush (v := 11) (pc' := 32) ok dX8_undo_30 rfl cc_bipush_11 ?_
    refine sw_iload_n (z := x1) (pc' := 33) ok dX8_undo_32 rfl rfl ?_
    refine sw_imul (pc' := 34) ok dX8_undo_33 rfl ?_
    refine sw_iadd (pc' := 35) ok dX8_undo_34 rfl ?_
    refine sw_iconst (v := 0) (pc' := 36) ok dX8_undo_35 rfl cc_iconst_0 ?_
    refine sw_bipush (v := 11) (pc' := 38) ok dX8_undo_36 rfl cc_bipush_11 ?_
    refine sw_cllV_U (st := []) (as := [.int (22 + (11 * x1)), .int 0, .int 11]) (pc' := 41) ok (S_X8_take a0 (22 + (11 * x1)) 0 11) (by decide) lk_X8_204 rfl dX8_undo_38 rfl (Nat.le_of_ble_eq_true rfl) rfl (fun _ => ?_)
    exact hk4
  refine sw_iconst (v := (-1)) (pc' := 15) ok dX8_undo_14 rfl cc_iconst_m1 ?_
  exact sw_ret ok okr dX8_undo_15 trivial rfl
theorem S_X8_undo (a0 : Nat) (x1 : Int32) : Sim 1 yX8_undo cX8_undo 3 (some .int) iI [.ref a0, .int x1] (P_X8_undo a0 x1) := Sim.intro wd_1109 (by decide) (by decide +kernel) (Nat.le_of_ble_eq_true rfl) (fun Γ ok okr => W_X8_undo ok okr a0 x1)
theorem dX8_keep_0 : decode cX8_keep 0 = .ok (.iload_n 1, 1) := by decide +kernel
theorem dX8_keep_1 : decode cX8_keep 1 = .ok (.i2l, 1) := by decide +kernel
theorem dX8_keep_2 : decode cX8_keep 2 = .ok (.lconst 0, 1) := by decide +kernel
theorem dX8_keep_3 : decode cX8_keep 3 = .ok (.ldc2_w 222, 3) := by decide +kernel
theorem dX8_keep_6 : decode cX8_keep 6 = .ok (.invokestatic 80, 3) := by decide +kernel
theorem dX8_keep_9 : decode cX8_keep 9 = .ok (.ifCond .ne 5, 3) := by decide +kernel
theorem dX8_keep_12 : decode cX8_keep 12 = .ok (.iconst (-1), 1) := by decide +kernel
theorem dX8_keep_13 : decode cX8_keep 13 = .ok (.ireturn, 1) := by decide +kernel
theorem dX8_keep_14 : decode cX8_keep 14 = .ok (.aload_n 0, 1) := by decide +kernel
theorem dX8_keep_15 : decode cX8_keep 15 = .ok (.getfield 156, 3) := by decide +kernel
theorem dX8_keep_18 : decode cX8_keep 18 = .ok (.ifCond .ne 6, 3) := by decide +kernel
theorem dX8_keep_21 : decode cX8_keep 21 = .ok (.bipush (-4), 2) := by decide +kernel
theorem dX8_keep_23 : decode cX8_keep 23 = .ok (.ireturn, 1) := by decide +kernel
theorem dX8_keep_24 : decode cX8_keep 24 = .ok (.aload_n 0, 1) := by decide +kernel
theorem dX8_keep_25 : decode cX8_keep 25 = .ok (.iconst 0, 1) := by decide +kernel
theorem dX8_keep_26 : decode cX8_keep 26 = .ok (.sipush 462, 3) := by decide +kernel
theorem dX8_keep_29 : decode cX8_keep 29 = .ok (.iload_n 1, 1) := by decide +kernel
theorem dX8_keep_30 : decode cX8_keep 30 = .ok (.iconst 1, 1) := by decide +kernel
theorem dX8_keep_31 : decode cX8_keep 31 = .ok (.iadd, 1) := by decide +kernel
theorem dX8_keep_32 : decode cX8_keep 32 = .ok (.imul, 1) := by decide +kernel
theorem dX8_keep_33 : decode cX8_keep 33 = .ok (.sipush 462, 3) := by decide +kernel
theorem dX8_keep_36 : decode cX8_keep 36 = .ok (.invokevirtual 204, 3) := by decide +kernel
theorem dX8_keep_39 : decode cX8_keep 39 = .ok (.aload_n 0, 1) := by decide +kernel
theorem dX8_keep_40 : decode cX8_keep 40 = .ok (.getfield 25, 3) := by decide +kernel
theorem dX8_keep_43 : decode cX8_keep 43 = .ok (.iload_n 1, 1) := by decide +kernel
theorem dX8_keep_44 : decode cX8_keep 44 = .ok (.aload_n 0, 1) := by decide +kernel
theorem dX8_keep_45 : decode cX8_keep 45 = .ok (.getfield 159, 3) := by decide +kernel
theorem dX8_keep_48 : decode cX8_keep 48 = .ok (.iastore, 1) := by decide +kernel
theorem dX8_keep_49 : decode cX8_keep 49 = .ok (.aload_n 0, 1) := by decide +kernel
theorem dX8_keep_50 : decode cX8_keep 50 = .ok (.getfield 159, 3) := by decide +kernel
theorem dX8_keep_53 : decode cX8_keep 53 = .ok (.ireturn, 1) := by decide +kernel
def P_X8_keep (a0 : Nat) (x1 : Int32) : PM Int32 :=
cll0 (P_X8_in (Int32.toInt64 x1) 0 2) fun v1 =>
ifB (decide (¬ v1 = 0)) (
getI 8 10 a0 fun v2 =>
ifB (decide (¬ v2 = 0)) (
cllV 8 a0 (P_X8_take a0 0 (462 * (x1 + 1)) 462) fun _ =>
getR 8 5 a0 fun v3 =>
getI 8 11 a0 fun v4 =>
ast v3 x1 v4 <|
getI 8 11 a0 fun v5 =>
pureM v5) (
pureM ((-4)))) (
pureM ((-1)))
set_option maxHeartbeats 4000000 in
set_option maxRecDepth 100000 in
theorem W_X8_keep {Γ : Cx} (ok : OKc Γ cX8_keep RX8 1 "keep") (okr : OKr Γ cX8_keep (some .int)) (a0 : Nat) (x1 : Int32) : SW Γ iI 0 [some (.ref a0), some (.int x1)] [] (P_X8_keep a0 x1) := by
  unfold P_X8_keep
  refine sw_iload_n (z := x1) (pc' := 1) ok dX8_keep_0 rfl rfl ?_
  refine sw_i2l (pc' := 2) ok dX8_keep_1 rfl ?_
  refine sw_lconst (v := 0) (pc' := 3) ok dX8_keep_2 rfl cc_lconst_0 ?_
  refine sw_ldc2 (v := 2) (pc' := 6) ok dX8_keep_3 rfl wd_576 ?_
  refine sw_cll0_I (st := []) (as := [.long (Int32.toInt64 x1), .long 0, .long 2]) (pc' := 9) ok (S_X8_in (Int32.toInt64 x1) 0 2) (by decide) lk_X8_80 rfl dX8_keep_6 rfl (Nat.le_of_ble_eq_true rfl) rfl (fun v1 => ?_)
  refine sw_if_ne (tgt := 14) (pc' := 12) ok dX8_keep_9 (by decide) rfl ?_ ?_
  · refine sw_aload_n (z := a0) (pc' := 15) ok dX8_keep_14 rfl rfl ?_
    refine sw_getI (pc' := 18) ok (fr_X8_156.g) dX8_keep_15 rfl (fun v2 => ?_)
    refine sw_if_ne (tgt := 24) (pc' := 21) ok dX8_keep_18 (by decide) rfl ?_ ?_
    · refine sw_aload_n (z := a0) (pc' := 25) ok dX8_keep_24 rfl rfl ?_
      refine sw_iconst (v := 0) (pc' := 26) ok dX8_keep_25 rfl cc_iconst_0 ?_
      refine sw_sipush (v := 462) (pc' := 29) ok dX8_keep_26 rfl cc_sipush_462 ?_
      refine sw_iload_n (z := x1) (pc' := 30) ok dX8_keep_29 rfl rfl ?_
      refine sw_iconst (v := 1) (pc' := 31) ok dX8_keep_30 rfl cc_iconst_1 ?_
      refine sw_iadd (pc' := 32) ok dX8_keep_31 rfl ?_
      refine sw_imul (pc' := 33) ok dX8_keep_32 rfl ?_
      refine sw_sipush (v := 462) (pc' := 36) ok dX8_keep_33 rfl cc_sipush_462 ?_
      refine sw_cllV_U (st := []) (as := [.int 0, .int (462 * (x1 + 1)), .int 462]) (pc' := 39) ok (S_X8_take a0 0 (462 * (x1 + 1)) 462) (by decide) lk_X8_204 rfl dX8_keep_36 rfl (Nat.le_of_ble_eq_true rfl) rfl (fun _ => ?_)
      refine sw_aload_n (z := a0) (pc' := 40) ok dX8_keep_39 rfl rfl ?_
      refine sw_getR (pc' := 43) ok (fr_X8_25.g) dX8_keep_40 rfl (fun v3 => ?_)
      refine sw_iload_n (z := x1) (pc' := 44) ok dX8_keep_43 rfl rfl ?_
      refine sw_aload_n (z := a0) (pc' := 45) ok dX8_keep_44 rfl rfl ?_
      refine sw_getI (pc' := 48) ok (fr_X8_159.g) dX8_keep_45 rfl (fun v4 => ?_)
      refine sw_ast (pc' := 49) ok dX8_keep_48 rfl ?_
      refine sw_aload_n (z := a0) (pc' := 50) ok dX8_keep_49 rfl rfl ?_
      refine sw_getI (pc' := 53) ok (fr_X8_159.g) dX8_keep_50 rfl (fun v5 => ?_)
      exact sw_ret ok okr dX8_keep_53 trivial rfl
    refine sw_bipush (v := (-4)) (pc' := 23) ok dX8_keep_21 rfl cc_bipush_m4 ?_
    exact sw_ret ok okr dX8_keep_23 trivial rfl
  refine sw_iconst (v := (-1)) (pc' := 13) ok dX8_keep_12 rfl cc_iconst_m1 ?_
  exact sw_ret ok okr dX8_keep_13 trivial rfl
theorem S_X8_keep (a0 : Nat) (x1 : Int32) : Sim 1 yX8_keep cX8_keep 2 (some .int) iI [.ref a0, .int x1] (P_X8_keep a0 x1) := Sim.intro wd_1110 (by decide) (by decide +kernel) (Nat.le_of_ble_eq_true rfl) (fun Γ ok okr => W_X8_keep ok okr a0 x1)
theorem dX8_on_0 : decode cX8_on 0 = .ok (.iload_n 1, 1) := by decide +kernel
theorem dX8_on_1 : decode cX8_on 1 = .ok (.i2l, 1) := by decide +kernel
theorem dX8_on_2 : decode cX8_on 2 = .ok (.lconst 0, 1) := by decide +kernel
theorem dX8_on_3 : decode cX8_on 3 = .ok (.ldc2_w 222, 3) := by decide +kernel
theorem dX8_on_6 : decode cX8_on 6 = .ok (.invokestatic 80, 3) := by decide +kernel
theorem dX8_on_9 : decode cX8_on 9 = .ok (.ifCond .ne 5, 3) := by decide +kernel
theorem dX8_on_12 : decode cX8_on 12 = .ok (.iconst (-1), 1) := by decide +kernel
theorem dX8_on_13 : decode cX8_on 13 = .ok (.ireturn, 1) := by decide +kernel
theorem dX8_on_14 : decode cX8_on 14 = .ok (.aload_n 0, 1) := by decide +kernel
theorem dX8_on_15 : decode cX8_on 15 = .ok (.getfield 25, 3) := by decide +kernel
theorem dX8_on_18 : decode cX8_on 18 = .ok (.iload_n 1, 1) := by decide +kernel
theorem dX8_on_19 : decode cX8_on 19 = .ok (.iaload, 1) := by decide +kernel
theorem dX8_on_20 : decode cX8_on 20 = .ok (.ifCond .ge 9, 3) := by decide +kernel
theorem dX8_on_23 : decode cX8_on 23 = .ok (.aload_n 0, 1) := by decide +kernel
theorem dX8_on_24 : decode cX8_on 24 = .ok (.iconst 1, 1) := by decide +kernel
theorem dX8_on_25 : decode cX8_on 25 = .ok (.invokevirtual 90, 3) := by decide +kernel
theorem dX8_on_28 : decode cX8_on 28 = .ok (.ireturn, 1) := by decide +kernel
theorem dX8_on_29 : decode cX8_on 29 = .ok (.aload_n 0, 1) := by decide +kernel
theorem dX8_on_30 : decode cX8_on 30 = .ok (.sipush 462, 3) := by decide +kernel
theorem dX8_on_33 : decode cX8_on 33 = .ok (.iload_n 1, 1) := by decide +kernel
theorem dX8_on_34 : decode cX8_on 34 = .ok (.iconst 1, 1) := by decide +kernel
theorem dX8_on_35 : decode cX8_on 35 = .ok (.iadd, 1) := by decide +kernel
theorem dX8_on_36 : decode cX8_on 36 = .ok (.imul, 1) := by decide +kernel
theorem dX8_on_37 : decode cX8_on 37 = .ok (.iconst 0, 1) := by decide +kernel
theorem dX8_on_38 : decode cX8_on 38 = .ok (.sipush 462, 3) := by decide +kernel
theorem dX8_on_41 : decode cX8_on 41 = .ok (.invokevirtual 204, 3) := by decide +kernel
theorem dX8_on_44 : decode cX8_on 44 = .ok (.aload_n 0, 1) := by decide +kernel
theorem dX8_on_45 : decode cX8_on 45 = .ok (.aload_n 0, 1) := by decide +kernel
theorem dX8_on_46 : decode cX8_on 46 = .ok (.getfield 25, 3) := by decide +kernel
theorem dX8_on_49 : decode cX8_on 49 = .ok (.iload_n 1, 1) := by decide +kernel
theorem dX8_on_50 : decode cX8_on 50 = .ok (.iaload, 1) := by decide +kernel
theorem dX8_on_51 : decode cX8_on 51 = .ok (.putfield 159, 3) := by decide +kernel
theorem dX8_on_54 : decode cX8_on 54 = .ok (.aload_n 0, 1) := by decide +kernel
theorem dX8_on_55 : decode cX8_on 55 = .ok (.getfield 159, 3) := by decide +kernel
theorem dX8_on_58 : decode cX8_on 58 = .ok (.ireturn, 1) := by decide +kernel
def P_X8_on (a0 : Nat) (x1 : Int32) : PM Int32 :=
cll0 (P_X8_in (Int32.toInt64 x1) 0 2) fun v1 =>
ifB (decide (¬ v1 = 0)) (
getR 8 5 a0 fun v2 =>
ald v2 x1 fun v3 =>
ifB (decide (0 ≤ v3)) (
cllV 8 a0 (P_X8_take a0 (462 * (x1 + 1)) 0 462) fun _ =>
getR 8 5 a0 fun v4 =>
ald v4 x1 fun v5 =>
setI 8 11 a0 v5 <|
getI 8 11 a0 fun v6 =>
pureM v6) (
cllV 8 a0 (P_X8_refuse a0 1) fun v7 =>
pureM v7)) (
pureM ((-1)))
set_option maxHeartbeats 4000000 in
set_option maxRecDepth 100000 in
theorem W_X8_on {Γ : Cx} (ok : OKc Γ cX8_on RX8 1 "on") (okr : OKr Γ cX8_on (some .int)) (a0 : Nat) (x1 : Int32) : SW Γ iI 0 [some (.ref a0), some (.int x1)] [] (P_X8_on a0 x1) := by
  unfold P_X8_on
  refine sw_iload_n (z := x1) (pc' := 1) ok dX8_on_0 rfl rfl ?_
  refine sw_i2l (pc' := 2) ok dX8_on_1 rfl ?_
  refine sw_lconst (v := 0) (pc' := 3) ok dX8_on_2 rfl cc_lconst_0 ?_
  refine sw_ldc2 (v := 2) (pc' := 6) ok dX8_on_3 rfl wd_576 ?_
  refine sw_cll0_I (st := []) (as := [.long (Int32.toInt64 x1), .long 0, .long 2]) (pc' := 9) ok (S_X8_in (Int32.toInt64 x1) 0 2) (by decide) lk_X8_80 rfl dX8_on_6 rfl (Nat.le_of_ble_eq_true rfl) rfl (fun v1 => ?_)
  refine sw_if_ne (tgt := 14) (pc' := 12) ok dX8_on_9 (by decide) rfl ?_ ?_
  · refine sw_aload_n (z := a0) (pc' := 15) ok dX8_on_14 rfl rfl ?_
    refine sw_getR (pc' := 18) ok (fr_X8_25.g) dX8_on_15 rfl (fun v2 => ?_)
    refine sw_iload_n (z := x1) (pc' := 19) ok dX8_on_18 rfl rfl ?_
    refine sw_ald (pc' := 20) ok dX8_on_19 rfl (fun v3 => ?_)
    refine sw_if_ge (tgt := 29) (pc' := 23) ok dX8_on_20 (by decide) rfl ?_ ?_
    · refine sw_aload_n (z := a0) (pc' := 30) ok dX8_on_29 rfl rfl ?_
      refine sw_sipush (v := 462) (pc' := 33) ok dX8_on_30 rfl cc_sipush_462 ?_
      refine sw_iload_n (z := x1) (pc' := 34) ok dX8_on_33 rfl rfl ?_
      refine sw_iconst (v := 1) (pc' := 35) ok dX8_on_34 rfl cc_iconst_1 ?_
      refine sw_iadd (pc' := 36) ok dX8_on_35 rfl ?_
      refine sw_imul (pc' := 37) ok dX8_on_36 rfl ?_
      refine sw_iconst (v := 0) (pc' := 38) ok dX8_on_37 rfl cc_iconst_0 ?_
      refine sw_sipush (v := 462) (pc' := 41) ok dX8_on_38 rfl cc_sipush_462 ?_
      refine sw_cllV_U (st := []) (as := [.int (462 * (x1 + 1)), .int 0, .int 462]) (pc' := 44) ok (S_X8_take a0 (462 * (x1 + 1)) 0 462) (by decide) lk_X8_204 rfl dX8_on_41 rfl (Nat.le_of_ble_eq_true rfl) rfl (fun _ => ?_)
      refine sw_aload_n (z := a0) (pc' := 45) ok dX8_on_44 rfl rfl ?_
      refine sw_aload_n (z := a0) (pc' := 46) ok dX8_on_45 rfl rfl ?_
      refine sw_getR (pc' := 49) ok (fr_X8_25.g) dX8_on_46 rfl (fun v4 => ?_)
      refine sw_iload_n (z := x1) (pc' := 50) ok dX8_on_49 rfl rfl ?_
      refine sw_ald (pc' := 51) ok dX8_on_50 rfl (fun v5 => ?_)
      refine sw_setI (pc' := 54) ok fr_X8_159 dX8_on_51 (fun h => by cases h) rfl ?_
      refine sw_aload_n (z := a0) (pc' := 55) ok dX8_on_54 rfl rfl ?_
      refine sw_getI (pc' := 58) ok (fr_X8_159.g) dX8_on_55 rfl (fun v6 => ?_)
      exact sw_ret ok okr dX8_on_58 trivial rfl
    refine sw_aload_n (z := a0) (pc' := 24) ok dX8_on_23 rfl rfl ?_
    refine sw_iconst (v := 1) (pc' := 25) ok dX8_on_24 rfl cc_iconst_1 ?_
    refine sw_cllV_I (st := []) (as := [.int 1]) (pc' := 28) ok (S_X8_refuse a0 1) (by decide) lk_X8_90 rfl dX8_on_25 rfl (Nat.le_of_ble_eq_true rfl) rfl (fun v7 => ?_)
    exact sw_ret ok okr dX8_on_28 trivial rfl
  refine sw_iconst (v := (-1)) (pc' := 13) ok dX8_on_12 rfl cc_iconst_m1 ?_
  exact sw_ret ok okr dX8_on_13 trivial rfl
theorem S_X8_on (a0 : Nat) (x1 : Int32) : Sim 1 yX8_on cX8_on 2 (some .int) iI [.ref a0, .int x1] (P_X8_on a0 x1) := Sim.intro wd_1111 (by decide) (by decide +kernel) (Nat.le_of_ble_eq_true rfl) (fun Γ ok okr => W_X8_on ok okr a0 x1)
theorem dX8_layPairs_0 : decode cX8_layPairs 0 = .ok (.aload_n 0, 1) := by decide +kernel
theorem dX8_layPairs_1 : decode cX8_layPairs 1 = .ok (.iconst 0, 1) := by decide +kernel
theorem dX8_layPairs_2 : decode cX8_layPairs 2 = .ok (.putfield 224, 3) := by decide +kernel
theorem dX8_layPairs_5 : decode cX8_layPairs 5 = .ok (.iconst 0, 1) := by decide +kernel
theorem dX8_layPairs_6 : decode cX8_layPairs 6 = .ok (.istore_n 1, 1) := by decide +kernel
theorem dX8_layPairs_7 : decode cX8_layPairs 7 = .ok (.iload_n 1, 1) := by decide +kernel
theorem dX8_layPairs_8 : decode cX8_layPairs 8 = .ok (.aload_n 0, 1) := by decide +kernel
theorem dX8_layPairs_9 : decode cX8_layPairs 9 = .ok (.getfield 156, 3) := by decide +kernel
theorem dX8_layPairs_12 : decode cX8_layPairs 12 = .ok (.if_icmp .ge 52, 3) := by decide +kernel
theorem dX8_layPairs_15 : decode cX8_layPairs 15 = .ok (.iload_n 1, 1) := by decide +kernel
theorem dX8_layPairs_16 : decode cX8_layPairs 16 = .ok (.iconst 1, 1) := by decide +kernel
theorem dX8_layPairs_17 : decode cX8_layPairs 17 = .ok (.iadd, 1) := by decide +kernel
theorem dX8_layPairs_18 : decode cX8_layPairs 18 = .ok (.istore_n 2, 1) := by decide +kernel
theorem dX8_layPairs_19 : decode cX8_layPairs 19 = .ok (.iload_n 2, 1) := by decide +kernel
theorem dX8_layPairs_20 : decode cX8_layPairs 20 = .ok (.aload_n 0, 1) := by decide +kernel
theorem dX8_layPairs_21 : decode cX8_layPairs 21 = .ok (.getfield 156, 3) := by decide +kernel
theorem dX8_layPairs_24 : decode cX8_layPairs 24 = .ok (.if_icmp .ge 34, 3) := by decide +kernel
theorem dX8_layPairs_27 : decode cX8_layPairs 27 = .ok (.aload_n 0, 1) := by decide +kernel
theorem dX8_layPairs_28 : decode cX8_layPairs 28 = .ok (.getfield 62, 3) := by decide +kernel
theorem dX8_layPairs_31 : decode cX8_layPairs 31 = .ok (.aload_n 0, 1) := by decide +kernel
theorem dX8_layPairs_32 : decode cX8_layPairs 32 = .ok (.getfield 224, 3) := by decide +kernel
theorem dX8_layPairs_35 : decode cX8_layPairs 35 = .ok (.bipush 10, 2) := by decide +kernel
theorem dX8_layPairs_37 : decode cX8_layPairs 37 = .ok (.iload_n 1, 1) := by decide +kernel
theorem dX8_layPairs_38 : decode cX8_layPairs 38 = .ok (.imul, 1) := by decide +kernel
theorem dX8_layPairs_39 : decode cX8_layPairs 39 = .ok (.iload_n 2, 1) := by decide +kernel
theorem dX8_layPairs_40 : decode cX8_layPairs 40 = .ok (.iadd, 1) := by decide +kernel
theorem dX8_layPairs_41 : decode cX8_layPairs 41 = .ok (.iastore, 1) := by decide +kernel
theorem dX8_layPairs_42 : decode cX8_layPairs 42 = .ok (.aload_n 0, 1) := by decide +kernel
theorem dX8_layPairs_43 : decode cX8_layPairs 43 = .ok (.dup, 1) := by decide +kernel
theorem dX8_layPairs_44 : decode cX8_layPairs 44 = .ok (.getfield 224, 3) := by decide +kernel
theorem dX8_layPairs_47 : decode cX8_layPairs 47 = .ok (.iconst 1, 1) := by decide +kernel
theorem dX8_layPairs_48 : decode cX8_layPairs 48 = .ok (.iadd, 1) := by decide +kernel
theorem dX8_layPairs_49 : decode cX8_layPairs 49 = .ok (.putfield 224, 3) := by decide +kernel
theorem dX8_layPairs_52 : decode cX8_layPairs 52 = .ok (.iinc 2 1, 3) := by decide +kernel
theorem dX8_layPairs_55 : decode cX8_layPairs 55 = .ok (.goto (-36), 3) := by decide +kernel
theorem dX8_layPairs_58 : decode cX8_layPairs 58 = .ok (.iinc 1 1, 3) := by decide +kernel
theorem dX8_layPairs_61 : decode cX8_layPairs 61 = .ok (.goto (-54), 3) := by decide +kernel
theorem dX8_layPairs_64 : decode cX8_layPairs 64 = .ok (.return_, 1) := by decide +kernel
def P_X8_layPairs_19 (k_58 : PM Unit) (p0 : Nat) (p1 : Int32) : Nat → Int32 → PM Unit
  | 0, _ => failM
  | n + 1, q2 =>
    getI 8 10 p0 fun v3 =>
    ifB (decide (v3 ≤ q2)) (
    k_58) (
    getR 8 28 p0 fun v4 =>
    getI 8 29 p0 fun v5 =>
    ast v4 v5 ((10 * p1) + q2) <|
    getI 8 29 p0 fun v6 =>
    setI 8 29 p0 (v6 + 1) <|
    P_X8_layPairs_19 k_58 p0 p1 n (q2 + 1))
def P_X8_layPairs_7 (p0 : Nat) : Nat → Int32 → PM Unit
  | 0, _ => failM
  | n + 1, q1 =>
    getI 8 10 p0 fun v1 =>
    ifB (decide (v1 ≤ q1)) (
    pureM ()) (
    jn (
    P_X8_layPairs_7 p0 n (q1 + 1)) fun k2 =>
    P_X8_layPairs_19 k2 p0 q1 4000 (q1 + 1))
def P_X8_layPairs (a0 : Nat) : PM Unit :=
setI 8 29 a0 0 <|
P_X8_layPairs_7 a0 4000 0
set_option maxHeartbeats 4000000 in
set_option maxRecDepth 100000 in
theorem W_X8_layPairs_19 {Γ : Cx} (ok : OKc Γ cX8_layPairs RX8 0 "layPairs") (okr : OKr Γ cX8_layPairs (none)) (k_58 : PM Unit) (p0 : Nat) (p1 : Int32) (hk_58 : SW Γ iU 58 [some (.ref p0), some (.int p1), none] [] (k_58)) : ∀ (n : Nat) (q2 : Int32), SW Γ iU 19 [some (.ref p0), some (.int p1), some (.int q2)] [] (P_X8_layPairs_19 k_58 p0 p1 n q2) := by
  intro n
  induction n with
  | zero =>
    intros
    exact sw_fail
  | succ n ih =>
    intro q2
    unfold P_X8_layPairs_19
    refine sw_iload_n (z := q2) (pc' := 20) ok dX8_layPairs_19 rfl rfl ?_
    refine sw_aload_n (z := p0) (pc' := 21) ok dX8_layPairs_20 rfl rfl ?_
    refine sw_getI (pc' := 24) ok (fr_X8_156.g) dX8_layPairs_21 rfl (fun v3 => ?_)
    refine sw_icmp_ge (tgt := 58) (pc' := 27) ok dX8_layPairs_24 (by decide) rfl ?_ ?_
    · refine sw_fg (l' := [some (.ref p0), some (.int p1), none]) [true, true, false] rfl ?_
      exact hk_58
    refine sw_aload_n (z := p0) (pc' := 28) ok dX8_layPairs_27 rfl rfl ?_
    refine sw_getR (pc' := 31) ok (fr_X8_62.g) dX8_layPairs_28 rfl (fun v4 => ?_)
    refine sw_aload_n (z := p0) (pc' := 32) ok dX8_layPairs_31 rfl rfl ?_
    refine sw_getI (pc' := 35) ok (fr_X8_224.g) dX8_layPairs_32 rfl (fun v5 => ?_)
    refine sw_bipush (v := 10) (pc' := 37) ok dX8_layPairs_35 rfl cc_bipush_10 ?_
    refine sw_iload_n (z := p1) (pc' := 38) ok dX8_layPairs_37 rfl rfl ?_
    refine sw_imul (pc' := 39) ok dX8_layPairs_38 rfl ?_
    refine sw_iload_n (z := q2) (pc' := 40) ok dX8_layPairs_39 rfl rfl ?_
    refine sw_iadd (pc' := 41) ok dX8_layPairs_40 rfl ?_
    refine sw_ast (pc' := 42) ok dX8_layPairs_41 rfl ?_
    refine sw_aload_n (z := p0) (pc' := 43) ok dX8_layPairs_42 rfl rfl ?_
    refine sw_dup (pc' := 44) ok dX8_layPairs_43 rfl rfl ?_
    refine sw_getI (pc' := 47) ok (fr_X8_224.g) dX8_layPairs_44 rfl (fun v6 => ?_)
    refine sw_iconst (v := 1) (pc' := 48) ok dX8_layPairs_47 rfl cc_iconst_1 ?_
    refine sw_iadd (pc' := 49) ok dX8_layPairs_48 rfl ?_
    refine sw_setI (pc' := 52) ok fr_X8_224 dX8_layPairs_49 (fun h => by cases h) rfl ?_
    refine sw_iinc (z := q2) (v := q2 + 1) (pc' := 55) (l' := [some (.ref p0), some (.int p1), some (.int (q2 + 1))]) ok dX8_layPairs_52 rfl rfl (by rw [cc_iconst_1]) rfl ?_
    refine sw_goto (tgt := 19) ok dX8_layPairs_55 (by decide) ?_
    exact ih (q2 + 1)
set_option maxHeartbeats 4000000 in
set_option maxRecDepth 100000 in
theorem W_X8_layPairs_7 {Γ : Cx} (ok : OKc Γ cX8_layPairs RX8 0 "layPairs") (okr : OKr Γ cX8_layPairs (none)) (p0 : Nat) : ∀ (n : Nat) (q1 : Int32), SW Γ iU 7 [some (.ref p0), some (.int q1), none] [] (P_X8_layPairs_7 p0 n q1) := by
  intro n
  induction n with
  | zero =>
    intros
    exact sw_fail
  | succ n ih =>
    intro q1
    unfold P_X8_layPairs_7
    refine sw_iload_n (z := q1) (pc' := 8) ok dX8_layPairs_7 rfl rfl ?_
    refine sw_aload_n (z := p0) (pc' := 9) ok dX8_layPairs_8 rfl rfl ?_
    refine sw_getI (pc' := 12) ok (fr_X8_156.g) dX8_layPairs_9 rfl (fun v1 => ?_)
    refine sw_icmp_ge (tgt := 64) (pc' := 15) ok dX8_layPairs_12 (by decide) rfl ?_ ?_
    · exact sw_ret ok okr dX8_layPairs_64 trivial rfl
    refine sw_iload_n (z := q1) (pc' := 16) ok dX8_layPairs_15 rfl rfl ?_
    refine sw_iconst (v := 1) (pc' := 17) ok dX8_layPairs_16 rfl cc_iconst_1 ?_
    refine sw_iadd (pc' := 18) ok dX8_layPairs_17 rfl ?_
    refine sw_istore_n (pc' := 19) (l' := [some (.ref p0), some (.int q1), some (.int (q1 + 1))]) ok dX8_layPairs_18 rfl (Nat.le_of_ble_eq_true rfl) rfl ?_
    refine sw_jn (fun k2 : PM Unit => SW Γ iU 58 [some (.ref p0), some (.int q1), none] [] (k2)) ?_ (fun k2 hk2 => ?_)
    · refine sw_iinc (z := q1) (v := q1 + 1) (pc' := 61) (l' := [some (.ref p0), some (.int (q1 + 1)), none]) ok dX8_layPairs_58 rfl rfl (by rw [cc_iconst_1]) rfl ?_
      refine sw_goto (tgt := 7) ok dX8_layPairs_61 (by decide) ?_
      exact ih (q1 + 1)
    exact W_X8_layPairs_19 ok okr k2 p0 q1 hk2 4000 (q1 + 1)
set_option maxHeartbeats 4000000 in
set_option maxRecDepth 100000 in
theorem W_X8_layPairs {Γ : Cx} (ok : OKc Γ cX8_layPairs RX8 0 "layPairs") (okr : OKr Γ cX8_layPairs (none)) (a0 : Nat) : SW Γ iU 0 [some (.ref a0), none, none] [] (P_X8_layPairs a0) := by
  unfold P_X8_layPairs
  refine sw_aload_n (z := a0) (pc' := 1) ok dX8_layPairs_0 rfl rfl ?_
  refine sw_iconst (v := 0) (pc' := 2) ok dX8_layPairs_1 rfl cc_iconst_0 ?_
  refine sw_setI (pc' := 5) ok fr_X8_224 dX8_layPairs_2 (fun h => by cases h) rfl ?_
  refine sw_iconst (v := 0) (pc' := 6) ok dX8_layPairs_5 rfl cc_iconst_0 ?_
  refine sw_istore_n (pc' := 7) (l' := [some (.ref a0), some (.int 0), none]) ok dX8_layPairs_6 rfl (Nat.le_of_ble_eq_true rfl) rfl ?_
  exact W_X8_layPairs_7 ok okr a0 4000 0
theorem S_X8_layPairs (a0 : Nat) : Sim 0 yX8_layPairs cX8_layPairs 3 (none) iU [.ref a0] (P_X8_layPairs a0) := Sim.intro wd_1112 (by decide) (by decide +kernel) (Nat.le_of_ble_eq_true rfl) (fun Γ ok okr => W_X8_layPairs ok okr a0)
theorem dX8_ways_0 : decode cX8_ways 0 = .ok (.iconst 1, 1) := by decide +kernel
theorem dX8_ways_1 : decode cX8_ways 1 = .ok (.istore_n 2, 1) := by decide +kernel
theorem dX8_ways_2 : decode cX8_ways 2 = .ok (.iconst 0, 1) := by decide +kernel
theorem dX8_ways_3 : decode cX8_ways 3 = .ok (.istore_n 3, 1) := by decide +kernel
theorem dX8_ways_4 : decode cX8_ways 4 = .ok (.iload_n 3, 1) := by decide +kernel
theorem dX8_ways_5 : decode cX8_ways 5 = .ok (.iload_n 1, 1) := by decide +kernel
theorem dX8_ways_6 : decode cX8_ways 6 = .ok (.if_icmp .ge 16, 3) := by decide +kernel
theorem dX8_ways_9 : decode cX8_ways 9 = .ok (.iload_n 2, 1) := by decide +kernel
theorem dX8_ways_10 : decode cX8_ways 10 = .ok (.aload_n 0, 1) := by decide +kernel
theorem dX8_ways_11 : decode cX8_ways 11 = .ok (.getfield 224, 3) := by decide +kernel
theorem dX8_ways_14 : decode cX8_ways 14 = .ok (.imul, 1) := by decide +kernel
theorem dX8_ways_15 : decode cX8_ways 15 = .ok (.istore_n 2, 1) := by decide +kernel
theorem dX8_ways_16 : decode cX8_ways 16 = .ok (.iinc 3 1, 3) := by decide +kernel
theorem dX8_ways_19 : decode cX8_ways 19 = .ok (.goto (-15), 3) := by decide +kernel
theorem dX8_ways_22 : decode cX8_ways 22 = .ok (.iload_n 2, 1) := by decide +kernel
theorem dX8_ways_23 : decode cX8_ways 23 = .ok (.ireturn, 1) := by decide +kernel
def P_X8_ways_4 (p0 : Nat) (p1 : Int32) : Nat → Int32 → Int32 → PM Int32
  | 0, _, _ => failM
  | n + 1, q2, q3 =>
    ifB (decide (p1 ≤ q3)) (
    pureM q2) (
    getI 8 29 p0 fun v1 =>
    P_X8_ways_4 p0 p1 n (q2 * v1) (q3 + 1))
def P_X8_ways (a0 : Nat) (x1 : Int32) : PM Int32 :=
P_X8_ways_4 a0 x1 4000 1 0
set_option maxHeartbeats 4000000 in
set_option maxRecDepth 100000 in
theorem W_X8_ways_4 {Γ : Cx} (ok : OKc Γ cX8_ways RX8 0 "ways") (okr : OKr Γ cX8_ways (some .int)) (p0 : Nat) (p1 : Int32) : ∀ (n : Nat) (q2 : Int32) (q3 : Int32), SW Γ iI 4 [some (.ref p0), some (.int p1), some (.int q2), some (.int q3)] [] (P_X8_ways_4 p0 p1 n q2 q3) := by
  intro n
  induction n with
  | zero =>
    intros
    exact sw_fail
  | succ n ih =>
    intro q2 q3
    unfold P_X8_ways_4
    refine sw_iload_n (z := q3) (pc' := 5) ok dX8_ways_4 rfl rfl ?_
    refine sw_iload_n (z := p1) (pc' := 6) ok dX8_ways_5 rfl rfl ?_
    refine sw_icmp_ge (tgt := 22) (pc' := 9) ok dX8_ways_6 (by decide) rfl ?_ ?_
    · refine sw_iload_n (z := q2) (pc' := 23) ok dX8_ways_22 rfl rfl ?_
      exact sw_ret ok okr dX8_ways_23 trivial rfl
    refine sw_iload_n (z := q2) (pc' := 10) ok dX8_ways_9 rfl rfl ?_
    refine sw_aload_n (z := p0) (pc' := 11) ok dX8_ways_10 rfl rfl ?_
    refine sw_getI (pc' := 14) ok (fr_X8_224.g) dX8_ways_11 rfl (fun v1 => ?_)
    refine sw_imul (pc' := 15) ok dX8_ways_14 rfl ?_
    refine sw_istore_n (pc' := 16) (l' := [some (.ref p0), some (.int p1), some (.int (q2 * v1)), some (.int q3)]) ok dX8_ways_15 rfl (Nat.le_of_ble_eq_true rfl) rfl ?_
    refine sw_iinc (z := q3) (v := q3 + 1) (pc' := 19) (l' := [some (.ref p0), some (.int p1), some (.int (q2 * v1)), some (.int (q3 + 1))]) ok dX8_ways_16 rfl rfl (by rw [cc_iconst_1]) rfl ?_
    refine sw_goto (tgt := 4) ok dX8_ways_19 (by decide) ?_
    exact ih (q2 * v1) (q3 + 1)
set_option maxHeartbeats 4000000 in
set_option maxRecDepth 100000 in
theorem W_X8_ways {Γ : Cx} (ok : OKc Γ cX8_ways RX8 0 "ways") (okr : OKr Γ cX8_ways (some .int)) (a0 : Nat) (x1 : Int32) : SW Γ iI 0 [some (.ref a0), some (.int x1), none, none] [] (P_X8_ways a0 x1) := by
  unfold P_X8_ways
  refine sw_iconst (v := 1) (pc' := 1) ok dX8_ways_0 rfl cc_iconst_1 ?_
  refine sw_istore_n (pc' := 2) (l' := [some (.ref a0), some (.int x1), some (.int 1), none]) ok dX8_ways_1 rfl (Nat.le_of_ble_eq_true rfl) rfl ?_
  refine sw_iconst (v := 0) (pc' := 3) ok dX8_ways_2 rfl cc_iconst_0 ?_
  refine sw_istore_n (pc' := 4) (l' := [some (.ref a0), some (.int x1), some (.int 1), some (.int 0)]) ok dX8_ways_3 rfl (Nat.le_of_ble_eq_true rfl) rfl ?_
  exact W_X8_ways_4 ok okr a0 x1 4000 1 0
theorem S_X8_ways (a0 : Nat) (x1 : Int32) : Sim 0 yX8_ways cX8_ways 4 (some .int) iI [.ref a0, .int x1] (P_X8_ways a0 x1) := Sim.intro wd_1113 (by decide) (by decide +kernel) (Nat.le_of_ble_eq_true rfl) (fun Γ ok okr => W_X8_ways ok okr a0 x1)
theorem dX8_pairOf_0 : decode cX8_pairOf 0 = .ok (.iload_n 1, 1) := by decide +kernel
theorem dX8_pairOf_1 : decode cX8_pairOf 1 = .ok (.istore 4, 2) := by decide +kernel
theorem dX8_pairOf_3 : decode cX8_pairOf 3 = .ok (.iload_n 3, 1) := by decide +kernel
theorem dX8_pairOf_4 : decode cX8_pairOf 4 = .ok (.iconst 1, 1) := by decide +kernel
theorem dX8_pairOf_5 : decode cX8_pairOf 5 = .ok (.isub, 1) := by decide +kernel
theorem dX8_pairOf_6 : decode cX8_pairOf 6 = .ok (.istore 5, 2) := by decide +kernel
theorem dX8_pairOf_8 : decode cX8_pairOf 8 = .ok (.iload 5, 2) := by decide +kernel
theorem dX8_pairOf_10 : decode cX8_pairOf 10 = .ok (.iload_n 2, 1) := by decide +kernel
theorem dX8_pairOf_11 : decode cX8_pairOf 11 = .ok (.if_icmp .le 18, 3) := by decide +kernel
theorem dX8_pairOf_14 : decode cX8_pairOf 14 = .ok (.iload 4, 2) := by decide +kernel
theorem dX8_pairOf_16 : decode cX8_pairOf 16 = .ok (.aload_n 0, 1) := by decide +kernel
theorem dX8_pairOf_17 : decode cX8_pairOf 17 = .ok (.getfield 224, 3) := by decide +kernel
theorem dX8_pairOf_20 : decode cX8_pairOf 20 = .ok (.idiv, 1) := by decide +kernel
theorem dX8_pairOf_21 : decode cX8_pairOf 21 = .ok (.istore 4, 2) := by decide +kernel
theorem dX8_pairOf_23 : decode cX8_pairOf 23 = .ok (.iinc 5 (-1), 3) := by decide +kernel
theorem dX8_pairOf_26 : decode cX8_pairOf 26 = .ok (.goto (-18), 3) := by decide +kernel
theorem dX8_pairOf_29 : decode cX8_pairOf 29 = .ok (.aload_n 0, 1) := by decide +kernel
theorem dX8_pairOf_30 : decode cX8_pairOf 30 = .ok (.getfield 62, 3) := by decide +kernel
theorem dX8_pairOf_33 : decode cX8_pairOf 33 = .ok (.iload 4, 2) := by decide +kernel
theorem dX8_pairOf_35 : decode cX8_pairOf 35 = .ok (.aload_n 0, 1) := by decide +kernel
theorem dX8_pairOf_36 : decode cX8_pairOf 36 = .ok (.getfield 224, 3) := by decide +kernel
theorem dX8_pairOf_39 : decode cX8_pairOf 39 = .ok (.irem, 1) := by decide +kernel
theorem dX8_pairOf_40 : decode cX8_pairOf 40 = .ok (.iaload, 1) := by decide +kernel
theorem dX8_pairOf_41 : decode cX8_pairOf 41 = .ok (.ireturn, 1) := by decide +kernel
def P_X8_pairOf_8 (k_29 : Int32 → PM Int32) (p0 : Nat) (p2 : Int32) : Nat → Int32 → Int32 → PM Int32
  | 0, _, _ => failM
  | n + 1, q4, q5 =>
    ifB (decide (q5 ≤ p2)) (
    k_29 q4) (
    getI 8 29 p0 fun v7 =>
    divI q4 v7 fun v8 =>
    P_X8_pairOf_8 k_29 p0 p2 n v8 (q5 + (-1)))
def P_X8_pairOf (a0 : Nat) (x1 : Int32) (x2 : Int32) (x3 : Int32) : PM Int32 :=
jn (fun (e1 : Int32) =>
getR 8 28 a0 fun v2 =>
getI 8 29 a0 fun v3 =>
remI e1 v3 fun v4 =>
ald v2 v4 fun v5 =>
pureM v5) fun k6 =>
P_X8_pairOf_8 k6 a0 x2 4000 x1 (x3 - 1)
set_option maxHeartbeats 4000000 in
set_option maxRecDepth 100000 in
theorem W_X8_pairOf_8 {Γ : Cx} (ok : OKc Γ cX8_pairOf RX8 0 "pairOf") (okr : OKr Γ cX8_pairOf (some .int)) (k_29 : Int32 → PM Int32) (p0 : Nat) (p2 : Int32) (hk_29 : ∀ (y4 : Int32), SW Γ iI 29 [some (.ref p0), none, none, none, some (.int y4), none] [] (k_29 y4)) : ∀ (n : Nat) (q4 : Int32) (q5 : Int32), SW Γ iI 8 [some (.ref p0), none, some (.int p2), none, some (.int q4), some (.int q5)] [] (P_X8_pairOf_8 k_29 p0 p2 n q4 q5) := by
  intro n
  induction n with
  | zero =>
    intros
    exact sw_fail
  | succ n ih =>
    intro q4 q5
    unfold P_X8_pairOf_8
    refine sw_iload (z := q5) (pc' := 10) ok dX8_pairOf_8 rfl rfl ?_
    refine sw_iload_n (z := p2) (pc' := 11) ok dX8_pairOf_10 rfl rfl ?_
    refine sw_icmp_le (tgt := 29) (pc' := 14) ok dX8_pairOf_11 (by decide) rfl ?_ ?_
    · refine sw_fg (l' := [some (.ref p0), none, none, none, some (.int q4), none]) [true, false, false, false, true, false] rfl ?_
      exact hk_29 q4
    refine sw_iload (z := q4) (pc' := 16) ok dX8_pairOf_14 rfl rfl ?_
    refine sw_aload_n (z := p0) (pc' := 17) ok dX8_pairOf_16 rfl rfl ?_
    refine sw_getI (pc' := 20) ok (fr_X8_224.g) dX8_pairOf_17 rfl (fun v7 => ?_)
    refine sw_divI (pc' := 21) ok dX8_pairOf_20 rfl (fun v8 => ?_)
    refine sw_istore (pc' := 23) (l' := [some (.ref p0), none, some (.int p2), none, some (.int v8), some (.int q5)]) ok dX8_pairOf_21 rfl (Nat.le_of_ble_eq_true rfl) rfl ?_
    refine sw_iinc (z := q5) (v := q5 + (-1)) (pc' := 26) (l' := [some (.ref p0), none, some (.int p2), none, some (.int v8), some (.int (q5 + (-1)))]) ok dX8_pairOf_23 rfl rfl (by rw [cc_iconst_m1]) rfl ?_
    refine sw_goto (tgt := 8) ok dX8_pairOf_26 (by decide) ?_
    exact ih v8 (q5 + (-1))
set_option maxHeartbeats 4000000 in
set_option maxRecDepth 100000 in
theorem W_X8_pairOf {Γ : Cx} (ok : OKc Γ cX8_pairOf RX8 0 "pairOf") (okr : OKr Γ cX8_pairOf (some .int)) (a0 : Nat) (x1 : Int32) (x2 : Int32) (x3 : Int32) : SW Γ iI 0 [some (.ref a0), some (.int x1), some (.int x2), some (.int x3), none, none] [] (P_X8_pairOf a0 x1 x2 x3) := by
  unfold P_X8_pairOf
  refine sw_iload_n (z := x1) (pc' := 1) ok dX8_pairOf_0 rfl rfl ?_
  refine sw_istore (pc' := 3) (l' := [some (.ref a0), some (.int x1), some (.int x2), some (.int x3), some (.int x1), none]) ok dX8_pairOf_1 rfl (Nat.le_of_ble_eq_true rfl) rfl ?_
  refine sw_iload_n (z := x3) (pc' := 4) ok dX8_pairOf_3 rfl rfl ?_
  refine sw_iconst (v := 1) (pc' := 5) ok dX8_pairOf_4 rfl cc_iconst_1 ?_
  refine sw_isub (pc' := 6) ok dX8_pairOf_5 rfl ?_
  refine sw_istore (pc' := 8) (l' := [some (.ref a0), some (.int x1), some (.int x2), some (.int x3), some (.int x1), some (.int (x3 - 1))]) ok dX8_pairOf_6 rfl (Nat.le_of_ble_eq_true rfl) rfl ?_
  refine sw_jn (fun k6 : Int32 → PM Int32 => ∀ (e1 : Int32), SW Γ iI 29 [some (.ref a0), none, none, none, some (.int e1), none] [] (k6 e1)) ?_ (fun k6 hk6 => ?_)
  · intro e1
    refine sw_aload_n (z := a0) (pc' := 30) ok dX8_pairOf_29 rfl rfl ?_
    refine sw_getR (pc' := 33) ok (fr_X8_62.g) dX8_pairOf_30 rfl (fun v2 => ?_)
    refine sw_iload (z := e1) (pc' := 35) ok dX8_pairOf_33 rfl rfl ?_
    refine sw_aload_n (z := a0) (pc' := 36) ok dX8_pairOf_35 rfl rfl ?_
    refine sw_getI (pc' := 39) ok (fr_X8_224.g) dX8_pairOf_36 rfl (fun v3 => ?_)
    refine sw_remI (pc' := 40) ok dX8_pairOf_39 rfl (fun v4 => ?_)
    refine sw_ald (pc' := 41) ok dX8_pairOf_40 rfl (fun v5 => ?_)
    exact sw_ret ok okr dX8_pairOf_41 trivial rfl
  refine sw_fg (l' := [some (.ref a0), none, some (.int x2), none, some (.int x1), some (.int (x3 - 1))]) [true, false, true, false, true, true] rfl ?_
  exact W_X8_pairOf_8 ok okr k6 a0 x2 hk6 4000 x1 (x3 - 1)
theorem S_X8_pairOf (a0 : Nat) (x1 : Int32) (x2 : Int32) (x3 : Int32) : Sim 0 yX8_pairOf cX8_pairOf 6 (some .int) iI [.ref a0, .int x1, .int x2, .int x3] (P_X8_pairOf a0 x1 x2 x3) := Sim.intro wd_1114 (by decide) (by decide +kernel) (Nat.le_of_ble_eq_true rfl) (fun Γ ok okr => W_X8_pairOf ok okr a0 x1 x2 x3)
theorem dX8_watchBy_0 : decode cX8_watchBy 0 = .ok (.aload_n 0, 1) := by decide +kernel
theorem dX8_watchBy_1 : decode cX8_watchBy 1 = .ok (.bipush 11, 2) := by decide +kernel
theorem dX8_watchBy_3 : decode cX8_watchBy 3 = .ok (.iload_n 1, 1) := by decide +kernel
theorem dX8_watchBy_4 : decode cX8_watchBy 4 = .ok (.bipush 10, 2) := by decide +kernel
theorem dX8_watchBy_6 : decode cX8_watchBy 6 = .ok (.idiv, 1) := by decide +kernel
theorem dX8_watchBy_7 : decode cX8_watchBy 7 = .ok (.iload_n 1, 1) := by decide +kernel
theorem dX8_watchBy_8 : decode cX8_watchBy 8 = .ok (.bipush 10, 2) := by decide +kernel
theorem dX8_watchBy_10 : decode cX8_watchBy 10 = .ok (.irem, 1) := by decide +kernel
theorem dX8_watchBy_11 : decode cX8_watchBy 11 = .ok (.invokevirtual 214, 3) := by decide +kernel
theorem dX8_watchBy_14 : decode cX8_watchBy 14 = .ok (.return_, 1) := by decide +kernel
def P_X8_watchBy (a0 : Nat) (x1 : Int32) : PM Unit :=
divI x1 10 fun v1 =>
remI x1 10 fun v2 =>
cllV 8 a0 (P_X8_watchIn a0 11 v1 v2) fun _ =>
pureM ()
set_option maxHeartbeats 4000000 in
set_option maxRecDepth 100000 in
theorem W_X8_watchBy {Γ : Cx} (ok : OKc Γ cX8_watchBy RX8 7 "watchBy") (okr : OKr Γ cX8_watchBy (none)) (a0 : Nat) (x1 : Int32) : SW Γ iU 0 [some (.ref a0), some (.int x1)] [] (P_X8_watchBy a0 x1) := by
  unfold P_X8_watchBy
  refine sw_aload_n (z := a0) (pc' := 1) ok dX8_watchBy_0 rfl rfl ?_
  refine sw_bipush (v := 11) (pc' := 3) ok dX8_watchBy_1 rfl cc_bipush_11 ?_
  refine sw_iload_n (z := x1) (pc' := 4) ok dX8_watchBy_3 rfl rfl ?_
  refine sw_bipush (v := 10) (pc' := 6) ok dX8_watchBy_4 rfl cc_bipush_10 ?_
  refine sw_divI (pc' := 7) ok dX8_watchBy_6 rfl (fun v1 => ?_)
  refine sw_iload_n (z := x1) (pc' := 8) ok dX8_watchBy_7 rfl rfl ?_
  refine sw_bipush (v := 10) (pc' := 10) ok dX8_watchBy_8 rfl cc_bipush_10 ?_
  refine sw_remI (pc' := 11) ok dX8_watchBy_10 rfl (fun v2 => ?_)
  refine sw_cllV_U (st := []) (as := [.int 11, .int v1, .int v2]) (pc' := 14) ok (S_X8_watchIn a0 11 v1 v2) (by decide) lk_X8_214 rfl dX8_watchBy_11 rfl (Nat.le_of_ble_eq_true rfl) rfl (fun _ => ?_)
  exact sw_ret ok okr dX8_watchBy_14 trivial rfl
theorem S_X8_watchBy (a0 : Nat) (x1 : Int32) : Sim 7 yX8_watchBy cX8_watchBy 2 (none) iU [.ref a0, .int x1] (P_X8_watchBy a0 x1) := Sim.intro wd_1115 (by decide) (by decide +kernel) (Nat.le_of_ble_eq_true rfl) (fun Γ ok okr => W_X8_watchBy ok okr a0 x1)
theorem dX8_behind_0 : decode cX8_behind 0 = .ok (.aload_n 0, 1) := by decide +kernel
theorem dX8_behind_1 : decode cX8_behind 1 = .ok (.iconst 0, 1) := by decide +kernel
theorem dX8_behind_2 : decode cX8_behind 2 = .ok (.bipush 11, 2) := by decide +kernel
theorem dX8_behind_4 : decode cX8_behind 4 = .ok (.bipush 11, 2) := by decide +kernel
theorem dX8_behind_6 : decode cX8_behind 6 = .ok (.invokevirtual 204, 3) := by decide +kernel
theorem dX8_behind_9 : decode cX8_behind 9 = .ok (.iconst 0, 1) := by decide +kernel
theorem dX8_behind_10 : decode cX8_behind 10 = .ok (.istore_n 3, 1) := by decide +kernel
theorem dX8_behind_11 : decode cX8_behind 11 = .ok (.iload_n 3, 1) := by decide +kernel
theorem dX8_behind_12 : decode cX8_behind 12 = .ok (.iload_n 2, 1) := by decide +kernel
theorem dX8_behind_13 : decode cX8_behind 13 = .ok (.if_icmp .ge 20, 3) := by decide +kernel
theorem dX8_behind_16 : decode cX8_behind 16 = .ok (.aload_n 0, 1) := by decide +kernel
theorem dX8_behind_17 : decode cX8_behind 17 = .ok (.aload_n 0, 1) := by decide +kernel
theorem dX8_behind_18 : decode cX8_behind 18 = .ok (.iload_n 1, 1) := by decide +kernel
theorem dX8_behind_19 : decode cX8_behind 19 = .ok (.iload_n 3, 1) := by decide +kernel
theorem dX8_behind_20 : decode cX8_behind 20 = .ok (.iload_n 2, 1) := by decide +kernel
theorem dX8_behind_21 : decode cX8_behind 21 = .ok (.invokevirtual 227, 3) := by decide +kernel
theorem dX8_behind_24 : decode cX8_behind 24 = .ok (.invokevirtual 230, 3) := by decide +kernel
theorem dX8_behind_27 : decode cX8_behind 27 = .ok (.iinc 3 1, 3) := by decide +kernel
theorem dX8_behind_30 : decode cX8_behind 30 = .ok (.goto (-19), 3) := by decide +kernel
theorem dX8_behind_33 : decode cX8_behind 33 = .ok (.aload_n 0, 1) := by decide +kernel
theorem dX8_behind_34 : decode cX8_behind 34 = .ok (.getfield 22, 3) := by decide +kernel
theorem dX8_behind_37 : decode cX8_behind 37 = .ok (.bipush 11, 2) := by decide +kernel
theorem dX8_behind_39 : decode cX8_behind 39 = .ok (.iaload, 1) := by decide +kernel
theorem dX8_behind_40 : decode cX8_behind 40 = .ok (.ireturn, 1) := by decide +kernel
def P_X8_behind_11 (k_33 : PM Int32) (p0 : Nat) (p1 : Int32) (p2 : Int32) : Nat → Int32 → PM Int32
  | 0, _ => failM
  | n + 1, q3 =>
    ifB (decide (p2 ≤ q3)) (
    k_33) (
    cllV 8 p0 (P_X8_pairOf p0 p1 q3 p2) fun v4 =>
    cllV 8 p0 (P_X8_watchBy p0 v4) fun _ =>
    P_X8_behind_11 k_33 p0 p1 p2 n (q3 + 1))
def P_X8_behind (a0 : Nat) (x1 : Int32) (x2 : Int32) : PM Int32 :=
cllV 8 a0 (P_X8_take a0 0 11 11) fun _ =>
jn (
getR 8 4 a0 fun v1 =>
ald v1 11 fun v2 =>
pureM v2) fun k3 =>
P_X8_behind_11 k3 a0 x1 x2 4000 0
set_option maxHeartbeats 4000000 in
set_option maxRecDepth 100000 in
theorem W_X8_behind_11 {Γ : Cx} (ok : OKc Γ cX8_behind RX8 8 "behind") (okr : OKr Γ cX8_behind (some .int)) (k_33 : PM Int32) (p0 : Nat) (p1 : Int32) (p2 : Int32) (hk_33 : SW Γ iI 33 [some (.ref p0), none, none, none] [] (k_33)) : ∀ (n : Nat) (q3 : Int32), SW Γ iI 11 [some (.ref p0), some (.int p1), some (.int p2), some (.int q3)] [] (P_X8_behind_11 k_33 p0 p1 p2 n q3) := by
  intro n
  induction n with
  | zero =>
    intros
    exact sw_fail
  | succ n ih =>
    intro q3
    unfold P_X8_behind_11
    refine sw_iload_n (z := q3) (pc' := 12) ok dX8_behind_11 rfl rfl ?_
    refine sw_iload_n (z := p2) (pc' := 13) ok dX8_behind_12 rfl rfl ?_
    refine sw_icmp_ge (tgt := 33) (pc' := 16) ok dX8_behind_13 (by decide) rfl ?_ ?_
    · refine sw_fg (l' := [some (.ref p0), none, none, none]) [true, false, false, false] rfl ?_
      exact hk_33
    refine sw_aload_n (z := p0) (pc' := 17) ok dX8_behind_16 rfl rfl ?_
    refine sw_aload_n (z := p0) (pc' := 18) ok dX8_behind_17 rfl rfl ?_
    refine sw_iload_n (z := p1) (pc' := 19) ok dX8_behind_18 rfl rfl ?_
    refine sw_iload_n (z := q3) (pc' := 20) ok dX8_behind_19 rfl rfl ?_
    refine sw_iload_n (z := p2) (pc' := 21) ok dX8_behind_20 rfl rfl ?_
    refine sw_cllV_I (st := [.ref p0]) (as := [.int p1, .int q3, .int p2]) (pc' := 24) ok (S_X8_pairOf p0 p1 q3 p2) (by decide) lk_X8_227 rfl dX8_behind_21 rfl (Nat.le_of_ble_eq_true rfl) rfl (fun v4 => ?_)
    refine sw_cllV_U (st := []) (as := [.int v4]) (pc' := 27) ok (S_X8_watchBy p0 v4) (by decide) lk_X8_230 rfl dX8_behind_24 rfl (Nat.le_of_ble_eq_true rfl) rfl (fun _ => ?_)
    refine sw_iinc (z := q3) (v := q3 + 1) (pc' := 30) (l' := [some (.ref p0), some (.int p1), some (.int p2), some (.int (q3 + 1))]) ok dX8_behind_27 rfl rfl (by rw [cc_iconst_1]) rfl ?_
    refine sw_goto (tgt := 11) ok dX8_behind_30 (by decide) ?_
    exact ih (q3 + 1)
set_option maxHeartbeats 4000000 in
set_option maxRecDepth 100000 in
theorem W_X8_behind {Γ : Cx} (ok : OKc Γ cX8_behind RX8 8 "behind") (okr : OKr Γ cX8_behind (some .int)) (a0 : Nat) (x1 : Int32) (x2 : Int32) : SW Γ iI 0 [some (.ref a0), some (.int x1), some (.int x2), none] [] (P_X8_behind a0 x1 x2) := by
  unfold P_X8_behind
  refine sw_aload_n (z := a0) (pc' := 1) ok dX8_behind_0 rfl rfl ?_
  refine sw_iconst (v := 0) (pc' := 2) ok dX8_behind_1 rfl cc_iconst_0 ?_
  refine sw_bipush (v := 11) (pc' := 4) ok dX8_behind_2 rfl cc_bipush_11 ?_
  refine sw_bipush (v := 11) (pc' := 6) ok dX8_behind_4 rfl cc_bipush_11 ?_
  refine sw_cllV_U (st := []) (as := [.int 0, .int 11, .int 11]) (pc' := 9) ok (S_X8_take a0 0 11 11) (by decide) lk_X8_204 rfl dX8_behind_6 rfl (Nat.le_of_ble_eq_true rfl) rfl (fun _ => ?_)
  refine sw_iconst (v := 0) (pc' := 10) ok dX8_behind_9 rfl cc_iconst_0 ?_
  refine sw_istore_n (pc' := 11) (l' := [some (.ref a0), some (.int x1), some (.int x2), some (.int 0)]) ok dX8_behind_10 rfl (Nat.le_of_ble_eq_true rfl) rfl ?_
  refine sw_jn (fun k3 : PM Int32 => SW Γ iI 33 [some (.ref a0), none, none, none] [] (k3)) ?_ (fun k3 hk3 => ?_)
  · refine sw_aload_n (z := a0) (pc' := 34) ok dX8_behind_33 rfl rfl ?_
    refine sw_getR (pc' := 37) ok (fr_X8_22.g) dX8_behind_34 rfl (fun v1 => ?_)
    refine sw_bipush (v := 11) (pc' := 39) ok dX8_behind_37 rfl cc_bipush_11 ?_
    refine sw_ald (pc' := 40) ok dX8_behind_39 rfl (fun v2 => ?_)
    exact sw_ret ok okr dX8_behind_40 trivial rfl
  exact W_X8_behind_11 ok okr k3 a0 x1 x2 hk3 4000 0
theorem S_X8_behind (a0 : Nat) (x1 : Int32) (x2 : Int32) : Sim 8 yX8_behind cX8_behind 4 (some .int) iI [.ref a0, .int x1, .int x2] (P_X8_behind a0 x1 x2) := Sim.intro wd_1116 (by decide) (by decide +kernel) (Nat.le_of_ble_eq_true rfl) (fun Γ ok okr => W_X8_behind ok okr a0 x1 x2)
theorem dX8_newRow_0 : decode cX8_newRow 0 = .ok (.aload_n 0, 1) := by decide +kernel
theorem dX8_newRow_1 : decode cX8_newRow 1 = .ok (.getfield 13, 3) := by decide +kernel
theorem dX8_newRow_4 : decode cX8_newRow 4 = .ok (.iload_n 1, 1) := by decide +kernel
theorem dX8_newRow_5 : decode cX8_newRow 5 = .ok (.iload_n 2, 1) := by decide +kernel
theorem dX8_newRow_6 : decode cX8_newRow 6 = .ok (.iastore, 1) := by decide +kernel
theorem dX8_newRow_7 : decode cX8_newRow 7 = .ok (.return_, 1) := by decide +kernel
def P_X8_newRow (a0 : Nat) (x1 : Int32) (x2 : Int32) : PM Unit :=
getR 8 1 a0 fun v1 =>
ast v1 x1 x2 <|
pureM ()
set_option maxHeartbeats 4000000 in
set_option maxRecDepth 100000 in
theorem W_X8_newRow {Γ : Cx} (ok : OKc Γ cX8_newRow RX8 0 "newRow") (okr : OKr Γ cX8_newRow (none)) (a0 : Nat) (x1 : Int32) (x2 : Int32) : SW Γ iU 0 [some (.ref a0), some (.int x1), some (.int x2)] [] (P_X8_newRow a0 x1 x2) := by
  unfold P_X8_newRow
  refine sw_aload_n (z := a0) (pc' := 1) ok dX8_newRow_0 rfl rfl ?_
  refine sw_getR (pc' := 4) ok (fr_X8_13.g) dX8_newRow_1 rfl (fun v1 => ?_)
  refine sw_iload_n (z := x1) (pc' := 5) ok dX8_newRow_4 rfl rfl ?_
  refine sw_iload_n (z := x2) (pc' := 6) ok dX8_newRow_5 rfl rfl ?_
  refine sw_ast (pc' := 7) ok dX8_newRow_6 rfl ?_
  exact sw_ret ok okr dX8_newRow_7 trivial rfl
theorem S_X8_newRow (a0 : Nat) (x1 : Int32) (x2 : Int32) : Sim 0 yX8_newRow cX8_newRow 3 (none) iU [.ref a0, .int x1, .int x2] (P_X8_newRow a0 x1 x2) := Sim.intro wd_1117 (by decide) (by decide +kernel) (Nat.le_of_ble_eq_true rfl) (fun Γ ok okr => W_X8_newRow ok okr a0 x1 x2)
theorem dX8_best_0 : decode cX8_best 0 = .ok (.iload_n 1, 1) := by decide +kernel
theorem dX8_best_1 : decode cX8_best 1 = .ok (.i2l, 1) := by decide +kernel
theorem dX8_best_2 : decode cX8_best 2 = .ok (.lconst 0, 1) := by decide +kernel
theorem dX8_best_3 : decode cX8_best 3 = .ok (.ldc2_w 84, 3) := by decide +kernel
theorem dX8_best_6 : decode cX8_best 6 = .ok (.invokestatic 80, 3) := by decide +kernel
theorem dX8_best_9 : decode cX8_best 9 = .ok (.ifCond .eq 10, 3) := by decide +kernel
theorem dX8_best_12 : decode cX8_best 12 = .ok (.iload_n 2, 1) := by decide +kernel
theorem dX8_best_13 : decode cX8_best 13 = .ok (.invokestatic 86, 3) := by decide +kernel
theorem dX8_best_16 : decode cX8_best 16 = .ok (.ifCond .ne 5, 3) := by decide +kernel
theorem dX8_best_19 : decode cX8_best 19 = .ok (.iconst (-1), 1) := by decide +kernel
theorem dX8_best_20 : decode cX8_best 20 = .ok (.ireturn, 1) := by decide +kernel
theorem dX8_best_21 : decode cX8_best 21 = .ok (.aload_n 0, 1) := by decide +kernel
theorem dX8_best_22 : decode cX8_best 22 = .ok (.getfield 156, 3) := by decide +kernel
theorem dX8_best_25 : decode cX8_best 25 = .ok (.ifCond .ne 6, 3) := by decide +kernel
theorem dX8_best_28 : decode cX8_best 28 = .ok (.bipush (-4), 2) := by decide +kernel
theorem dX8_best_30 : decode cX8_best 30 = .ok (.ireturn, 1) := by decide +kernel
theorem dX8_best_31 : decode cX8_best 31 = .ok (.aload_n 0, 1) := by decide +kernel
theorem dX8_best_32 : decode cX8_best 32 = .ok (.invokevirtual 233, 3) := by decide +kernel
theorem dX8_best_35 : decode cX8_best 35 = .ok (.iconst 0, 1) := by decide +kernel
theorem dX8_best_36 : decode cX8_best 36 = .ok (.istore_n 3, 1) := by decide +kernel
theorem dX8_best_37 : decode cX8_best 37 = .ok (.iconst (-1), 1) := by decide +kernel
theorem dX8_best_38 : decode cX8_best 38 = .ok (.istore 4, 2) := by decide +kernel
theorem dX8_best_40 : decode cX8_best 40 = .ok (.iconst 0, 1) := by decide +kernel
theorem dX8_best_41 : decode cX8_best 41 = .ok (.istore 5, 2) := by decide +kernel
theorem dX8_best_43 : decode cX8_best 43 = .ok (.iload 5, 2) := by decide +kernel
theorem dX8_best_45 : decode cX8_best 45 = .ok (.aload_n 0, 1) := by decide +kernel
theorem dX8_best_46 : decode cX8_best 46 = .ok (.iload_n 1, 1) := by decide +kernel
theorem dX8_best_47 : decode cX8_best 47 = .ok (.invokevirtual 236, 3) := by decide +kernel
theorem dX8_best_50 : decode cX8_best 50 = .ok (.if_icmp .ge 48, 3) := by decide +kernel
theorem dX8_best_53 : decode cX8_best 53 = .ok (.aload_n 0, 1) := by decide +kernel
theorem dX8_best_54 : decode cX8_best 54 = .ok (.iload 5, 2) := by decide +kernel
theorem dX8_best_56 : decode cX8_best 56 = .ok (.iload_n 1, 1) := by decide +kernel
theorem dX8_best_57 : decode cX8_best 57 = .ok (.invokevirtual 239, 3) := by decide +kernel
theorem dX8_best_60 : decode cX8_best 60 = .ok (.istore 6, 2) := by decide +kernel
theorem dX8_best_62 : decode cX8_best 62 = .ok (.iload 6, 2) := by decide +kernel
theorem dX8_best_64 : decode cX8_best 64 = .ok (.iload 4, 2) := by decide +kernel
theorem dX8_best_66 : decode cX8_best 66 = .ok (.if_icmp .le 8, 3) := by decide +kernel
theorem dX8_best_69 : decode cX8_best 69 = .ok (.iload 5, 2) := by decide +kernel
theorem dX8_best_71 : decode cX8_best 71 = .ok (.goto 4, 3) := by decide +kernel
theorem dX8_best_74 : decode cX8_best 74 = .ok (.iload_n 3, 1) := by decide +kernel
theorem dX8_best_75 : decode cX8_best 75 = .ok (.istore_n 3, 1) := by decide +kernel
theorem dX8_best_76 : decode cX8_best 76 = .ok (.iload 6, 2) := by decide +kernel
theorem dX8_best_78 : decode cX8_best 78 = .ok (.iload 4, 2) := by decide +kernel
theorem dX8_best_80 : decode cX8_best 80 = .ok (.if_icmp .le 8, 3) := by decide +kernel
theorem dX8_best_83 : decode cX8_best 83 = .ok (.iload 6, 2) := by decide +kernel
theorem dX8_best_85 : decode cX8_best 85 = .ok (.goto 5, 3) := by decide +kernel
theorem dX8_best_88 : decode cX8_best 88 = .ok (.iload 4, 2) := by decide +kernel
theorem dX8_best_90 : decode cX8_best 90 = .ok (.istore 4, 2) := by decide +kernel
theorem dX8_best_92 : decode cX8_best 92 = .ok (.iinc 5 1, 3) := by decide +kernel
theorem dX8_best_95 : decode cX8_best 95 = .ok (.goto (-52), 3) := by decide +kernel
theorem dX8_best_98 : decode cX8_best 98 = .ok (.aload_n 0, 1) := by decide +kernel
theorem dX8_best_99 : decode cX8_best 99 = .ok (.iload_n 2, 1) := by decide +kernel
theorem dX8_best_100 : decode cX8_best 100 = .ok (.iload_n 1, 1) := by decide +kernel
theorem dX8_best_101 : decode cX8_best 101 = .ok (.invokevirtual 242, 3) := by decide +kernel
theorem dX8_best_104 : decode cX8_best 104 = .ok (.iconst 0, 1) := by decide +kernel
theorem dX8_best_105 : decode cX8_best 105 = .ok (.istore 5, 2) := by decide +kernel
theorem dX8_best_107 : decode cX8_best 107 = .ok (.iload 5, 2) := by decide +kernel
theorem dX8_best_109 : decode cX8_best 109 = .ok (.iload_n 1, 1) := by decide +kernel
theorem dX8_best_110 : decode cX8_best 110 = .ok (.if_icmp .ge 29, 3) := by decide +kernel
theorem dX8_best_113 : decode cX8_best 113 = .ok (.aload_n 0, 1) := by decide +kernel
theorem dX8_best_114 : decode cX8_best 114 = .ok (.getfield 7, 3) := by decide +kernel
theorem dX8_best_117 : decode cX8_best 117 = .ok (.bipush 40, 2) := by decide +kernel
theorem dX8_best_119 : decode cX8_best 119 = .ok (.iload_n 2, 1) := by decide +kernel
theorem dX8_best_120 : decode cX8_best 120 = .ok (.imul, 1) := by decide +kernel
theorem dX8_best_121 : decode cX8_best 121 = .ok (.iload 5, 2) := by decide +kernel
theorem dX8_best_123 : decode cX8_best 123 = .ok (.iadd, 1) := by decide +kernel
theorem dX8_best_124 : decode cX8_best 124 = .ok (.aload_n 0, 1) := by decide +kernel
theorem dX8_best_125 : decode cX8_best 125 = .ok (.iload_n 3, 1) := by decide +kernel
theorem dX8_best_126 : decode cX8_best 126 = .ok (.iload 5, 2) := by decide +kernel
theorem dX8_best_128 : decode cX8_best 128 = .ok (.iload_n 1, 1) := by decide +kernel
theorem dX8_best_129 : decode cX8_best 129 = .ok (.invokevirtual 227, 3) := by decide +kernel
theorem dX8_best_132 : decode cX8_best 132 = .ok (.iastore, 1) := by decide +kernel
theorem dX8_best_133 : decode cX8_best 133 = .ok (.iinc 5 1, 3) := by decide +kernel
theorem dX8_best_136 : decode cX8_best 136 = .ok (.goto (-29), 3) := by decide +kernel
theorem dX8_best_139 : decode cX8_best 139 = .ok (.iload 4, 2) := by decide +kernel
theorem dX8_best_141 : decode cX8_best 141 = .ok (.ireturn, 1) := by decide +kernel
def P_X8_best_107 (p0 : Nat) (p1 : Int32) (p2 : Int32) (p3 : Int32) (p4 : Int32) : Nat → Int32 → PM Int32
  | 0, _ => failM
  | n + 1, q5 =>
    ifB (decide (p1 ≤ q5)) (
    pureM p4) (
    getR 8 0 p0 fun v6 =>
    cllV 8 p0 (P_X8_pairOf p0 p3 q5 p1) fun v7 =>
    ast v6 ((40 * p2) + q5) v7 <|
    P_X8_best_107 p0 p1 p2 p3 p4 n (q5 + 1))
def P_X8_best_43 (k_98 : Int32 → Int32 → PM Int32) (p0 : Nat) (p1 : Int32) (p2 : Int32) : Nat → Int32 → Int32 → Int32 → PM Int32
  | 0, _, _, _ => failM
  | n + 1, q3, q4, q5 =>
    cllV 8 p0 (P_X8_ways p0 p1) fun v9 =>
    ifB (decide (v9 ≤ q5)) (
    k_98 q3 q4) (
    cllV 8 p0 (P_X8_behind p0 q5 p1) fun v10 =>
    jn (fun (j11 : Int32) =>
    jn (fun (j12 : Int32) =>
    P_X8_best_43 k_98 p0 p1 p2 n j11 j12 (q5 + 1)) fun k13 =>
    ifB (decide (v10 ≤ q4)) (
    k13 q4) (
    k13 v10)) fun k14 =>
    ifB (decide (v10 ≤ q4)) (
    k14 q3) (
    k14 q5))
def P_X8_best (a0 : Nat) (x1 : Int32) (x2 : Int32) : PM Int32 :=
cll0 (P_X8_in (Int32.toInt64 x1) 0 3) fun v1 =>
ifB (decide (v1 = 0)) (
pureM ((-1))) (
cll0 (P_X8_isRow x2) fun v2 =>
ifB (decide (¬ v2 = 0)) (
getI 8 10 a0 fun v3 =>
ifB (decide (¬ v3 = 0)) (
cllV 8 a0 (P_X8_layPairs a0) fun _ =>
jn (fun (e4 : Int32) (e5 : Int32) =>
cllV 8 a0 (P_X8_newRow a0 x2 x1) fun _ =>
P_X8_best_107 a0 x1 x2 e4 e5 4000 0) fun k8 =>
P_X8_best_43 k8 a0 x1 x2 4000 0 ((-1)) 0) (
pureM ((-4)))) (
pureM ((-1))))
set_option maxHeartbeats 4000000 in
set_option maxRecDepth 100000 in
theorem W_X8_best_107 {Γ : Cx} (ok : OKc Γ cX8_best RX8 9 "best") (okr : OKr Γ cX8_best (some .int)) (p0 : Nat) (p1 : Int32) (p2 : Int32) (p3 : Int32) (p4 : Int32) : ∀ (n : Nat) (q5 : Int32), SW Γ iI 107 [some (.ref p0), some (.int p1), some (.int p2), some (.int p3), some (.int p4), some (.int q5), none] [] (P_X8_best_107 p0 p1 p2 p3 p4 n q5) := by
  intro n
  induction n with
  | zero =>
    intros
    exact sw_fail
  | succ n ih =>
    intro q5
    unfold P_X8_best_107
    refine sw_iload (z := q5) (pc' := 109) ok dX8_best_107 rfl rfl ?_
    refine sw_iload_n (z := p1) (pc' := 110) ok dX8_best_109 rfl rfl ?_
    refine sw_icmp_ge (tgt := 139) (pc' := 113) ok dX8_best_110 (by decide) rfl ?_ ?_
    · refine sw_iload (z := p4) (pc' := 141) ok dX8_best_139 rfl rfl ?_
      exact sw_ret ok okr dX8_best_141 trivial rfl
    refine sw_aload_n (z := p0) (pc' := 114) ok dX8_best_113 rfl rfl ?_
    refine sw_getR (pc' := 117) ok (fr_X8_7.g) dX8_best_114 rfl (fun v6 => ?_)
    refine sw_bipush (v := 40) (pc' := 119) ok dX8_best_117 rfl cc_bipush_40 ?_
    refine sw_iload_n (z := p2) (pc' := 120) ok dX8_best_119 rfl rfl ?_
    refine sw_imul (pc' := 121) ok dX8_best_120 rfl ?_
    refine sw_iload (z := q5) (pc' := 123) ok dX8_best_121 rfl rfl ?_
    refine sw_iadd (pc' := 124) ok dX8_best_123 rfl ?_
    refine sw_aload_n (z := p0) (pc' := 125) ok dX8_best_124 rfl rfl ?_
    refine sw_iload_n (z := p3) (pc' := 126) ok dX8_best_125 rfl rfl ?_
    refine sw_iload (z := q5) (pc' := 128) ok dX8_best_126 rfl rfl ?_
    refine sw_iload_n (z := p1) (pc' := 129) ok dX8_best_128 rfl rfl ?_
    refine sw_cllV_I (st := [.int ((40 * p2) + q5), .ref v6]) (as := [.int p3, .int q5, .int p1]) (pc' := 132) ok (S_X8_pairOf p0 p3 q5 p1) (by decide) lk_X8_227 rfl dX8_best_129 rfl (Nat.le_of_ble_eq_true rfl) rfl (fun v7 => ?_)
    refine sw_ast (pc' := 133) ok dX8_best_132 rfl ?_
    refine sw_iinc (z := q5) (v := q5 + 1) (pc' := 136) (l' := [some (.ref p0), some (.int p1), some (.int p2), some (.int p3), some (.int p4), some (.int (q5 + 1)), none]) ok dX8_best_133 rfl rfl (by rw [cc_iconst_1]) rfl ?_
    refine sw_goto (tgt := 107) ok dX8_best_136 (by decide) ?_
    exact ih (q5 + 1)
set_option maxHeartbeats 4000000 in
set_option maxRecDepth 100000 in
theorem W_X8_best_43 {Γ : Cx} (ok : OKc Γ cX8_best RX8 9 "best") (okr : OKr Γ cX8_best (some .int)) (k_98 : Int32 → Int32 → PM Int32) (p0 : Nat) (p1 : Int32) (p2 : Int32) (hk_98 : ∀ (y3 : Int32) (y4 : Int32), SW Γ iI 98 [some (.ref p0), some (.int p1), some (.int p2), some (.int y3), some (.int y4), none, none] [] (k_98 y3 y4)) : ∀ (n : Nat) (q3 : Int32) (q4 : Int32) (q5 : Int32), SW Γ iI 43 [some (.ref p0), some (.int p1), some (.int p2), some (.int q3), some (.int q4), some (.int q5), none] [] (P_X8_best_43 k_98 p0 p1 p2 n q3 q4 q5) := by
  intro n
  induction n with
  | zero =>
    intros
    exact sw_fail
  | succ n ih =>
    intro q3 q4 q5
    unfold P_X8_best_43
    refine sw_iload (z := q5) (pc' := 45) ok dX8_best_43 rfl rfl ?_
    refine sw_aload_n (z := p0) (pc' := 46) ok dX8_best_45 rfl rfl ?_
    refine sw_iload_n (z := p1) (pc' := 47) ok dX8_best_46 rfl rfl ?_
    refine sw_cllV_I (st := [.int q5]) (as := [.int p1]) (pc' := 50) ok (S_X8_ways p0 p1) (by decide) lk_X8_236 rfl dX8_best_47 rfl (Nat.le_of_ble_eq_true rfl) rfl (fun v9 => ?_)
    refine sw_icmp_ge (tgt := 98) (pc' := 53) ok dX8_best_50 (by decide) rfl ?_ ?_
    · refine sw_fg (l' := [some (.ref p0), some (.int p1), some (.int p2), some (.int q3), some (.int q4), none, none]) [true, true, true, true, true, false, false] rfl ?_
      exact hk_98 q3 q4
    refine sw_aload_n (z := p0) (pc' := 54) ok dX8_best_53 rfl rfl ?_
    refine sw_iload (z := q5) (pc' := 56) ok dX8_best_54 rfl rfl ?_
    refine sw_iload_n (z := p1) (pc' := 57) ok dX8_best_56 rfl rfl ?_
    refine sw_cllV_I (st := []) (as := [.int q5, .int p1]) (pc' := 60) ok (S_X8_behind p0 q5 p1) (by decide) lk_X8_239 rfl dX8_best_57 rfl (Nat.le_of_ble_eq_true rfl) rfl (fun v10 => ?_)
    refine sw_istore (pc' := 62) (l' := [some (.ref p0), some (.int p1), some (.int p2), some (.int q3), some (.int q4), some (.int q5), some (.int v10)]) ok dX8_best_60 rfl (Nat.le_of_ble_eq_true rfl) rfl ?_
    refine sw_iload (z := v10) (pc' := 64) ok dX8_best_62 rfl rfl ?_
    refine sw_iload (z := q4) (pc' := 66) ok dX8_best_64 rfl rfl ?_
    refine sw_jn (fun k14 : Int32 → PM Int32 => ∀ (j11 : Int32), SW Γ iI 75 [some (.ref p0), some (.int p1), some (.int p2), none, some (.int q4), some (.int q5), some (.int v10)] [.int j11] (k14 j11)) ?_ (fun k14 hk14 => ?_)
    · intro j11
      refine sw_istore_n (pc' := 76) (l' := [some (.ref p0), some (.int p1), some (.int p2), some (.int j11), some (.int q4), some (.int q5), some (.int v10)]) ok dX8_best_75 rfl (Nat.le_of_ble_eq_true rfl) rfl ?_
      refine sw_iload (z := v10) (pc' := 78) ok dX8_best_76 rfl rfl ?_
      refine sw_iload (z := q4) (pc' := 80) ok dX8_best_78 rfl rfl ?_
      refine sw_jn (fun k13 : Int32 → PM Int32 => ∀ (j12 : Int32), SW Γ iI 90 [some (.ref p0), some (.int p1), some (.int p2), some (.int j11), none, some (.int q5), none] [.int j12] (k13 j12)) ?_ (fun k13 hk13 => ?_)
      · intro j12
        refine sw_istore (pc' := 92) (l' := [some (.ref p0), some (.int p1), some (.int p2), some (.int j11), some (.int j12), some (.int q5), none]) ok dX8_best_90 rfl (Nat.le_of_ble_eq_true rfl) rfl ?_
        refine sw_iinc (z := q5) (v := q5 + 1) (pc' := 95) (l' := [some (.ref p0), some (.int p1), some (.int p2), some (.int j11), some (.int j12), some (.int (q5 + 1)), none]) ok dX8_best_92 rfl rfl (by rw [cc_iconst_1]) rfl ?_
        refine sw_goto (tgt := 43) ok dX8_best_95 (by decide) ?_
        exact ih j11 j12 (q5 + 1)
      refine sw_icmp_le (tgt := 88) (pc' := 83) ok dX8_best_80 (by decide) rfl ?_ ?_
      · refine sw_iload (z := q4) (pc' := 90) ok dX8_best_88 rfl rfl ?_
        refine sw_fg (l' := [some (.ref p0), some (.int p1), some (.int p2), some (.int j11), none, some (.int q5), none]) [true, true, true, true, false, true, false] rfl ?_
        exact hk13 q4
      refine sw_iload (z := v10) (pc' := 85) ok dX8_best_83 rfl rfl ?_
      refine sw_goto (tgt := 90) ok dX8_best_85 (by decide) ?_
      refine sw_fg (l' := [some (.ref p0), some (.int p1), some (.int p2), some (.int j11), none, some (.int q5), none]) [true, true, true, true, false, true, false] rfl ?_
      exact hk13 v10
    refine sw_icmp_le (tgt := 74) (pc' := 69) ok dX8_best_66 (by decide) rfl ?_ ?_
    · refine sw_iload_n (z := q3) (pc' := 75) ok dX8_best_74 rfl rfl ?_
      refine sw_fg (l' := [some (.ref p0), some (.int p1), some (.int p2), none, some (.int q4), some (.int q5), some (.int v10)]) [true, true, true, false, true, true, true] rfl ?_
      exact hk14 q3
    refine sw_iload (z := q5) (pc' := 71) ok dX8_best_69 rfl rfl ?_
    refine sw_goto (tgt := 75) ok dX8_best_71 (by decide) ?_
    refine sw_fg (l' := [some (.ref p0), some (.int p1), some (.int p2), none, some (.int q4), some (.int q5), some (.int v10)]) [true, true, true, false, true, true, true] rfl ?_
    exact hk14 q5
set_option maxHeartbeats 4000000 in
set_option maxRecDepth 100000 in
theorem W_X8_best {Γ : Cx} (ok : OKc Γ cX8_best RX8 9 "best") (okr : OKr Γ cX8_best (some .int)) (a0 : Nat) (x1 : Int32) (x2 : Int32) : SW Γ iI 0 [some (.ref a0), some (.int x1), some (.int x2), none, none, none, none] [] (P_X8_best a0 x1 x2) := by
  unfold P_X8_best
  refine sw_iload_n (z := x1) (pc' := 1) ok dX8_best_0 rfl rfl ?_
  refine sw_i2l (pc' := 2) ok dX8_best_1 rfl ?_
  refine sw_lconst (v := 0) (pc' := 3) ok dX8_best_2 rfl cc_lconst_0 ?_
  refine sw_ldc2 (v := 3) (pc' := 6) ok dX8_best_3 rfl wd_479 ?_
  refine sw_cll0_I (st := []) (as := [.long (Int32.toInt64 x1), .long 0, .long 3]) (pc' := 9) ok (S_X8_in (Int32.toInt64 x1) 0 3) (by decide) lk_X8_80 rfl dX8_best_6 rfl (Nat.le_of_ble_eq_true rfl) rfl (fun v1 => ?_)
  refine sw_if_eq (tgt := 19) (pc' := 12) ok dX8_best_9 (by decide) rfl ?_ ?_
  · refine sw_iconst (v := (-1)) (pc' := 20) ok dX8_best_19 rfl cc_iconst_m1 ?_
    exact sw_ret ok okr dX8_best_20 trivial rfl
  refine sw_iload_n (z := x2) (pc' := 13) ok dX8_best_12 rfl rfl ?_
  refine sw_cll0_I (st := []) (as := [.int x2]) (pc' := 16) ok (S_X8_isRow x2) (by decide) lk_X8_86 rfl dX8_best_13 rfl (Nat.le_of_ble_eq_true rfl) rfl (fun v2 => ?_)
  refine sw_if_ne (tgt := 21) (pc' := 19) ok dX8_best_16 (by decide) rfl ?_ ?_
  · refine sw_aload_n (z := a0) (pc' := 22) ok dX8_best_21 rfl rfl ?_
    refine sw_getI (pc' := 25) ok (fr_X8_156.g) dX8_best_22 rfl (fun v3 => ?_)
    refine sw_if_ne (tgt := 31) (pc' := 28) ok dX8_best_25 (by decide) rfl ?_ ?_
    · refine sw_aload_n (z := a0) (pc' := 32) ok dX8_best_31 rfl rfl ?_
      refine sw_cllV_U (st := []) (as := []) (pc' := 35) ok (S_X8_layPairs a0) (by decide) lk_X8_233 rfl dX8_best_32 rfl (Nat.le_of_ble_eq_true rfl) rfl (fun _ => ?_)
      refine sw_iconst (v := 0) (pc' := 36) ok dX8_best_35 rfl cc_iconst_0 ?_
      refine sw_istore_n (pc' := 37) (l' := [some (.ref a0), some (.int x1), some (.int x2), some (.int 0), none, none, none]) ok dX8_best_36 rfl (Nat.le_of_ble_eq_true rfl) rfl ?_
      refine sw_iconst (v := (-1)) (pc' := 38) ok dX8_best_37 rfl cc_iconst_m1 ?_
      refine sw_istore (pc' := 40) (l' := [some (.ref a0), some (.int x1), some (.int x2), some (.int 0), some (.int ((-1))), none, none]) ok dX8_best_38 rfl (Nat.le_of_ble_eq_true rfl) rfl ?_
      refine sw_iconst (v := 0) (pc' := 41) ok dX8_best_40 rfl cc_iconst_0 ?_
      refine sw_istore (pc' := 43) (l' := [some (.ref a0), some (.int x1), some (.int x2), some (.int 0), some (.int ((-1))), some (.int 0), none]) ok dX8_best_41 rfl (Nat.le_of_ble_eq_true rfl) rfl ?_
      refine sw_jn (fun k8 : Int32 → Int32 → PM Int32 => ∀ (e4 : Int32) (e5 : Int32), SW Γ iI 98 [some (.ref a0), some (.int x1), some (.int x2), some (.int e4), some (.int e5), none, none] [] (k8 e4 e5)) ?_ (fun k8 hk8 => ?_)
      · intro e4 e5
        refine sw_aload_n (z := a0) (pc' := 99) ok dX8_best_98 rfl rfl ?_
        refine sw_iload_n (z := x2) (pc' := 100) ok dX8_best_99 rfl rfl ?_
        refine sw_iload_n (z := x1) (pc' := 101) ok dX8_best_100 rfl rfl ?_
        refine sw_cllV_U (st := []) (as := [.int x2, .int x1]) (pc' := 104) ok (S_X8_newRow a0 x2 x1) (by decide) lk_X8_242 rfl dX8_best_101 rfl (Nat.le_of_ble_eq_true rfl) rfl (fun _ => ?_)
        refine sw_iconst (v := 0) (pc' := 105) ok dX8_best_104 rfl cc_iconst_0 ?_
        refine sw_istore (pc' := 107) (l' := [some (.ref a0), some (.int x1), some (.int x2), some (.int e4), some (.int e5), some (.int 0), none]) ok dX8_best_105 rfl (Nat.le_of_ble_eq_true rfl) rfl ?_
        exact W_X8_best_107 ok okr a0 x1 x2 e4 e5 4000 0
      exact W_X8_best_43 ok okr k8 a0 x1 x2 hk8 4000 0 ((-1)) 0
    refine sw_bipush (v := (-4)) (pc' := 30) ok dX8_best_28 rfl cc_bipush_m4 ?_
    exact sw_ret ok okr dX8_best_30 trivial rfl
  refine sw_iconst (v := (-1)) (pc' := 20) ok dX8_best_19 rfl cc_iconst_m1 ?_
  exact sw_ret ok okr dX8_best_20 trivial rfl
theorem S_X8_best (a0 : Nat) (x1 : Int32) (x2 : Int32) : Sim 9 yX8_best cX8_best 7 (some .int) iI [.ref a0, .int x1, .int x2] (P_X8_best a0 x1 x2) := Sim.intro wd_1118 (by decide) (by decide +kernel) (Nat.le_of_ble_eq_true rfl) (fun Γ ok okr => W_X8_best ok okr a0 x1 x2)
theorem dX8_isNumber_0 : decode cX8_isNumber 0 = .ok (.iload_n 1, 1) := by decide +kernel
theorem dX8_isNumber_1 : decode cX8_isNumber 1 = .ok (.ifCond .lt 29, 3) := by decide +kernel
theorem dX8_isNumber_4 : decode cX8_isNumber 4 = .ok (.iload_n 1, 1) := by decide +kernel
theorem dX8_isNumber_5 : decode cX8_isNumber 5 = .ok (.bipush 10, 2) := by decide +kernel
theorem dX8_isNumber_7 : decode cX8_isNumber 7 = .ok (.idiv, 1) := by decide +kernel
theorem dX8_isNumber_8 : decode cX8_isNumber 8 = .ok (.iload_n 1, 1) := by decide +kernel
theorem dX8_isNumber_9 : decode cX8_isNumber 9 = .ok (.bipush 10, 2) := by decide +kernel
theorem dX8_isNumber_11 : decode cX8_isNumber 11 = .ok (.irem, 1) := by decide +kernel
theorem dX8_isNumber_12 : decode cX8_isNumber 12 = .ok (.if_icmp .ge 18, 3) := by decide +kernel
theorem dX8_isNumber_15 : decode cX8_isNumber 15 = .ok (.aload_n 0, 1) := by decide +kernel
theorem dX8_isNumber_16 : decode cX8_isNumber 16 = .ok (.iload_n 1, 1) := by decide +kernel
theorem dX8_isNumber_17 : decode cX8_isNumber 17 = .ok (.bipush 10, 2) := by decide +kernel
theorem dX8_isNumber_19 : decode cX8_isNumber 19 = .ok (.irem, 1) := by decide +kernel
theorem dX8_isNumber_20 : decode cX8_isNumber 20 = .ok (.invokevirtual 186, 3) := by decide +kernel
theorem dX8_isNumber_23 : decode cX8_isNumber 23 = .ok (.ifCond .eq 7, 3) := by decide +kernel
theorem dX8_isNumber_26 : decode cX8_isNumber 26 = .ok (.iconst 1, 1) := by decide +kernel
theorem dX8_isNumber_27 : decode cX8_isNumber 27 = .ok (.goto 4, 3) := by decide +kernel
theorem dX8_isNumber_30 : decode cX8_isNumber 30 = .ok (.iconst 0, 1) := by decide +kernel
theorem dX8_isNumber_31 : decode cX8_isNumber 31 = .ok (.ireturn, 1) := by decide +kernel
def P_X8_isNumber (a0 : Nat) (x1 : Int32) : PM Int32 :=
jn (
retZ 0) fun k1 =>
ifB (decide (x1 < 0)) (
k1) (
divI x1 10 fun v2 =>
remI x1 10 fun v3 =>
ifB (decide (v3 ≤ v2)) (
k1) (
remI x1 10 fun v4 =>
cllV 8 a0 (P_X8_isOne a0 v4) fun v5 =>
ifB (decide (v5 = 0)) (
k1) (
retZ 1)))
set_option maxHeartbeats 4000000 in
set_option maxRecDepth 100000 in
theorem W_X8_isNumber {Γ : Cx} (ok : OKc Γ cX8_isNumber RX8 2 "isNumber") (okr : OKr Γ cX8_isNumber (some .boolean)) (a0 : Nat) (x1 : Int32) : SW Γ iI 0 [some (.ref a0), some (.int x1)] [] (P_X8_isNumber a0 x1) := by
  unfold P_X8_isNumber
  refine sw_iload_n (z := x1) (pc' := 1) ok dX8_isNumber_0 rfl rfl ?_
  refine sw_jn (fun k1 : PM Int32 => SW Γ iI 30 [none, none] [] (k1)) ?_ (fun k1 hk1 => ?_)
  · refine sw_iconst (v := 0) (pc' := 31) ok dX8_isNumber_30 rfl cc_iconst_0 ?_
    exact sw_retZ ok okr dX8_isNumber_31
  refine sw_if_lt (tgt := 30) (pc' := 4) ok dX8_isNumber_1 (by decide) rfl ?_ ?_
  · refine sw_fg (l' := [none, none]) [false, false] rfl ?_
    exact hk1
  refine sw_iload_n (z := x1) (pc' := 5) ok dX8_isNumber_4 rfl rfl ?_
  refine sw_bipush (v := 10) (pc' := 7) ok dX8_isNumber_5 rfl cc_bipush_10 ?_
  refine sw_divI (pc' := 8) ok dX8_isNumber_7 rfl (fun v2 => ?_)
  refine sw_iload_n (z := x1) (pc' := 9) ok dX8_isNumber_8 rfl rfl ?_
  refine sw_bipush (v := 10) (pc' := 11) ok dX8_isNumber_9 rfl cc_bipush_10 ?_
  refine sw_remI (pc' := 12) ok dX8_isNumber_11 rfl (fun v3 => ?_)
  refine sw_icmp_ge (tgt := 30) (pc' := 15) ok dX8_isNumber_12 (by decide) rfl ?_ ?_
  · refine sw_fg (l' := [none, none]) [false, false] rfl ?_
    exact hk1
  refine sw_aload_n (z := a0) (pc' := 16) ok dX8_isNumber_15 rfl rfl ?_
  refine sw_iload_n (z := x1) (pc' := 17) ok dX8_isNumber_16 rfl rfl ?_
  refine sw_bipush (v := 10) (pc' := 19) ok dX8_isNumber_17 rfl cc_bipush_10 ?_
  refine sw_remI (pc' := 20) ok dX8_isNumber_19 rfl (fun v4 => ?_)
  refine sw_cllV_I (st := []) (as := [.int v4]) (pc' := 23) ok (S_X8_isOne a0 v4) (by decide) lk_X8_186 rfl dX8_isNumber_20 rfl (Nat.le_of_ble_eq_true rfl) rfl (fun v5 => ?_)
  refine sw_if_eq (tgt := 30) (pc' := 26) ok dX8_isNumber_23 (by decide) rfl ?_ ?_
  · refine sw_fg (l' := [none, none]) [false, false] rfl ?_
    exact hk1
  refine sw_iconst (v := 1) (pc' := 27) ok dX8_isNumber_26 rfl cc_iconst_1 ?_
  refine sw_goto (tgt := 31) ok dX8_isNumber_27 (by decide) ?_
  exact sw_retZ ok okr dX8_isNumber_31
theorem S_X8_isNumber (a0 : Nat) (x1 : Int32) : Sim 2 yX8_isNumber cX8_isNumber 2 (some .boolean) iI [.ref a0, .int x1] (P_X8_isNumber a0 x1) := Sim.intro wd_1119 (by decide) (by decide +kernel) (Nat.le_of_ble_eq_true rfl) (fun Γ ok okr => W_X8_isNumber ok okr a0 x1)
theorem dX8_refusedWatches_0 : decode cX8_refusedWatches 0 = .ok (.aload_n 0, 1) := by decide +kernel
theorem dX8_refusedWatches_1 : decode cX8_refusedWatches 1 = .ok (.getfield 13, 3) := by decide +kernel
theorem dX8_refusedWatches_4 : decode cX8_refusedWatches 4 = .ok (.iload_n 1, 1) := by decide +kernel
theorem dX8_refusedWatches_5 : decode cX8_refusedWatches 5 = .ok (.iaload, 1) := by decide +kernel
theorem dX8_refusedWatches_6 : decode cX8_refusedWatches 6 = .ok (.ifCond .ge 5, 3) := by decide +kernel
theorem dX8_refusedWatches_9 : decode cX8_refusedWatches 9 = .ok (.iconst 1, 1) := by decide +kernel
theorem dX8_refusedWatches_10 : decode cX8_refusedWatches 10 = .ok (.ireturn, 1) := by decide +kernel
theorem dX8_refusedWatches_11 : decode cX8_refusedWatches 11 = .ok (.aload_n 0, 1) := by decide +kernel
theorem dX8_refusedWatches_12 : decode cX8_refusedWatches 12 = .ok (.getfield 13, 3) := by decide +kernel
theorem dX8_refusedWatches_15 : decode cX8_refusedWatches 15 = .ok (.iload_n 1, 1) := by decide +kernel
theorem dX8_refusedWatches_16 : decode cX8_refusedWatches 16 = .ok (.iaload, 1) := by decide +kernel
theorem dX8_refusedWatches_17 : decode cX8_refusedWatches 17 = .ok (.bipush 20, 2) := by decide +kernel
theorem dX8_refusedWatches_19 : decode cX8_refusedWatches 19 = .ok (.if_icmp .le 5, 3) := by decide +kernel
theorem dX8_refusedWatches_22 : decode cX8_refusedWatches 22 = .ok (.iconst 5, 1) := by decide +kernel
theorem dX8_refusedWatches_23 : decode cX8_refusedWatches 23 = .ok (.ireturn, 1) := by decide +kernel
theorem dX8_refusedWatches_24 : decode cX8_refusedWatches 24 = .ok (.iconst 0, 1) := by decide +kernel
theorem dX8_refusedWatches_25 : decode cX8_refusedWatches 25 = .ok (.istore_n 2, 1) := by decide +kernel
theorem dX8_refusedWatches_26 : decode cX8_refusedWatches 26 = .ok (.iload_n 2, 1) := by decide +kernel
theorem dX8_refusedWatches_27 : decode cX8_refusedWatches 27 = .ok (.aload_n 0, 1) := by decide +kernel
theorem dX8_refusedWatches_28 : decode cX8_refusedWatches 28 = .ok (.getfield 13, 3) := by decide +kernel
theorem dX8_refusedWatches_31 : decode cX8_refusedWatches 31 = .ok (.iload_n 1, 1) := by decide +kernel
theorem dX8_refusedWatches_32 : decode cX8_refusedWatches 32 = .ok (.iaload, 1) := by decide +kernel
theorem dX8_refusedWatches_33 : decode cX8_refusedWatches 33 = .ok (.if_icmp .ge 29, 3) := by decide +kernel
theorem dX8_refusedWatches_36 : decode cX8_refusedWatches 36 = .ok (.aload_n 0, 1) := by decide +kernel
theorem dX8_refusedWatches_37 : decode cX8_refusedWatches 37 = .ok (.aload_n 0, 1) := by decide +kernel
theorem dX8_refusedWatches_38 : decode cX8_refusedWatches 38 = .ok (.getfield 7, 3) := by decide +kernel
theorem dX8_refusedWatches_41 : decode cX8_refusedWatches 41 = .ok (.bipush 40, 2) := by decide +kernel
theorem dX8_refusedWatches_43 : decode cX8_refusedWatches 43 = .ok (.iload_n 1, 1) := by decide +kernel
theorem dX8_refusedWatches_44 : decode cX8_refusedWatches 44 = .ok (.imul, 1) := by decide +kernel
theorem dX8_refusedWatches_45 : decode cX8_refusedWatches 45 = .ok (.iload_n 2, 1) := by decide +kernel
theorem dX8_refusedWatches_46 : decode cX8_refusedWatches 46 = .ok (.iadd, 1) := by decide +kernel
theorem dX8_refusedWatches_47 : decode cX8_refusedWatches 47 = .ok (.iaload, 1) := by decide +kernel
theorem dX8_refusedWatches_48 : decode cX8_refusedWatches 48 = .ok (.invokevirtual 246, 3) := by decide +kernel
theorem dX8_refusedWatches_51 : decode cX8_refusedWatches 51 = .ok (.ifCond .ne 5, 3) := by decide +kernel
theorem dX8_refusedWatches_54 : decode cX8_refusedWatches 54 = .ok (.iconst 3, 1) := by decide +kernel
theorem dX8_refusedWatches_55 : decode cX8_refusedWatches 55 = .ok (.ireturn, 1) := by decide +kernel
theorem dX8_refusedWatches_56 : decode cX8_refusedWatches 56 = .ok (.iinc 2 1, 3) := by decide +kernel
theorem dX8_refusedWatches_59 : decode cX8_refusedWatches 59 = .ok (.goto (-33), 3) := by decide +kernel
theorem dX8_refusedWatches_62 : decode cX8_refusedWatches 62 = .ok (.iconst 0, 1) := by decide +kernel
theorem dX8_refusedWatches_63 : decode cX8_refusedWatches 63 = .ok (.ireturn, 1) := by decide +kernel
def P_X8_refusedWatches_26 (p0 : Nat) (p1 : Int32) : Nat → Int32 → PM Int32
  | 0, _ => failM
  | n + 1, q2 =>
    getR 8 1 p0 fun v5 =>
    ald v5 p1 fun v6 =>
    ifB (decide (v6 ≤ q2)) (
    pureM 0) (
    getR 8 0 p0 fun v7 =>
    ald v7 ((40 * p1) + q2) fun v8 =>
    cllV 8 p0 (P_X8_isNumber p0 v8) fun v9 =>
    ifB (decide (¬ v9 = 0)) (
    P_X8_refusedWatches_26 p0 p1 n (q2 + 1)) (
    pureM 3))
def P_X8_refusedWatches (a0 : Nat) (x1 : Int32) : PM Int32 :=
getR 8 1 a0 fun v1 =>
ald v1 x1 fun v2 =>
ifB (decide (0 ≤ v2)) (
getR 8 1 a0 fun v3 =>
ald v3 x1 fun v4 =>
ifB (decide (v4 ≤ 20)) (
P_X8_refusedWatches_26 a0 x1 4000 0) (
pureM 5)) (
pureM 1)
set_option maxHeartbeats 4000000 in
set_option maxRecDepth 100000 in
theorem W_X8_refusedWatches_26 {Γ : Cx} (ok : OKc Γ cX8_refusedWatches RX8 3 "refusedWatches") (okr : OKr Γ cX8_refusedWatches (some .int)) (p0 : Nat) (p1 : Int32) : ∀ (n : Nat) (q2 : Int32), SW Γ iI 26 [some (.ref p0), some (.int p1), some (.int q2)] [] (P_X8_refusedWatches_26 p0 p1 n q2) := by
  intro n
  induction n with
  | zero =>
    intros
    exact sw_fail
  | succ n ih =>
    intro q2
    unfold P_X8_refusedWatches_26
    refine sw_iload_n (z := q2) (pc' := 27) ok dX8_refusedWatches_26 rfl rfl ?_
    refine sw_aload_n (z := p0) (pc' := 28) ok dX8_refusedWatches_27 rfl rfl ?_
    refine sw_getR (pc' := 31) ok (fr_X8_13.g) dX8_refusedWatches_28 rfl (fun v5 => ?_)
    refine sw_iload_n (z := p1) (pc' := 32) ok dX8_refusedWatches_31 rfl rfl ?_
    refine sw_ald (pc' := 33) ok dX8_refusedWatches_32 rfl (fun v6 => ?_)
    refine sw_icmp_ge (tgt := 62) (pc' := 36) ok dX8_refusedWatches_33 (by decide) rfl ?_ ?_
    · refine sw_iconst (v := 0) (pc' := 63) ok dX8_refusedWatches_62 rfl cc_iconst_0 ?_
      exact sw_ret ok okr dX8_refusedWatches_63 trivial rfl
    refine sw_aload_n (z := p0) (pc' := 37) ok dX8_refusedWatches_36 rfl rfl ?_
    refine sw_aload_n (z := p0) (pc' := 38) ok dX8_refusedWatches_37 rfl rfl ?_
    refine sw_getR (pc' := 41) ok (fr_X8_7.g) dX8_refusedWatches_38 rfl (fun v7 => ?_)
    refine sw_bipush (v := 40) (pc' := 43) ok dX8_refusedWatches_41 rfl cc_bipush_40 ?_
    refine sw_iload_n (z := p1) (pc' := 44) ok dX8_refusedWatches_43 rfl rfl ?_
    refine sw_imul (pc' := 45) ok dX8_refusedWatches_44 rfl ?_
    refine sw_iload_n (z := q2) (pc' := 46) ok dX8_refusedWatches_45 rfl rfl ?_
    refine sw_iadd (pc' := 47) ok dX8_refusedWatches_46 rfl ?_
    refine sw_ald (pc' := 48) ok dX8_refusedWatches_47 rfl (fun v8 => ?_)
    refine sw_cllV_I (st := []) (as := [.int v8]) (pc' := 51) ok (S_X8_isNumber p0 v8) (by decide) lk_X8_246 rfl dX8_refusedWatches_48 rfl (Nat.le_of_ble_eq_true rfl) rfl (fun v9 => ?_)
    refine sw_if_ne (tgt := 56) (pc' := 54) ok dX8_refusedWatches_51 (by decide) rfl ?_ ?_
    · refine sw_iinc (z := q2) (v := q2 + 1) (pc' := 59) (l' := [some (.ref p0), some (.int p1), some (.int (q2 + 1))]) ok dX8_refusedWatches_56 rfl rfl (by rw [cc_iconst_1]) rfl ?_
      refine sw_goto (tgt := 26) ok dX8_refusedWatches_59 (by decide) ?_
      exact ih (q2 + 1)
    refine sw_iconst (v := 3) (pc' := 55) ok dX8_refusedWatches_54 rfl cc_iconst_3 ?_
    exact sw_ret ok okr dX8_refusedWatches_55 trivial rfl
set_option maxHeartbeats 4000000 in
set_option maxRecDepth 100000 in
theorem W_X8_refusedWatches {Γ : Cx} (ok : OKc Γ cX8_refusedWatches RX8 3 "refusedWatches") (okr : OKr Γ cX8_refusedWatches (some .int)) (a0 : Nat) (x1 : Int32) : SW Γ iI 0 [some (.ref a0), some (.int x1), none] [] (P_X8_refusedWatches a0 x1) := by
  unfold P_X8_refusedWatches
  refine sw_aload_n (z := a0) (pc' := 1) ok dX8_refusedWatches_0 rfl rfl ?_
  refine sw_getR (pc' := 4) ok (fr_X8_13.g) dX8_refusedWatches_1 rfl (fun v1 => ?_)
  refine sw_iload_n (z := x1) (pc' := 5) ok dX8_refusedWatches_4 rfl rfl ?_
  refine sw_ald (pc' := 6) ok dX8_refusedWatches_5 rfl (fun v2 => ?_)
  refine sw_if_ge (tgt := 11) (pc' := 9) ok dX8_refusedWatches_6 (by decide) rfl ?_ ?_
  · refine sw_aload_n (z := a0) (pc' := 12) ok dX8_refusedWatches_11 rfl rfl ?_
    refine sw_getR (pc' := 15) ok (fr_X8_13.g) dX8_refusedWatches_12 rfl (fun v3 => ?_)
    refine sw_iload_n (z := x1) (pc' := 16) ok dX8_refusedWatches_15 rfl rfl ?_
    refine sw_ald (pc' := 17) ok dX8_refusedWatches_16 rfl (fun v4 => ?_)
    refine sw_bipush (v := 20) (pc' := 19) ok dX8_refusedWatches_17 rfl cc_bipush_20 ?_
    refine sw_icmp_le (tgt := 24) (pc' := 22) ok dX8_refusedWatches_19 (by decide) rfl ?_ ?_
    · refine sw_iconst (v := 0) (pc' := 25) ok dX8_refusedWatches_24 rfl cc_iconst_0 ?_
      refine sw_istore_n (pc' := 26) (l' := [some (.ref a0), some (.int x1), some (.int 0)]) ok dX8_refusedWatches_25 rfl (Nat.le_of_ble_eq_true rfl) rfl ?_
      exact W_X8_refusedWatches_26 ok okr a0 x1 4000 0
    refine sw_iconst (v := 5) (pc' := 23) ok dX8_refusedWatches_22 rfl cc_iconst_5 ?_
    exact sw_ret ok okr dX8_refusedWatches_23 trivial rfl
  refine sw_iconst (v := 1) (pc' := 10) ok dX8_refusedWatches_9 rfl cc_iconst_1 ?_
  exact sw_ret ok okr dX8_refusedWatches_10 trivial rfl
theorem S_X8_refusedWatches (a0 : Nat) (x1 : Int32) : Sim 3 yX8_refusedWatches cX8_refusedWatches 3 (some .int) iI [.ref a0, .int x1] (P_X8_refusedWatches a0 x1) := Sim.intro wd_1120 (by decide) (by decide +kernel) (Nat.le_of_ble_eq_true rfl) (fun Γ ok okr => W_X8_refusedWatches ok okr a0 x1)
theorem dX8_through_0 : decode cX8_through 0 = .ok (.iload_n 1, 1) := by decide +kernel
theorem dX8_through_1 : decode cX8_through 1 = .ok (.invokestatic 86, 3) := by decide +kernel
theorem dX8_through_4 : decode cX8_through 4 = .ok (.ifCond .ne 5, 3) := by decide +kernel
theorem dX8_through_7 : decode cX8_through 7 = .ok (.iconst (-1), 1) := by decide +kernel
theorem dX8_through_8 : decode cX8_through 8 = .ok (.ireturn, 1) := by decide +kernel
theorem dX8_through_9 : decode cX8_through 9 = .ok (.aload_n 0, 1) := by decide +kernel
theorem dX8_through_10 : decode cX8_through 10 = .ok (.getfield 156, 3) := by decide +kernel
theorem dX8_through_13 : decode cX8_through 13 = .ok (.ifCond .ne 6, 3) := by decide +kernel
theorem dX8_through_16 : decode cX8_through 16 = .ok (.bipush (-4), 2) := by decide +kernel
theorem dX8_through_18 : decode cX8_through 18 = .ok (.ireturn, 1) := by decide +kernel
theorem dX8_through_19 : decode cX8_through 19 = .ok (.aload_n 0, 1) := by decide +kernel
theorem dX8_through_20 : decode cX8_through 20 = .ok (.iload_n 1, 1) := by decide +kernel
theorem dX8_through_21 : decode cX8_through 21 = .ok (.invokevirtual 249, 3) := by decide +kernel
theorem dX8_through_24 : decode cX8_through 24 = .ok (.istore_n 2, 1) := by decide +kernel
theorem dX8_through_25 : decode cX8_through 25 = .ok (.iload_n 2, 1) := by decide +kernel
theorem dX8_through_26 : decode cX8_through 26 = .ok (.ifCond .le 9, 3) := by decide +kernel
theorem dX8_through_29 : decode cX8_through 29 = .ok (.aload_n 0, 1) := by decide +kernel
theorem dX8_through_30 : decode cX8_through 30 = .ok (.iload_n 2, 1) := by decide +kernel
theorem dX8_through_31 : decode cX8_through 31 = .ok (.invokevirtual 90, 3) := by decide +kernel
theorem dX8_through_34 : decode cX8_through 34 = .ok (.ireturn, 1) := by decide +kernel
theorem dX8_through_35 : decode cX8_through 35 = .ok (.aload_n 0, 1) := by decide +kernel
theorem dX8_through_36 : decode cX8_through 36 = .ok (.iconst 0, 1) := by decide +kernel
theorem dX8_through_37 : decode cX8_through 37 = .ok (.bipush 11, 2) := by decide +kernel
theorem dX8_through_39 : decode cX8_through 39 = .ok (.bipush 11, 2) := by decide +kernel
theorem dX8_through_41 : decode cX8_through 41 = .ok (.invokevirtual 204, 3) := by decide +kernel
theorem dX8_through_44 : decode cX8_through 44 = .ok (.aload_n 0, 1) := by decide +kernel
theorem dX8_through_45 : decode cX8_through 45 = .ok (.getfield 22, 3) := by decide +kernel
theorem dX8_through_48 : decode cX8_through 48 = .ok (.iconst 0, 1) := by decide +kernel
theorem dX8_through_49 : decode cX8_through 49 = .ok (.iaload, 1) := by decide +kernel
theorem dX8_through_50 : decode cX8_through 50 = .ok (.istore_n 3, 1) := by decide +kernel
theorem dX8_through_51 : decode cX8_through 51 = .ok (.iconst 0, 1) := by decide +kernel
theorem dX8_through_52 : decode cX8_through 52 = .ok (.istore 4, 2) := by decide +kernel
theorem dX8_through_54 : decode cX8_through 54 = .ok (.iload 4, 2) := by decide +kernel
theorem dX8_through_56 : decode cX8_through 56 = .ok (.aload_n 0, 1) := by decide +kernel
theorem dX8_through_57 : decode cX8_through 57 = .ok (.getfield 13, 3) := by decide +kernel
theorem dX8_through_60 : decode cX8_through 60 = .ok (.iload_n 1, 1) := by decide +kernel
theorem dX8_through_61 : decode cX8_through 61 = .ok (.iaload, 1) := by decide +kernel
theorem dX8_through_62 : decode cX8_through 62 = .ok (.if_icmp .ge 37, 3) := by decide +kernel
theorem dX8_through_65 : decode cX8_through 65 = .ok (.aload_n 0, 1) := by decide +kernel
theorem dX8_through_66 : decode cX8_through 66 = .ok (.aload_n 0, 1) := by decide +kernel
theorem dX8_through_67 : decode cX8_through 67 = .ok (.getfield 7, 3) := by decide +kernel
theorem dX8_through_70 : decode cX8_through 70 = .ok (.bipush 40, 2) := by decide +kernel
theorem dX8_through_72 : decode cX8_through 72 = .ok (.iload_n 1, 1) := by decide +kernel
theorem dX8_through_73 : decode cX8_through 73 = .ok (.imul, 1) := by decide +kernel
theorem dX8_through_74 : decode cX8_through 74 = .ok (.iload 4, 2) := by decide +kernel
theorem dX8_through_76 : decode cX8_through 76 = .ok (.iadd, 1) := by decide +kernel
theorem dX8_through_77 : decode cX8_through 77 = .ok (.iaload, 1) := by decide +kernel
theorem dX8_through_78 : decode cX8_through 78 = .ok (.invokevirtual 230, 3) := by decide +kernel
theorem dX8_through_81 : decode cX8_through 81 = .ok (.iload_n 3, 1) := by decide +kernel
theorem dX8_through_82 : decode cX8_through 82 = .ok (.aload_n 0, 1) := by decide +kernel
theorem dX8_through_83 : decode cX8_through 83 = .ok (.getfield 22, 3) := by decide +kernel
theorem dX8_through_86 : decode cX8_through 86 = .ok (.bipush 11, 2) := by decide +kernel
theorem dX8_through_88 : decode cX8_through 88 = .ok (.iaload, 1) := by decide +kernel
theorem dX8_through_89 : decode cX8_through 89 = .ok (.invokestatic 208, 3) := by decide +kernel
theorem dX8_through_92 : decode cX8_through 92 = .ok (.istore_n 3, 1) := by decide +kernel
theorem dX8_through_93 : decode cX8_through 93 = .ok (.iinc 4 1, 3) := by decide +kernel
theorem dX8_through_96 : decode cX8_through 96 = .ok (.goto (-42), 3) := by decide +kernel
theorem dX8_through_99 : decode cX8_through 99 = .ok (.aload_n 0, 1) := by decide +kernel
theorem dX8_through_100 : decode cX8_through 100 = .ok (.iload_n 3, 1) := by decide +kernel
theorem dX8_through_101 : decode cX8_through 101 = .ok (.putfield 98, 3) := by decide +kernel
theorem dX8_through_104 : decode cX8_through 104 = .ok (.aload_n 0, 1) := by decide +kernel
theorem dX8_through_105 : decode cX8_through 105 = .ok (.getfield 22, 3) := by decide +kernel
theorem dX8_through_108 : decode cX8_through 108 = .ok (.bipush 11, 2) := by decide +kernel
theorem dX8_through_110 : decode cX8_through 110 = .ok (.iaload, 1) := by decide +kernel
theorem dX8_through_111 : decode cX8_through 111 = .ok (.ireturn, 1) := by decide +kernel
def P_X8_through_54 (k_99 : Int32 → PM Int32) (p0 : Nat) (p1 : Int32) : Nat → Int32 → Int32 → PM Int32
  | 0, _, _ => failM
  | n + 1, q3, q4 =>
    getR 8 1 p0 fun v10 =>
    ald v10 p1 fun v11 =>
    ifB (decide (v11 ≤ q4)) (
    k_99 q3) (
    getR 8 0 p0 fun v12 =>
    ald v12 ((40 * p1) + q4) fun v13 =>
    cllV 8 p0 (P_X8_watchBy p0 v13) fun _ =>
    getR 8 4 p0 fun v14 =>
    ald v14 11 fun v15 =>
    cll0 (P_X8_least q3 v15) fun v16 =>
    P_X8_through_54 k_99 p0 p1 n v16 (q4 + 1))
def P_X8_through (a0 : Nat) (x1 : Int32) : PM Int32 :=
cll0 (P_X8_isRow x1) fun v1 =>
ifB (decide (¬ v1 = 0)) (
getI 8 10 a0 fun v2 =>
ifB (decide (¬ v2 = 0)) (
cllV 8 a0 (P_X8_refusedWatches a0 x1) fun v3 =>
ifB (decide (v3 ≤ 0)) (
cllV 8 a0 (P_X8_take a0 0 11 11) fun _ =>
getR 8 4 a0 fun v4 =>
ald v4 0 fun v5 =>
jn (fun (e6 : Int32) =>
setI 8 14 a0 e6 <|
getR 8 4 a0 fun v7 =>
ald v7 11 fun v8 =>
pureM v8) fun k9 =>
P_X8_through_54 k9 a0 x1 4000 v5 0) (
cllV 8 a0 (P_X8_refuse a0 v3) fun v17 =>
pureM v17)) (
pureM ((-4)))) (
pureM ((-1)))
set_option maxHeartbeats 4000000 in
set_option maxRecDepth 100000 in
theorem W_X8_through_54 {Γ : Cx} (ok : OKc Γ cX8_through RX8 8 "through") (okr : OKr Γ cX8_through (some .int)) (k_99 : Int32 → PM Int32) (p0 : Nat) (p1 : Int32) (hk_99 : ∀ (y3 : Int32), SW Γ iI 99 [some (.ref p0), none, none, some (.int y3), none] [] (k_99 y3)) : ∀ (n : Nat) (q3 : Int32) (q4 : Int32), SW Γ iI 54 [some (.ref p0), some (.int p1), none, some (.int q3), some (.int q4)] [] (P_X8_through_54 k_99 p0 p1 n q3 q4) := by
  intro n
  induction n with
  | zero =>
    intros
    exact sw_fail
  | succ n ih =>
    intro q3 q4
    unfold P_X8_through_54
    refine sw_iload (z := q4) (pc' := 56) ok dX8_through_54 rfl rfl ?_
    refine sw_aload_n (z := p0) (pc' := 57) ok dX8_through_56 rfl rfl ?_
    refine sw_getR (pc' := 60) ok (fr_X8_13.g) dX8_through_57 rfl (fun v10 => ?_)
    refine sw_iload_n (z := p1) (pc' := 61) ok dX8_through_60 rfl rfl ?_
    refine sw_ald (pc' := 62) ok dX8_through_61 rfl (fun v11 => ?_)
    refine sw_icmp_ge (tgt := 99) (pc' := 65) ok dX8_through_62 (by decide) rfl ?_ ?_
    · refine sw_fg (l' := [some (.ref p0), none, none, some (.int q3), none]) [true, false, false, true, false] rfl ?_
      exact hk_99 q3
    refine sw_aload_n (z := p0) (pc' := 66) ok dX8_through_65 rfl rfl ?_
    refine sw_aload_n (z := p0) (pc' := 67) ok dX8_through_66 rfl rfl ?_
    refine sw_getR (pc' := 70) ok (fr_X8_7.g) dX8_through_67 rfl (fun v12 => ?_)
    refine sw_bipush (v := 40) (pc' := 72) ok dX8_through_70 rfl cc_bipush_40 ?_
    refine sw_iload_n (z := p1) (pc' := 73) ok dX8_through_72 rfl rfl ?_
    refine sw_imul (pc' := 74) ok dX8_through_73 rfl ?_
    refine sw_iload (z := q4) (pc' := 76) ok dX8_through_74 rfl rfl ?_
    refine sw_iadd (pc' := 77) ok dX8_through_76 rfl ?_
    refine sw_ald (pc' := 78) ok dX8_through_77 rfl (fun v13 => ?_)
    refine sw_cllV_U (st := []) (as := [.int v13]) (pc' := 81) ok (S_X8_watchBy p0 v13) (by decide) lk_X8_230 rfl dX8_through_78 rfl (Nat.le_of_ble_eq_true rfl) rfl (fun _ => ?_)
    refine sw_iload_n (z := q3) (pc' := 82) ok dX8_through_81 rfl rfl ?_
    refine sw_aload_n (z := p0) (pc' := 83) ok dX8_through_82 rfl rfl ?_
    refine sw_getR (pc' := 86) ok (fr_X8_22.g) dX8_through_83 rfl (fun v14 => ?_)
    refine sw_bipush (v := 11) (pc' := 88) ok dX8_through_86 rfl cc_bipush_11 ?_
    refine sw_ald (pc' := 89) ok dX8_through_88 rfl (fun v15 => ?_)
    refine sw_cll0_I (st := []) (as := [.int q3, .int v15]) (pc' := 92) ok (S_X8_least q3 v15) (by decide) lk_X8_208 rfl dX8_through_89 rfl (Nat.le_of_ble_eq_true rfl) rfl (fun v16 => ?_)
    refine sw_istore_n (pc' := 93) (l' := [some (.ref p0), some (.int p1), none, some (.int v16), some (.int q4)]) ok dX8_through_92 rfl (Nat.le_of_ble_eq_true rfl) rfl ?_
    refine sw_iinc (z := q4) (v := q4 + 1) (pc' := 96) (l' := [some (.ref p0), some (.int p1), none, some (.int v16), some (.int (q4 + 1))]) ok dX8_through_93 rfl rfl (by rw [cc_iconst_1]) rfl ?_
    refine sw_goto (tgt := 54) ok dX8_through_96 (by decide) ?_
    exact ih v16 (q4 + 1)
set_option maxHeartbeats 4000000 in
set_option maxRecDepth 100000 in
theorem W_X8_through {Γ : Cx} (ok : OKc Γ cX8_through RX8 8 "through") (okr : OKr Γ cX8_through (some .int)) (a0 : Nat) (x1 : Int32) : SW Γ iI 0 [some (.ref a0), some (.int x1), none, none, none] [] (P_X8_through a0 x1) := by
  unfold P_X8_through
  refine sw_iload_n (z := x1) (pc' := 1) ok dX8_through_0 rfl rfl ?_
  refine sw_cll0_I (st := []) (as := [.int x1]) (pc' := 4) ok (S_X8_isRow x1) (by decide) lk_X8_86 rfl dX8_through_1 rfl (Nat.le_of_ble_eq_true rfl) rfl (fun v1 => ?_)
  refine sw_if_ne (tgt := 9) (pc' := 7) ok dX8_through_4 (by decide) rfl ?_ ?_
  · refine sw_aload_n (z := a0) (pc' := 10) ok dX8_through_9 rfl rfl ?_
    refine sw_getI (pc' := 13) ok (fr_X8_156.g) dX8_through_10 rfl (fun v2 => ?_)
    refine sw_if_ne (tgt := 19) (pc' := 16) ok dX8_through_13 (by decide) rfl ?_ ?_
    · refine sw_aload_n (z := a0) (pc' := 20) ok dX8_through_19 rfl rfl ?_
      refine sw_iload_n (z := x1) (pc' := 21) ok dX8_through_20 rfl rfl ?_
      refine sw_cllV_I (st := []) (as := [.int x1]) (pc' := 24) ok (S_X8_refusedWatches a0 x1) (by decide) lk_X8_249 rfl dX8_through_21 rfl (Nat.le_of_ble_eq_true rfl) rfl (fun v3 => ?_)
      refine sw_istore_n (pc' := 25) (l' := [some (.ref a0), some (.int x1), some (.int v3), none, none]) ok dX8_through_24 rfl (Nat.le_of_ble_eq_true rfl) rfl ?_
      refine sw_iload_n (z := v3) (pc' := 26) ok dX8_through_25 rfl rfl ?_
      refine sw_if_le (tgt := 35) (pc' := 29) ok dX8_through_26 (by decide) rfl ?_ ?_
      · refine sw_aload_n (z := a0) (pc' := 36) ok dX8_through_35 rfl rfl ?_
        refine sw_iconst (v := 0) (pc' := 37) ok dX8_through_36 rfl cc_iconst_0 ?_
        refine sw_bipush (v := 11) (pc' := 39) ok dX8_through_37 rfl cc_bipush_11 ?_
        refine sw_bipush (v := 11) (pc' := 41) ok dX8_through_39 rfl cc_bipush_11 ?_
        refine sw_cllV_U (st := []) (as := [.int 0, .int 11, .int 11]) (pc' := 44) ok (S_X8_take a0 0 11 11) (by decide) lk_X8_204 rfl dX8_through_41 rfl (Nat.le_of_ble_eq_true rfl) rfl (fun _ => ?_)
        refine sw_aload_n (z := a0) (pc' := 45) ok dX8_through_44 rfl rfl ?_
        refine sw_getR (pc' := 48) ok (fr_X8_22.g) dX8_through_45 rfl (fun v4 => ?_)
        refine sw_iconst (v := 0) (pc' := 49) ok dX8_through_48 rfl cc_iconst_0 ?_
        refine sw_ald (pc' := 50) ok dX8_through_49 rfl (fun v5 => ?_)
        refine sw_istore_n (pc' := 51) (l' := [some (.ref a0), some (.int x1), some (.int v3), some (.int v5), none]) ok dX8_through_50 rfl (Nat.le_of_ble_eq_true rfl) rfl ?_
        refine sw_iconst (v := 0) (pc' := 52) ok dX8_through_51 rfl cc_iconst_0 ?_
        refine sw_istore (pc' := 54) (l' := [some (.ref a0), some (.int x1), some (.int v3), some (.int v5), some (.int 0)]) ok dX8_through_52 rfl (Nat.le_of_ble_eq_true rfl) rfl ?_
        refine sw_jn (fun k9 : Int32 → PM Int32 => ∀ (e6 : Int32), SW Γ iI 99 [some (.ref a0), none, none, some (.int e6), none] [] (k9 e6)) ?_ (fun k9 hk9 => ?_)
        · intro e6
          refine sw_aload_n (z := a0) (pc' := 100) ok dX8_through_99 rfl rfl ?_
          refine sw_iload_n (z := e6) (pc' := 101) ok dX8_through_100 rfl rfl ?_
          refine sw_setI (pc' := 104) ok fr_X8_98 dX8_through_101 (fun h => by cases h) rfl ?_
          refine sw_aload_n (z := a0) (pc' := 105) ok dX8_through_104 rfl rfl ?_
          refine sw_getR (pc' := 108) ok (fr_X8_22.g) dX8_through_105 rfl (fun v7 => ?_)
          refine sw_bipush (v := 11) (pc' := 110) ok dX8_through_108 rfl cc_bipush_11 ?_
          refine sw_ald (pc' := 111) ok dX8_through_110 rfl (fun v8 => ?_)
          exact sw_ret ok okr dX8_through_111 trivial rfl
        refine sw_fg (l' := [some (.ref a0), some (.int x1), none, some (.int v5), some (.int 0)]) [true, true, false, true, true] rfl ?_
        exact W_X8_through_54 ok okr k9 a0 x1 hk9 4000 v5 0
      refine sw_aload_n (z := a0) (pc' := 30) ok dX8_through_29 rfl rfl ?_
      refine sw_iload_n (z := v3) (pc' := 31) ok dX8_through_30 rfl rfl ?_
      refine sw_cllV_I (st := []) (as := [.int v3]) (pc' := 34) ok (S_X8_refuse a0 v3) (by decide) lk_X8_90 rfl dX8_through_31 rfl (Nat.le_of_ble_eq_true rfl) rfl (fun v17 => ?_)
      exact sw_ret ok okr dX8_through_34 trivial rfl
    refine sw_bipush (v := (-4)) (pc' := 18) ok dX8_through_16 rfl cc_bipush_m4 ?_
    exact sw_ret ok okr dX8_through_18 trivial rfl
  refine sw_iconst (v := (-1)) (pc' := 8) ok dX8_through_7 rfl cc_iconst_m1 ?_
  exact sw_ret ok okr dX8_through_8 trivial rfl
theorem S_X8_through (a0 : Nat) (x1 : Int32) : Sim 8 yX8_through cX8_through 5 (some .int) iI [.ref a0, .int x1] (P_X8_through a0 x1) := Sim.intro wd_1121 (by decide) (by decide +kernel) (Nat.le_of_ble_eq_true rfl) (fun Γ ok okr => W_X8_through ok okr a0 x1)
