/-! Links, fields, constants: printed by program. -/
theorem ck_of {C : String} {T : u_T} (N : Nat) (h : (u_ws C T N).all (fun w => decide (w ∈ lw_tbl) && goodWord w) = true) : ∀ w ∈ u_ws C T N, w ∈ tALL := by
  intro w hw
  have h1 := List.all_eq_true.mp h w hw
  simp only [Bool.and_eq_true, decide_eq_true_eq] at h1
  exact tALL_in h1.1 h1.2

theorem cc_bipush_m9 : (Int8.ofInt (-9)).toInt32 = (-9) := by decide
theorem cc_bipush_m6 : (Int8.ofInt (-6)).toInt32 = (-6) := by decide
theorem cc_bipush_m4 : (Int8.ofInt (-4)).toInt32 = (-4) := by decide
theorem cc_bipush_m3 : (Int8.ofInt (-3)).toInt32 = (-3) := by decide
theorem cc_bipush_m2 : (Int8.ofInt (-2)).toInt32 = (-2) := by decide
theorem cc_bipush_6 : (Int8.ofInt 6).toInt32 = 6 := by decide
theorem cc_bipush_7 : (Int8.ofInt 7).toInt32 = 7 := by decide
theorem cc_bipush_8 : (Int8.ofInt 8).toInt32 = 8 := by decide
theorem cc_bipush_10 : (Int8.ofInt 10).toInt32 = 10 := by decide
theorem cc_bipush_11 : (Int8.ofInt 11).toInt32 = 11 := by decide
theorem cc_bipush_12 : (Int8.ofInt 12).toInt32 = 12 := by decide
theorem cc_bipush_15 : (Int8.ofInt 15).toInt32 = 15 := by decide
theorem cc_bipush_16 : (Int8.ofInt 16).toInt32 = 16 := by decide
theorem cc_bipush_20 : (Int8.ofInt 20).toInt32 = 20 := by decide
theorem cc_bipush_22 : (Int8.ofInt 22).toInt32 = 22 := by decide
theorem cc_bipush_30 : (Int8.ofInt 30).toInt32 = 30 := by decide
theorem cc_bipush_32 : (Int8.ofInt 32).toInt32 = 32 := by decide
theorem cc_bipush_40 : (Int8.ofInt 40).toInt32 = 40 := by decide
theorem cc_bipush_48 : (Int8.ofInt 48).toInt32 = 48 := by decide
theorem cc_bipush_57 : (Int8.ofInt 57).toInt32 = 57 := by decide
theorem cc_bipush_60 : (Int8.ofInt 60).toInt32 = 60 := by decide
theorem cc_bipush_61 : (Int8.ofInt 61).toInt32 = 61 := by decide
theorem cc_bipush_63 : (Int8.ofInt 63).toInt32 = 63 := by decide
theorem cc_bipush_100 : (Int8.ofInt 100).toInt32 = 100 := by decide
theorem cc_bipush_104 : (Int8.ofInt 104).toInt32 = 104 := by decide
theorem cc_bipush_113 : (Int8.ofInt 113).toInt32 = 113 := by decide
theorem cc_iconst_m1 : Int32.ofInt (-1) = (-1) := by decide
theorem cc_iconst_0 : Int32.ofInt 0 = 0 := by decide
theorem cc_iconst_1 : Int32.ofInt 1 = 1 := by decide
theorem cc_iconst_2 : Int32.ofInt 2 = 2 := by decide
theorem cc_iconst_3 : Int32.ofInt 3 = 3 := by decide
theorem cc_iconst_4 : Int32.ofInt 4 = 4 := by decide
theorem cc_iconst_5 : Int32.ofInt 5 = 5 := by decide
theorem cc_iconst_6 : Int32.ofInt 6 = 6 := by decide
theorem cc_lconst_0 : Int64.ofNat (((0 : Fin 2)) : Nat) = 0 := by decide
theorem cc_lconst_1 : Int64.ofNat (((1 : Fin 2)) : Nat) = 1 := by decide
theorem cc_sipush_128 : (Int16.ofInt 128).toInt32 = 128 := by decide
theorem cc_sipush_200 : (Int16.ofInt 200).toInt32 = 200 := by decide
theorem cc_sipush_240 : (Int16.ofInt 240).toInt32 = 240 := by decide
theorem cc_sipush_462 : (Int16.ofInt 462).toInt32 = 462 := by decide
theorem cc_sipush_1000 : (Int16.ofInt 1000).toInt32 = 1000 := by decide
theorem cc_sipush_1848 : (Int16.ofInt 1848).toInt32 = 1848 := by decide
theorem cc_sipush_3375 : (Int16.ofInt 3375).toInt32 = 3375 := by decide
theorem wd_0 : Jvm.Cond.methodLink RX0 3 Lib.objectInit ∈ tALL := tALL_in (List.mem_of_getElem? (i := 100) (by decide +kernel)) (by decide +kernel)
theorem wd_1 : Jvm.Cond.instanceMethod Lib.objectInit ∈ tALL := tALL_in (List.mem_of_getElem? (i := 89) (by decide +kernel)) (by decide +kernel)
theorem wd_2 : Jvm.Cond.code Lib.objectInit ⟨#[0xb1]⟩ 1 none ∈ tALL := tALL_in (List.mem_of_getElem? (i := 90) (by decide +kernel)) (by decide +kernel)
theorem wd_3 : Jvm.Cond.arrayClass .int ∈ tALL := tALL_in (List.mem_of_getElem? (i := 139) (by decide +kernel)) (by decide +kernel)
theorem wd_4 : Jvm.Cond.fieldLink RX0 11 "BridgeAwake$Folk" "kinds" "[I" ∈ tALL := tALL_in (List.mem_of_getElem? (i := 101) (by decide +kernel)) (by decide +kernel)
theorem wd_5 : Jvm.Cond.fieldLink RX0 15 "BridgeAwake$Folk" "lively" "[I" ∈ tALL := tALL_in (List.mem_of_getElem? (i := 104) (by decide +kernel)) (by decide +kernel)
theorem wd_6 : Jvm.Cond.fieldLink RX0 18 "BridgeAwake$Folk" "lasting" "[I" ∈ tALL := tALL_in (List.mem_of_getElem? (i := 107) (by decide +kernel)) (by decide +kernel)
theorem wd_7 : Jvm.Cond.fieldLink RX0 21 "BridgeAwake$Folk" "quarrels" "[I" ∈ tALL := tALL_in (List.mem_of_getElem? (i := 110) (by decide +kernel)) (by decide +kernel)
theorem wd_8 : Jvm.Cond.fieldLink RX0 24 "BridgeAwake$Folk" "size" "I" ∈ tALL := tALL_in (List.mem_of_getElem? (i := 113) (by decide +kernel)) (by decide +kernel)
theorem wd_9 : Jvm.Cond.fieldLink RX0 28 "BridgeAwake$Folk" "strength" "I" ∈ tALL := tALL_in (List.mem_of_getElem? (i := 118) (by decide +kernel)) (by decide +kernel)
theorem wd_10 : Jvm.Cond.fieldLink RX0 31 "BridgeAwake$Folk" "coffee" "I" ∈ tALL := tALL_in (List.mem_of_getElem? (i := 121) (by decide +kernel)) (by decide +kernel)
theorem wd_11 : Jvm.Cond.methodLink RX0 34 yJ7_fill_53178 ∈ tALL := tALL_in (List.mem_of_getElem? (i := 446) (by decide +kernel)) (by decide +kernel)
theorem wd_12 : Jvm.Cond.initialized RJ7 ∈ tALL := tALL_in (List.mem_of_getElem? (i := 80) (by decide +kernel)) (by decide +kernel)
theorem wd_13 : Jvm.Cond.static yJ7_fill_53178 ∈ tALL := tALL_in (List.mem_of_getElem? (i := 368) (by decide +kernel)) (by decide +kernel)
theorem wd_14 : Jvm.Cond.methodLink RX0 40 yX0_isPair ∈ tALL := tALL_in (List.mem_of_getElem? (i := 477) (by decide +kernel)) (by decide +kernel)
theorem wd_15 : Jvm.Cond.initialized RX0 ∈ tALL := tALL_in (List.mem_of_getElem? (i := 71) (by decide +kernel)) (by decide +kernel)
theorem wd_16 : Jvm.Cond.instanceMethod yX0_isPair ∈ tALL := tALL_in (List.mem_of_getElem? (i := 469) (by decide +kernel)) (by decide +kernel)
theorem wd_17 : Jvm.Cond.selects RX0 yX0_isPair yX0_isPair ∈ tALL := tALL_in (List.mem_of_getElem? (i := 470) (by decide +kernel)) (by decide +kernel)
theorem wd_18 : Jvm.Cond.methodLink RX0 44 yX0_has ∈ tALL := tALL_in (List.mem_of_getElem? (i := 472) (by decide +kernel)) (by decide +kernel)
theorem wd_19 : Jvm.Cond.instanceMethod yX0_has ∈ tALL := tALL_in (List.mem_of_getElem? (i := 465) (by decide +kernel)) (by decide +kernel)
theorem wd_20 : Jvm.Cond.selects RX0 yX0_has yX0_has ∈ tALL := tALL_in (List.mem_of_getElem? (i := 466) (by decide +kernel)) (by decide +kernel)
theorem wd_21 : Jvm.Cond.methodLink RX0 48 yX0_isOfKind ∈ tALL := tALL_in (List.mem_of_getElem? (i := 877) (by decide +kernel)) (by decide +kernel)
theorem wd_22 : Jvm.Cond.static yX0_isOfKind ∈ tALL := tALL_in (List.mem_of_getElem? (i := 535) (by decide +kernel)) (by decide +kernel)
theorem wd_23 : Jvm.Cond.methodLink RX0 51 yX0_tells ∈ tALL := tALL_in (List.mem_of_getElem? (i := 542) (by decide +kernel)) (by decide +kernel)
theorem wd_24 : Jvm.Cond.static yX0_tells ∈ tALL := tALL_in (List.mem_of_getElem? (i := 518) (by decide +kernel)) (by decide +kernel)
theorem wd_25 : Jvm.Cond.methodLink RX0 55 yJ9_max_7cf53 ∈ tALL := tALL_in (List.mem_of_getElem? (i := 520) (by decide +kernel)) (by decide +kernel)
theorem wd_26 : Jvm.Cond.initialized RJ9 ∈ tALL := tALL_in (List.mem_of_getElem? (i := 78) (by decide +kernel)) (by decide +kernel)
theorem wd_27 : Jvm.Cond.static yJ9_max_7cf53 ∈ tALL := tALL_in (List.mem_of_getElem? (i := 289) (by decide +kernel)) (by decide +kernel)
theorem wd_28 : Jvm.Cond.methodLink RX1 3 Lib.objectInit ∈ tALL := tALL_in (List.mem_of_getElem? (i := 166) (by decide +kernel)) (by decide +kernel)
theorem wd_29 : Jvm.Cond.fieldLink RX1 11 "BridgeAwake$Hold" "ups" "[I" ∈ tALL := tALL_in (List.mem_of_getElem? (i := 167) (by decide +kernel)) (by decide +kernel)
theorem wd_30 : Jvm.Cond.fieldLink RX1 17 "BridgeAwake$Hold" "told" "[I" ∈ tALL := tALL_in (List.mem_of_getElem? (i := 169) (by decide +kernel)) (by decide +kernel)
theorem wd_31 : Jvm.Cond.fieldLink RX1 20 "BridgeAwake$Hold" "strength" "I" ∈ tALL := tALL_in (List.mem_of_getElem? (i := 171) (by decide +kernel)) (by decide +kernel)
theorem wd_32 : Jvm.Cond.fieldLink RX1 24 "BridgeAwake$Hold" "hours" "I" ∈ tALL := tALL_in (List.mem_of_getElem? (i := 175) (by decide +kernel)) (by decide +kernel)
theorem wd_33 : Jvm.Cond.methodLink RX1 27 yJ7_fill_53178 ∈ tALL := tALL_in (List.mem_of_getElem? (i := 505) (by decide +kernel)) (by decide +kernel)
theorem wd_34 : Jvm.Cond.fieldLinkNest RX1 33 "BridgeAwake$Folk" "strength" "I" "BridgeAwake" ∈ tNEST := tNEST_in (List.mem_of_getElem? (i := 119) (by decide +kernel)) (by decide +kernel)
theorem wd_35 : Jvm.Cond.methodLink RX1 34 yX1_listen ∈ tALL := tALL_in (List.mem_of_getElem? (i := 506) (by decide +kernel)) (by decide +kernel)
theorem wd_36 : Jvm.Cond.initialized RX1 ∈ tALL := tALL_in (List.mem_of_getElem? (i := 74) (by decide +kernel)) (by decide +kernel)
theorem wd_37 : Jvm.Cond.instanceMethod yX1_listen ∈ tALL := tALL_in (List.mem_of_getElem? (i := 508) (by decide +kernel)) (by decide +kernel)
theorem wd_38 : Jvm.Cond.selects RX1 yX1_listen yX1_listen ∈ tALL := tALL_in (List.mem_of_getElem? (i := 7) (by decide +kernel)) (by decide +kernel)
theorem wd_39 : Jvm.Cond.methodLink RX1 38 yJ9_floorMod_7cf53 ∈ tALL := tALL_in (List.mem_of_getElem? (i := 514) (by decide +kernel)) (by decide +kernel)
theorem wd_40 : Jvm.Cond.static yJ9_floorMod_7cf53 ∈ tALL := tALL_in (List.mem_of_getElem? (i := 515) (by decide +kernel)) (by decide +kernel)
theorem wd_41 : Jvm.Cond.methodLink RX1 44 yX0_isPair ∈ tALL := tALL_in (List.mem_of_getElem? (i := 562) (by decide +kernel)) (by decide +kernel)
theorem wd_42 : Jvm.Cond.methodLink RX1 48 yX1_pairMeans ∈ tALL := tALL_in (List.mem_of_getElem? (i := 563) (by decide +kernel)) (by decide +kernel)
theorem wd_43 : Jvm.Cond.instanceMethod yX1_pairMeans ∈ tALL := tALL_in (List.mem_of_getElem? (i := 549) (by decide +kernel)) (by decide +kernel)
theorem wd_44 : Jvm.Cond.selects RX1 yX1_pairMeans yX1_pairMeans ∈ tALL := tALL_in (List.mem_of_getElem? (i := 550) (by decide +kernel)) (by decide +kernel)
theorem wd_45 : Jvm.Cond.fieldLinkNest RX1 52 "BridgeAwake$Folk" "kinds" "[I" "BridgeAwake" ∈ tNEST := tNEST_in (List.mem_of_getElem? (i := 102) (by decide +kernel)) (by decide +kernel)
theorem wd_46 : Jvm.Cond.methodLink RX1 55 yJ9_max_7cf53 ∈ tALL := tALL_in (List.mem_of_getElem? (i := 564) (by decide +kernel)) (by decide +kernel)
theorem wd_47 : Jvm.Cond.methodLink RX1 58 yX0_has ∈ tALL := tALL_in (List.mem_of_getElem? (i := 552) (by decide +kernel)) (by decide +kernel)
theorem wd_48 : Jvm.Cond.fieldLinkNest RX1 62 "BridgeAwake$Folk" "quarrels" "[I" "BridgeAwake" ∈ tNEST := tNEST_in (List.mem_of_getElem? (i := 111) (by decide +kernel)) (by decide +kernel)
theorem wd_49 : Jvm.Cond.methodLink RX1 65 yX1_pairTells ∈ tALL := tALL_in (List.mem_of_getElem? (i := 585) (by decide +kernel)) (by decide +kernel)
theorem wd_50 : Jvm.Cond.instanceMethod yX1_pairTells ∈ tALL := tALL_in (List.mem_of_getElem? (i := 559) (by decide +kernel)) (by decide +kernel)
theorem wd_51 : Jvm.Cond.selects RX1 yX1_pairTells yX1_pairTells ∈ tALL := tALL_in (List.mem_of_getElem? (i := 560) (by decide +kernel)) (by decide +kernel)
theorem wd_52 : Jvm.Cond.methodLink RX1 68 yX1_strengthWith ∈ tALL := tALL_in (List.mem_of_getElem? (i := 586) (by decide +kernel)) (by decide +kernel)
theorem wd_53 : Jvm.Cond.instanceMethod yX1_strengthWith ∈ tALL := tALL_in (List.mem_of_getElem? (i := 588) (by decide +kernel)) (by decide +kernel)
theorem wd_54 : Jvm.Cond.selects RX1 yX1_strengthWith yX1_strengthWith ∈ tALL := tALL_in (List.mem_of_getElem? (i := 11) (by decide +kernel)) (by decide +kernel)
theorem wd_55 : Jvm.Cond.methodLink RX1 72 yX1_behind ∈ tALL := tALL_in (List.mem_of_getElem? (i := 834) (by decide +kernel)) (by decide +kernel)
theorem wd_56 : Jvm.Cond.instanceMethod yX1_behind ∈ tALL := tALL_in (List.mem_of_getElem? (i := 676) (by decide +kernel)) (by decide +kernel)
theorem wd_57 : Jvm.Cond.selects RX1 yX1_behind yX1_behind ∈ tALL := tALL_in (List.mem_of_getElem? (i := 677) (by decide +kernel)) (by decide +kernel)
theorem wd_58 : Jvm.Cond.methodLink RX1 75 yJ9_min_7cf53 ∈ tALL := tALL_in (List.mem_of_getElem? (i := 590) (by decide +kernel)) (by decide +kernel)
theorem wd_59 : Jvm.Cond.static yJ9_min_7cf53 ∈ tALL := tALL_in (List.mem_of_getElem? (i := 365) (by decide +kernel)) (by decide +kernel)
theorem wd_60 : Jvm.Cond.methodLink RX1 78 yX1_hour ∈ tALL := tALL_in (List.mem_of_getElem? (i := 510) (by decide +kernel)) (by decide +kernel)
theorem wd_61 : Jvm.Cond.instanceMethod yX1_hour ∈ tALL := tALL_in (List.mem_of_getElem? (i := 511) (by decide +kernel)) (by decide +kernel)
theorem wd_62 : Jvm.Cond.selects RX1 yX1_hour yX1_hour ∈ tALL := tALL_in (List.mem_of_getElem? (i := 512) (by decide +kernel)) (by decide +kernel)
theorem wd_63 : Jvm.Cond.fieldLinkNest RX1 82 "BridgeAwake$Folk" "lively" "[I" "BridgeAwake" ∈ tNEST := tNEST_in (List.mem_of_getElem? (i := 105) (by decide +kernel)) (by decide +kernel)
theorem wd_64 : Jvm.Cond.fieldLinkNest RX1 85 "BridgeAwake$Folk" "lasting" "[I" "BridgeAwake" ∈ tNEST := tNEST_in (List.mem_of_getElem? (i := 108) (by decide +kernel)) (by decide +kernel)
theorem wd_65 : Jvm.Cond.methodLink RX1 88 yX0_tells ∈ tALL := tALL_in (List.mem_of_getElem? (i := 517) (by decide +kernel)) (by decide +kernel)
theorem wd_66 : Jvm.Cond.methodLink RX2 3 Lib.objectInit ∈ tALL := tALL_in (List.mem_of_getElem? (i := 271) (by decide +kernel)) (by decide +kernel)
theorem wd_67 : Jvm.Cond.fieldLink RX2 11 "BridgeAwake$Matching" "partners" "[I" ∈ tALL := tALL_in (List.mem_of_getElem? (i := 272) (by decide +kernel)) (by decide +kernel)
theorem wd_68 : Jvm.Cond.fieldLink RX2 17 "BridgeAwake$Matching" "bestPartners" "[I" ∈ tALL := tALL_in (List.mem_of_getElem? (i := 273) (by decide +kernel)) (by decide +kernel)
theorem wd_69 : Jvm.Cond.fieldLink RX2 20 "BridgeAwake$Matching" "most" "I" ∈ tALL := tALL_in (List.mem_of_getElem? (i := 275) (by decide +kernel)) (by decide +kernel)
theorem wd_70 : Jvm.Cond.methodLink RX2 24 yJ7_fill_53178 ∈ tALL := tALL_in (List.mem_of_getElem? (i := 803) (by decide +kernel)) (by decide +kernel)
theorem wd_71 : Jvm.Cond.fieldLinkNest RX2 30 "BridgeAwake$Folk" "size" "I" "BridgeAwake" ∈ tNEST := tNEST_in (List.mem_of_getElem? (i := 114) (by decide +kernel)) (by decide +kernel)
theorem wd_72 : Jvm.Cond.methodLink RX2 33 yX2_pairFrom ∈ tALL := tALL_in (List.mem_of_getElem? (i := 804) (by decide +kernel)) (by decide +kernel)
theorem wd_73 : Jvm.Cond.initialized RX2 ∈ tALL := tALL_in (List.mem_of_getElem? (i := 76) (by decide +kernel)) (by decide +kernel)
theorem wd_74 : Jvm.Cond.static yX2_pairFrom ∈ tALL := tALL_in (List.mem_of_getElem? (i := 805) (by decide +kernel)) (by decide +kernel)
theorem wd_75 : Jvm.Cond.methodLink RX2 37 yX2_noteWay ∈ tALL := tALL_in (List.mem_of_getElem? (i := 807) (by decide +kernel)) (by decide +kernel)
theorem wd_76 : Jvm.Cond.instanceMethod yX2_noteWay ∈ tALL := tALL_in (List.mem_of_getElem? (i := 809) (by decide +kernel)) (by decide +kernel)
theorem wd_77 : Jvm.Cond.selects RX2 yX2_noteWay yX2_noteWay ∈ tALL := tALL_in (List.mem_of_getElem? (i := 23) (by decide +kernel)) (by decide +kernel)
theorem wd_78 : Jvm.Cond.methodLink RX2 41 yX1_pairTells ∈ tALL := tALL_in (List.mem_of_getElem? (i := 811) (by decide +kernel)) (by decide +kernel)
theorem wd_79 : Jvm.Cond.methodLink RX3 1 Lib.objectInit ∈ tALL := tALL_in (List.mem_of_getElem? (i := 160) (by decide +kernel)) (by decide +kernel)
theorem wd_80 : Jvm.Cond.classLink RX3 7 RX1 ∈ tALL := tALL_in (List.mem_of_getElem? (i := 161) (by decide +kernel)) (by decide +kernel)
theorem wd_81 : Jvm.Cond.instantiable RX1 4 ∈ tALL := tALL_in (List.mem_of_getElem? (i := 162) (by decide +kernel)) (by decide +kernel)
theorem wd_82 : Jvm.Cond.methodLinkNest RX3 9 yX1_init "BridgeAwake" ∈ tNEST := tNEST_in (List.mem_of_getElem? (i := 163) (by decide +kernel)) (by decide +kernel)
theorem wd_83 : Jvm.Cond.instanceMethod yX1_init ∈ tALL := tALL_in (List.mem_of_getElem? (i := 164) (by decide +kernel)) (by decide +kernel)
theorem wd_84 : Jvm.Cond.fieldLink RX3 10 "BridgeAwake$Night" "hold" "LBridgeAwake$Hold;" ∈ tALL := tALL_in (List.mem_of_getElem? (i := 186) (by decide +kernel)) (by decide +kernel)
theorem wd_85 : Jvm.Cond.fieldLink RX3 16 "BridgeAwake$Night" "deeds" "[I" ∈ tALL := tALL_in (List.mem_of_getElem? (i := 188) (by decide +kernel)) (by decide +kernel)
theorem wd_86 : Jvm.Cond.fieldLink RX3 20 "BridgeAwake$Night" "done" "I" ∈ tALL := tALL_in (List.mem_of_getElem? (i := 189) (by decide +kernel)) (by decide +kernel)
theorem wd_87 : Jvm.Cond.fieldLink RX3 24 "BridgeAwake$Night" "coffee" "I" ∈ tALL := tALL_in (List.mem_of_getElem? (i := 191) (by decide +kernel)) (by decide +kernel)
theorem wd_88 : Jvm.Cond.fieldLink RX3 27 "BridgeAwake$Night" "crossed" "I" ∈ tALL := tALL_in (List.mem_of_getElem? (i := 193) (by decide +kernel)) (by decide +kernel)
theorem wd_89 : Jvm.Cond.fieldLink RX3 30 "BridgeAwake$Night" "fell" "I" ∈ tALL := tALL_in (List.mem_of_getElem? (i := 195) (by decide +kernel)) (by decide +kernel)
theorem wd_90 : Jvm.Cond.fieldLink RX3 33 "BridgeAwake$Night" "there" "Z" ∈ tALL := tALL_in (List.mem_of_getElem? (i := 197) (by decide +kernel)) (by decide +kernel)
theorem wd_91 : Jvm.Cond.methodLink RX3 37 yX1_begin ∈ tALL := tALL_in (List.mem_of_getElem? (i := 501) (by decide +kernel)) (by decide +kernel)
theorem wd_92 : Jvm.Cond.instanceMethod yX1_begin ∈ tALL := tALL_in (List.mem_of_getElem? (i := 502) (by decide +kernel)) (by decide +kernel)
theorem wd_93 : Jvm.Cond.selects RX1 yX1_begin yX1_begin ∈ tALL := tALL_in (List.mem_of_getElem? (i := 503) (by decide +kernel)) (by decide +kernel)
theorem wd_94 : Jvm.Cond.fieldLinkNest RX3 41 "BridgeAwake$Folk" "coffee" "I" "BridgeAwake" ∈ tNEST := tNEST_in (List.mem_of_getElem? (i := 122) (by decide +kernel)) (by decide +kernel)
theorem wd_95 : Jvm.Cond.methodLink RX3 44 yX1_become ∈ tALL := tALL_in (List.mem_of_getElem? (i := 641) (by decide +kernel)) (by decide +kernel)
theorem wd_96 : Jvm.Cond.instanceMethod yX1_become ∈ tALL := tALL_in (List.mem_of_getElem? (i := 642) (by decide +kernel)) (by decide +kernel)
theorem wd_97 : Jvm.Cond.selects RX1 yX1_become yX1_become ∈ tALL := tALL_in (List.mem_of_getElem? (i := 643) (by decide +kernel)) (by decide +kernel)
theorem wd_98 : Jvm.Cond.methodLink RX3 48 yX3_note ∈ tALL := tALL_in (List.mem_of_getElem? (i := 577) (by decide +kernel)) (by decide +kernel)
theorem wd_99 : Jvm.Cond.initialized RX3 ∈ tALL := tALL_in (List.mem_of_getElem? (i := 73) (by decide +kernel)) (by decide +kernel)
theorem wd_100 : Jvm.Cond.instanceMethod yX3_note ∈ tALL := tALL_in (List.mem_of_getElem? (i := 579) (by decide +kernel)) (by decide +kernel)
theorem wd_101 : Jvm.Cond.selects RX3 yX3_note yX3_note ∈ tALL := tALL_in (List.mem_of_getElem? (i := 10) (by decide +kernel)) (by decide +kernel)
theorem wd_102 : Jvm.Cond.methodLink RX3 52 yX1_passWatch ∈ tALL := tALL_in (List.mem_of_getElem? (i := 581) (by decide +kernel)) (by decide +kernel)
theorem wd_103 : Jvm.Cond.instanceMethod yX1_passWatch ∈ tALL := tALL_in (List.mem_of_getElem? (i := 582) (by decide +kernel)) (by decide +kernel)
theorem wd_104 : Jvm.Cond.selects RX1 yX1_passWatch yX1_passWatch ∈ tALL := tALL_in (List.mem_of_getElem? (i := 583) (by decide +kernel)) (by decide +kernel)
theorem wd_105 : Jvm.Cond.fieldLinkNest RX3 56 "BridgeAwake$Hold" "strength" "I" "BridgeAwake" ∈ tNEST := tNEST_in (List.mem_of_getElem? (i := 173) (by decide +kernel)) (by decide +kernel)
theorem wd_106 : Jvm.Cond.methodLink RX3 59 yX1_drink ∈ tALL := tALL_in (List.mem_of_getElem? (i := 614) (by decide +kernel)) (by decide +kernel)
theorem wd_107 : Jvm.Cond.instanceMethod yX1_drink ∈ tALL := tALL_in (List.mem_of_getElem? (i := 615) (by decide +kernel)) (by decide +kernel)
theorem wd_108 : Jvm.Cond.selects RX1 yX1_drink yX1_drink ∈ tALL := tALL_in (List.mem_of_getElem? (i := 616) (by decide +kernel)) (by decide +kernel)
theorem wd_109 : Jvm.Cond.methodLink RX3 63 yX3_begin ∈ tALL := tALL_in (List.mem_of_getElem? (i := 626) (by decide +kernel)) (by decide +kernel)
theorem wd_110 : Jvm.Cond.instanceMethod yX3_begin ∈ tALL := tALL_in (List.mem_of_getElem? (i := 498) (by decide +kernel)) (by decide +kernel)
theorem wd_111 : Jvm.Cond.selects RX3 yX3_begin yX3_begin ∈ tALL := tALL_in (List.mem_of_getElem? (i := 499) (by decide +kernel)) (by decide +kernel)
theorem wd_112 : Jvm.Cond.methodLink RX3 72 yX3_doWatch ∈ tALL := tALL_in (List.mem_of_getElem? (i := 629) (by decide +kernel)) (by decide +kernel)
theorem wd_113 : Jvm.Cond.instanceMethod yX3_doWatch ∈ tALL := tALL_in (List.mem_of_getElem? (i := 574) (by decide +kernel)) (by decide +kernel)
theorem wd_114 : Jvm.Cond.selects RX3 yX3_doWatch yX3_doWatch ∈ tALL := tALL_in (List.mem_of_getElem? (i := 575) (by decide +kernel)) (by decide +kernel)
theorem wd_115 : Jvm.Cond.methodLink RX3 68 yX3_doLoad ∈ tALL := tALL_in (List.mem_of_getElem? (i := 628) (by decide +kernel)) (by decide +kernel)
theorem wd_116 : Jvm.Cond.instanceMethod yX3_doLoad ∈ tALL := tALL_in (List.mem_of_getElem? (i := 603) (by decide +kernel)) (by decide +kernel)
theorem wd_117 : Jvm.Cond.selects RX3 yX3_doLoad yX3_doLoad ∈ tALL := tALL_in (List.mem_of_getElem? (i := 604) (by decide +kernel)) (by decide +kernel)
theorem wd_118 : Jvm.Cond.methodLink RX3 64 yX3_doCoffee ∈ tALL := tALL_in (List.mem_of_getElem? (i := 627) (by decide +kernel)) (by decide +kernel)
theorem wd_119 : Jvm.Cond.instanceMethod yX3_doCoffee ∈ tALL := tALL_in (List.mem_of_getElem? (i := 611) (by decide +kernel)) (by decide +kernel)
theorem wd_120 : Jvm.Cond.selects RX3 yX3_doCoffee yX3_doCoffee ∈ tALL := tALL_in (List.mem_of_getElem? (i := 612) (by decide +kernel)) (by decide +kernel)
theorem wd_121 : Jvm.Cond.methodLink RX4 3 Lib.objectInit ∈ tALL := tALL_in (List.mem_of_getElem? (i := 145) (by decide +kernel)) (by decide +kernel)
theorem wd_122 : Jvm.Cond.classLink RX4 9 RX0 ∈ tALL := tALL_in (List.mem_of_getElem? (i := 146) (by decide +kernel)) (by decide +kernel)
theorem wd_123 : Jvm.Cond.instantiable RX0 7 ∈ tALL := tALL_in (List.mem_of_getElem? (i := 96) (by decide +kernel)) (by decide +kernel)
theorem wd_124 : Jvm.Cond.methodLinkNest RX4 11 yX0_init "BridgeAwake" ∈ tNEST := tNEST_in (List.mem_of_getElem? (i := 147) (by decide +kernel)) (by decide +kernel)
theorem wd_125 : Jvm.Cond.instanceMethod yX0_init ∈ tALL := tALL_in (List.mem_of_getElem? (i := 98) (by decide +kernel)) (by decide +kernel)
theorem wd_126 : Jvm.Cond.fieldLink RX4 12 "BridgeAwake$Reader" "folk" "LBridgeAwake$Folk;" ∈ tALL := tALL_in (List.mem_of_getElem? (i := 148) (by decide +kernel)) (by decide +kernel)
theorem wd_127 : Jvm.Cond.fieldLink RX4 18 "BridgeAwake$Reader" "place" "I" ∈ tALL := tALL_in (List.mem_of_getElem? (i := 150) (by decide +kernel)) (by decide +kernel)
theorem wd_128 : Jvm.Cond.methodLink RX4 22 yX0_clear ∈ tALL := tALL_in (List.mem_of_getElem? (i := 442) (by decide +kernel)) (by decide +kernel)
theorem wd_129 : Jvm.Cond.instanceMethod yX0_clear ∈ tALL := tALL_in (List.mem_of_getElem? (i := 443) (by decide +kernel)) (by decide +kernel)
theorem wd_130 : Jvm.Cond.selects RX0 yX0_clear yX0_clear ∈ tALL := tALL_in (List.mem_of_getElem? (i := 444) (by decide +kernel)) (by decide +kernel)
theorem wd_131 : Jvm.Cond.methodLink RX4 25 yX4_skipBlanks ∈ tALL := tALL_in (List.mem_of_getElem? (i := 447) (by decide +kernel)) (by decide +kernel)
theorem wd_132 : Jvm.Cond.initialized RX4 ∈ tALL := tALL_in (List.mem_of_getElem? (i := 72) (by decide +kernel)) (by decide +kernel)
theorem wd_133 : Jvm.Cond.instanceMethod yX4_skipBlanks ∈ tALL := tALL_in (List.mem_of_getElem? (i := 449) (by decide +kernel)) (by decide +kernel)
theorem wd_134 : Jvm.Cond.selects RX4 yX4_skipBlanks yX4_skipBlanks ∈ tALL := tALL_in (List.mem_of_getElem? (i := 3) (by decide +kernel)) (by decide +kernel)
theorem wd_135 : Jvm.Cond.methodLink RX4 29 yX4_readHead ∈ tALL := tALL_in (List.mem_of_getElem? (i := 452) (by decide +kernel)) (by decide +kernel)
theorem wd_136 : Jvm.Cond.instanceMethod yX4_readHead ∈ tALL := tALL_in (List.mem_of_getElem? (i := 454) (by decide +kernel)) (by decide +kernel)
theorem wd_137 : Jvm.Cond.selects RX4 yX4_readHead yX4_readHead ∈ tALL := tALL_in (List.mem_of_getElem? (i := 4) (by decide +kernel)) (by decide +kernel)
theorem wd_138 : Jvm.Cond.fieldLinkNest RX4 49 "BridgeAwake$Folk" "size" "I" "BridgeAwake" ∈ tNEST := tNEST_in (List.mem_of_getElem? (i := 115) (by decide +kernel)) (by decide +kernel)
theorem wd_139 : Jvm.Cond.fieldLinkNest RX4 52 "BridgeAwake$Row" "size" "I" "BridgeAwake" ∈ tNEST := tNEST_in (List.mem_of_getElem? (i := 295) (by decide +kernel)) (by decide +kernel)
theorem wd_140 : Jvm.Cond.methodLink RX4 33 yX5_holds ∈ tALL := tALL_in (List.mem_of_getElem? (i := 459) (by decide +kernel)) (by decide +kernel)
theorem wd_141 : Jvm.Cond.initialized RX5 ∈ tALL := tALL_in (List.mem_of_getElem? (i := 77) (by decide +kernel)) (by decide +kernel)
theorem wd_142 : Jvm.Cond.instanceMethod yX5_holds ∈ tALL := tALL_in (List.mem_of_getElem? (i := 379) (by decide +kernel)) (by decide +kernel)
theorem wd_143 : Jvm.Cond.selects RX5 yX5_holds yX5_holds ∈ tALL := tALL_in (List.mem_of_getElem? (i := 380) (by decide +kernel)) (by decide +kernel)
theorem wd_144 : Jvm.Cond.methodLink RX4 39 yX5_get ∈ tALL := tALL_in (List.mem_of_getElem? (i := 451) (by decide +kernel)) (by decide +kernel)
theorem wd_145 : Jvm.Cond.instanceMethod yX5_get ∈ tALL := tALL_in (List.mem_of_getElem? (i := 387) (by decide +kernel)) (by decide +kernel)
theorem wd_146 : Jvm.Cond.selects RX5 yX5_get yX5_get ∈ tALL := tALL_in (List.mem_of_getElem? (i := 388) (by decide +kernel)) (by decide +kernel)
theorem wd_147 : Jvm.Cond.methodLink RX4 46 yX4_readOne ∈ tALL := tALL_in (List.mem_of_getElem? (i := 478) (by decide +kernel)) (by decide +kernel)
theorem wd_148 : Jvm.Cond.instanceMethod yX4_readOne ∈ tALL := tALL_in (List.mem_of_getElem? (i := 480) (by decide +kernel)) (by decide +kernel)
theorem wd_149 : Jvm.Cond.selects RX4 yX4_readOne yX4_readOne ∈ tALL := tALL_in (List.mem_of_getElem? (i := 6) (by decide +kernel)) (by decide +kernel)
theorem wd_150 : Jvm.Cond.methodLink RX4 43 yX4_readQuarrel ∈ tALL := tALL_in (List.mem_of_getElem? (i := 460) (by decide +kernel)) (by decide +kernel)
theorem wd_151 : Jvm.Cond.instanceMethod yX4_readQuarrel ∈ tALL := tALL_in (List.mem_of_getElem? (i := 462) (by decide +kernel)) (by decide +kernel)
theorem wd_152 : Jvm.Cond.selects RX4 yX4_readQuarrel yX4_readQuarrel ∈ tALL := tALL_in (List.mem_of_getElem? (i := 5) (by decide +kernel)) (by decide +kernel)
theorem wd_153 : Jvm.Cond.methodLink RX4 53 yX4_figure ∈ tALL := tALL_in (List.mem_of_getElem? (i := 456) (by decide +kernel)) (by decide +kernel)
theorem wd_154 : Jvm.Cond.static yX4_figure ∈ tALL := tALL_in (List.mem_of_getElem? (i := 457) (by decide +kernel)) (by decide +kernel)
theorem wd_155 : Jvm.Cond.fieldLinkNest RX4 57 "BridgeAwake$Folk" "strength" "I" "BridgeAwake" ∈ tNEST := tNEST_in (List.mem_of_getElem? (i := 120) (by decide +kernel)) (by decide +kernel)
theorem wd_156 : Jvm.Cond.fieldLinkNest RX4 60 "BridgeAwake$Folk" "coffee" "I" "BridgeAwake" ∈ tNEST := tNEST_in (List.mem_of_getElem? (i := 123) (by decide +kernel)) (by decide +kernel)
theorem wd_157 : Jvm.Cond.methodLink RX4 63 yX4_kindOf ∈ tALL := tALL_in (List.mem_of_getElem? (i := 482) (by decide +kernel)) (by decide +kernel)
theorem wd_158 : Jvm.Cond.static yX4_kindOf ∈ tALL := tALL_in (List.mem_of_getElem? (i := 483) (by decide +kernel)) (by decide +kernel)
theorem wd_159 : Jvm.Cond.methodLink RX4 66 yX0_add ∈ tALL := tALL_in (List.mem_of_getElem? (i := 485) (by decide +kernel)) (by decide +kernel)
theorem wd_160 : Jvm.Cond.instanceMethod yX0_add ∈ tALL := tALL_in (List.mem_of_getElem? (i := 486) (by decide +kernel)) (by decide +kernel)
theorem wd_161 : Jvm.Cond.selects RX0 yX0_add yX0_add ∈ tALL := tALL_in (List.mem_of_getElem? (i := 487) (by decide +kernel)) (by decide +kernel)
theorem wd_162 : Jvm.Cond.methodLink RX4 70 yX0_has ∈ tALL := tALL_in (List.mem_of_getElem? (i := 464) (by decide +kernel)) (by decide +kernel)
theorem wd_163 : Jvm.Cond.methodLink RX4 73 yX0_isPair ∈ tALL := tALL_in (List.mem_of_getElem? (i := 468) (by decide +kernel)) (by decide +kernel)
theorem wd_164 : Jvm.Cond.methodLink RX4 77 yX0_letQuarrel ∈ tALL := tALL_in (List.mem_of_getElem? (i := 473) (by decide +kernel)) (by decide +kernel)
theorem wd_165 : Jvm.Cond.instanceMethod yX0_letQuarrel ∈ tALL := tALL_in (List.mem_of_getElem? (i := 474) (by decide +kernel)) (by decide +kernel)
theorem wd_166 : Jvm.Cond.selects RX0 yX0_letQuarrel yX0_letQuarrel ∈ tALL := tALL_in (List.mem_of_getElem? (i := 475) (by decide +kernel)) (by decide +kernel)
theorem wd_167 : Jvm.Cond.methodLink RX5 1 Lib.objectInit ∈ tALL := tALL_in (List.mem_of_getElem? (i := 287) (by decide +kernel)) (by decide +kernel)
theorem wd_168 : Jvm.Cond.fieldLink RX5 7 "BridgeAwake$Row" "size" "I" ∈ tALL := tALL_in (List.mem_of_getElem? (i := 294) (by decide +kernel)) (by decide +kernel)
theorem wd_169 : Jvm.Cond.fieldLink RX5 13 "BridgeAwake$Row" "there" "Z" ∈ tALL := tALL_in (List.mem_of_getElem? (i := 298) (by decide +kernel)) (by decide +kernel)
theorem wd_170 : Jvm.Cond.methodLink RX5 17 yJ9_max_7cf53 ∈ tALL := tALL_in (List.mem_of_getElem? (i := 288) (by decide +kernel)) (by decide +kernel)
theorem wd_171 : Jvm.Cond.fieldLink RX5 23 "BridgeAwake$Row" "places" "[I" ∈ tALL := tALL_in (List.mem_of_getElem? (i := 291) (by decide +kernel)) (by decide +kernel)
theorem wd_172 : Jvm.Cond.fieldLink RX5 27 "BridgeAwake$Row" "blank" "I" ∈ tALL := tALL_in (List.mem_of_getElem? (i := 293) (by decide +kernel)) (by decide +kernel)
theorem wd_173 : Jvm.Cond.methodLink RX5 30 yJ9_min_7cf53 ∈ tALL := tALL_in (List.mem_of_getElem? (i := 364) (by decide +kernel)) (by decide +kernel)
theorem wd_174 : Jvm.Cond.methodLink RX5 33 yJ7_fill_53178 ∈ tALL := tALL_in (List.mem_of_getElem? (i := 367) (by decide +kernel)) (by decide +kernel)
theorem wd_175 : Jvm.Cond.methodLink RX5 39 yX5_get ∈ tALL := tALL_in (List.mem_of_getElem? (i := 386) (by decide +kernel)) (by decide +kernel)
theorem wd_176 : Jvm.Cond.methodLink RX5 43 yX5_holds ∈ tALL := tALL_in (List.mem_of_getElem? (i := 390) (by decide +kernel)) (by decide +kernel)
theorem wd_177 : Jvm.Cond.methodLink RX6 3 Lib.objectInit ∈ tALL := tALL_in (List.mem_of_getElem? (i := 219) (by decide +kernel)) (by decide +kernel)
theorem wd_178 : Jvm.Cond.classLink RX6 9 RX1 ∈ tALL := tALL_in (List.mem_of_getElem? (i := 220) (by decide +kernel)) (by decide +kernel)
theorem wd_179 : Jvm.Cond.fieldLink RX6 11 "BridgeAwake$Search" "holds" "[LBridgeAwake$Hold;" ∈ tALL := tALL_in (List.mem_of_getElem? (i := 223) (by decide +kernel)) (by decide +kernel)
theorem wd_180 : Jvm.Cond.fieldLink RX6 17 "BridgeAwake$Search" "way" "[I" ∈ tALL := tALL_in (List.mem_of_getElem? (i := 224) (by decide +kernel)) (by decide +kernel)
theorem wd_181 : Jvm.Cond.fieldLink RX6 21 "BridgeAwake$Search" "bestWay" "[I" ∈ tALL := tALL_in (List.mem_of_getElem? (i := 225) (by decide +kernel)) (by decide +kernel)
theorem wd_182 : Jvm.Cond.fieldLink RX6 24 "BridgeAwake$Search" "wanted" "[I" ∈ tALL := tALL_in (List.mem_of_getElem? (i := 227) (by decide +kernel)) (by decide +kernel)
theorem wd_183 : Jvm.Cond.fieldLink RX6 27 "BridgeAwake$Search" "length" "I" ∈ tALL := tALL_in (List.mem_of_getElem? (i := 228) (by decide +kernel)) (by decide +kernel)
theorem wd_184 : Jvm.Cond.fieldLink RX6 31 "BridgeAwake$Search" "exactly" "Z" ∈ tALL := tALL_in (List.mem_of_getElem? (i := 229) (by decide +kernel)) (by decide +kernel)
theorem wd_185 : Jvm.Cond.fieldLink RX6 35 "BridgeAwake$Search" "greatest" "I" ∈ tALL := tALL_in (List.mem_of_getElem? (i := 230) (by decide +kernel)) (by decide +kernel)
theorem wd_186 : Jvm.Cond.fieldLink RX6 38 "BridgeAwake$Search" "ways" "I" ∈ tALL := tALL_in (List.mem_of_getElem? (i := 231) (by decide +kernel)) (by decide +kernel)
theorem wd_187 : Jvm.Cond.fieldLink RX6 41 "BridgeAwake$Search" "firstWatch" "I" ∈ tALL := tALL_in (List.mem_of_getElem? (i := 233) (by decide +kernel)) (by decide +kernel)
theorem wd_188 : Jvm.Cond.fieldLink RX6 44 "BridgeAwake$Search" "always" "I" ∈ tALL := tALL_in (List.mem_of_getElem? (i := 235) (by decide +kernel)) (by decide +kernel)
theorem wd_189 : Jvm.Cond.fieldLink RX6 47 "BridgeAwake$Search" "ever" "I" ∈ tALL := tALL_in (List.mem_of_getElem? (i := 237) (by decide +kernel)) (by decide +kernel)
theorem wd_190 : Jvm.Cond.fieldLink RX6 50 "BridgeAwake$Search" "fewest" "I" ∈ tALL := tALL_in (List.mem_of_getElem? (i := 239) (by decide +kernel)) (by decide +kernel)
theorem wd_191 : Jvm.Cond.methodLinkNest RX6 53 yX1_init "BridgeAwake" ∈ tNEST := tNEST_in (List.mem_of_getElem? (i := 222) (by decide +kernel)) (by decide +kernel)
theorem wd_192 : Jvm.Cond.methodLink RX6 54 yX1_become ∈ tALL := tALL_in (List.mem_of_getElem? (i := 664) (by decide +kernel)) (by decide +kernel)
theorem wd_193 : Jvm.Cond.methodLink RX6 58 yX6_beginAside ∈ tALL := tALL_in (List.mem_of_getElem? (i := 660) (by decide +kernel)) (by decide +kernel)
theorem wd_194 : Jvm.Cond.initialized RX6 ∈ tALL := tALL_in (List.mem_of_getElem? (i := 75) (by decide +kernel)) (by decide +kernel)
theorem wd_195 : Jvm.Cond.instanceMethod yX6_beginAside ∈ tALL := tALL_in (List.mem_of_getElem? (i := 661) (by decide +kernel)) (by decide +kernel)
theorem wd_196 : Jvm.Cond.selects RX6 yX6_beginAside yX6_beginAside ∈ tALL := tALL_in (List.mem_of_getElem? (i := 662) (by decide +kernel)) (by decide +kernel)
theorem wd_197 : Jvm.Cond.methodLink RX6 62 yJ9_min_7cf53 ∈ tALL := tALL_in (List.mem_of_getElem? (i := 665) (by decide +kernel)) (by decide +kernel)
theorem wd_198 : Jvm.Cond.methodLink RX6 68 yJ9_max_7cf53 ∈ tALL := tALL_in (List.mem_of_getElem? (i := 666) (by decide +kernel)) (by decide +kernel)
theorem wd_199 : Jvm.Cond.methodLink RX6 74 yX6_seekStrongest ∈ tALL := tALL_in (List.mem_of_getElem? (i := 667) (by decide +kernel)) (by decide +kernel)
theorem wd_200 : Jvm.Cond.static yX6_seekStrongest ∈ tALL := tALL_in (List.mem_of_getElem? (i := 668) (by decide +kernel)) (by decide +kernel)
theorem wd_201 : Jvm.Cond.fieldLinkNest RX6 71 "BridgeAwake$Hold" "strength" "I" "BridgeAwake" ∈ tNEST := tNEST_in (List.mem_of_getElem? (i := 172) (by decide +kernel)) (by decide +kernel)
theorem wd_202 : Jvm.Cond.fieldLinkNest RX6 78 "BridgeAwake$Folk" "size" "I" "BridgeAwake" ∈ tNEST := tNEST_in (List.mem_of_getElem? (i := 116) (by decide +kernel)) (by decide +kernel)
theorem wd_203 : Jvm.Cond.methodLink RX6 91 yX1_behind ∈ tALL := tALL_in (List.mem_of_getElem? (i := 675) (by decide +kernel)) (by decide +kernel)
theorem wd_204 : Jvm.Cond.methodLink RX6 95 yX6_noteStrength ∈ tALL := tALL_in (List.mem_of_getElem? (i := 679) (by decide +kernel)) (by decide +kernel)
theorem wd_205 : Jvm.Cond.instanceMethod yX6_noteStrength ∈ tALL := tALL_in (List.mem_of_getElem? (i := 681) (by decide +kernel)) (by decide +kernel)
theorem wd_206 : Jvm.Cond.selects RX6 yX6_noteStrength yX6_noteStrength ∈ tALL := tALL_in (List.mem_of_getElem? (i := 13) (by decide +kernel)) (by decide +kernel)
theorem wd_207 : Jvm.Cond.methodLink RX6 83 yX6_copyDeeper ∈ tALL := tALL_in (List.mem_of_getElem? (i := 670) (by decide +kernel)) (by decide +kernel)
theorem wd_208 : Jvm.Cond.instanceMethod yX6_copyDeeper ∈ tALL := tALL_in (List.mem_of_getElem? (i := 672) (by decide +kernel)) (by decide +kernel)
theorem wd_209 : Jvm.Cond.selects RX6 yX6_copyDeeper yX6_copyDeeper ∈ tALL := tALL_in (List.mem_of_getElem? (i := 12) (by decide +kernel)) (by decide +kernel)
theorem wd_210 : Jvm.Cond.methodLink RX6 87 yX1_passWatch ∈ tALL := tALL_in (List.mem_of_getElem? (i := 674) (by decide +kernel)) (by decide +kernel)
theorem wd_211 : Jvm.Cond.fieldLinkNest RX6 99 "BridgeAwake$Row" "size" "I" "BridgeAwake" ∈ tNEST := tNEST_in (List.mem_of_getElem? (i := 296) (by decide +kernel)) (by decide +kernel)
theorem wd_212 : Jvm.Cond.methodLink RX6 106 yX0_everybody ∈ tALL := tALL_in (List.mem_of_getElem? (i := 715) (by decide +kernel)) (by decide +kernel)
theorem wd_213 : Jvm.Cond.instanceMethod yX0_everybody ∈ tALL := tALL_in (List.mem_of_getElem? (i := 716) (by decide +kernel)) (by decide +kernel)
theorem wd_214 : Jvm.Cond.selects RX0 yX0_everybody yX0_everybody ∈ tALL := tALL_in (List.mem_of_getElem? (i := 717) (by decide +kernel)) (by decide +kernel)
theorem wd_215 : Jvm.Cond.methodLink RX6 110 yX6_seekWays ∈ tALL := tALL_in (List.mem_of_getElem? (i := 719) (by decide +kernel)) (by decide +kernel)
theorem wd_216 : Jvm.Cond.static yX6_seekWays ∈ tALL := tALL_in (List.mem_of_getElem? (i := 720) (by decide +kernel)) (by decide +kernel)
theorem wd_217 : Jvm.Cond.methodLink RX6 102 yX5_get ∈ tALL := tALL_in (List.mem_of_getElem? (i := 714) (by decide +kernel)) (by decide +kernel)
theorem wd_218 : Jvm.Cond.methodLink RX6 114 yX6_suits ∈ tALL := tALL_in (List.mem_of_getElem? (i := 722) (by decide +kernel)) (by decide +kernel)
theorem wd_219 : Jvm.Cond.instanceMethod yX6_suits ∈ tALL := tALL_in (List.mem_of_getElem? (i := 724) (by decide +kernel)) (by decide +kernel)
theorem wd_220 : Jvm.Cond.selects RX6 yX6_suits yX6_suits ∈ tALL := tALL_in (List.mem_of_getElem? (i := 16) (by decide +kernel)) (by decide +kernel)
theorem wd_221 : Jvm.Cond.methodLink RX6 118 yX6_noteWay ∈ tALL := tALL_in (List.mem_of_getElem? (i := 726) (by decide +kernel)) (by decide +kernel)
theorem wd_222 : Jvm.Cond.instanceMethod yX6_noteWay ∈ tALL := tALL_in (List.mem_of_getElem? (i := 728) (by decide +kernel)) (by decide +kernel)
theorem wd_223 : Jvm.Cond.selects RX6 yX6_noteWay yX6_noteWay ∈ tALL := tALL_in (List.mem_of_getElem? (i := 17) (by decide +kernel)) (by decide +kernel)
theorem wd_224 : Jvm.Cond.methodLink RX6 121 yJ6_bitCount_0f7a4 ∈ tALL := tALL_in (List.mem_of_getElem? (i := 730) (by decide +kernel)) (by decide +kernel)
theorem wd_225 : Jvm.Cond.initialized RJ6 ∈ tALL := tALL_in (List.mem_of_getElem? (i := 82) (by decide +kernel)) (by decide +kernel)
theorem wd_226 : Jvm.Cond.static yJ6_bitCount_0f7a4 ∈ tALL := tALL_in (List.mem_of_getElem? (i := 731) (by decide +kernel)) (by decide +kernel)
theorem wd_227 : Jvm.Cond.methodLink RX6 126 yX6_playTurn ∈ tALL := tALL_in (List.mem_of_getElem? (i := 820) (by decide +kernel)) (by decide +kernel)
theorem wd_228 : Jvm.Cond.static yX6_playTurn ∈ tALL := tALL_in (List.mem_of_getElem? (i := 821) (by decide +kernel)) (by decide +kernel)
theorem wd_229 : Jvm.Cond.methodLink RX7 1 Lib.objectInit ∈ tALL := tALL_in (List.mem_of_getElem? (i := 88) (by decide +kernel)) (by decide +kernel)
theorem wd_230 : Jvm.Cond.classLink RX7 9 RX5 ∈ tALL := tALL_in (List.mem_of_getElem? (i := 91) (by decide +kernel)) (by decide +kernel)
theorem wd_231 : Jvm.Cond.fieldLink RX7 11 "BridgeAwake" "rows" "[LBridgeAwake$Row;" ∈ tALL := tALL_in (List.mem_of_getElem? (i := 309) (by decide +kernel)) (by decide +kernel)
theorem wd_232 : Jvm.Cond.fieldLink RX7 15 "BridgeAwake" "texts" "[LBridgeAwake$Row;" ∈ tALL := tALL_in (List.mem_of_getElem? (i := 310) (by decide +kernel)) (by decide +kernel)
theorem wd_233 : Jvm.Cond.classLink RX7 18 RX3 ∈ tALL := tALL_in (List.mem_of_getElem? (i := 93) (by decide +kernel)) (by decide +kernel)
theorem wd_234 : Jvm.Cond.fieldLink RX7 20 "BridgeAwake" "kept" "[LBridgeAwake$Night;" ∈ tALL := tALL_in (List.mem_of_getElem? (i := 311) (by decide +kernel)) (by decide +kernel)
theorem wd_235 : Jvm.Cond.classLink RX7 24 RX0 ∈ tALL := tALL_in (List.mem_of_getElem? (i := 95) (by decide +kernel)) (by decide +kernel)
theorem wd_236 : Jvm.Cond.methodLinkNest RX7 26 yX0_init "BridgeAwake" ∈ tNEST := tNEST_in (List.mem_of_getElem? (i := 97) (by decide +kernel)) (by decide +kernel)
theorem wd_237 : Jvm.Cond.fieldLink RX7 27 "BridgeAwake" "folk" "LBridgeAwake$Folk;" ∈ tALL := tALL_in (List.mem_of_getElem? (i := 312) (by decide +kernel)) (by decide +kernel)
theorem wd_238 : Jvm.Cond.classLink RX7 31 RX4 ∈ tALL := tALL_in (List.mem_of_getElem? (i := 140) (by decide +kernel)) (by decide +kernel)
theorem wd_239 : Jvm.Cond.instantiable RX4 2 ∈ tALL := tALL_in (List.mem_of_getElem? (i := 141) (by decide +kernel)) (by decide +kernel)
theorem wd_240 : Jvm.Cond.methodLinkNest RX7 33 yX4_init "BridgeAwake" ∈ tNEST := tNEST_in (List.mem_of_getElem? (i := 142) (by decide +kernel)) (by decide +kernel)
theorem wd_241 : Jvm.Cond.instanceMethod yX4_init ∈ tALL := tALL_in (List.mem_of_getElem? (i := 143) (by decide +kernel)) (by decide +kernel)
theorem wd_242 : Jvm.Cond.fieldLink RX7 34 "BridgeAwake" "reader" "LBridgeAwake$Reader;" ∈ tALL := tALL_in (List.mem_of_getElem? (i := 313) (by decide +kernel)) (by decide +kernel)
theorem wd_243 : Jvm.Cond.instantiable RX3 7 ∈ tALL := tALL_in (List.mem_of_getElem? (i := 156) (by decide +kernel)) (by decide +kernel)
theorem wd_244 : Jvm.Cond.methodLinkNest RX7 38 yX3_init "BridgeAwake" ∈ tNEST := tNEST_in (List.mem_of_getElem? (i := 157) (by decide +kernel)) (by decide +kernel)
theorem wd_245 : Jvm.Cond.instanceMethod yX3_init ∈ tALL := tALL_in (List.mem_of_getElem? (i := 158) (by decide +kernel)) (by decide +kernel)
theorem wd_246 : Jvm.Cond.fieldLink RX7 39 "BridgeAwake" "night" "LBridgeAwake$Night;" ∈ tALL := tALL_in (List.mem_of_getElem? (i := 314) (by decide +kernel)) (by decide +kernel)
theorem wd_247 : Jvm.Cond.classLink RX7 43 RX6 ∈ tALL := tALL_in (List.mem_of_getElem? (i := 214) (by decide +kernel)) (by decide +kernel)
theorem wd_248 : Jvm.Cond.instantiable RX6 12 ∈ tALL := tALL_in (List.mem_of_getElem? (i := 215) (by decide +kernel)) (by decide +kernel)
theorem wd_249 : Jvm.Cond.methodLink RX7 45 yX6_init ∈ tALL := tALL_in (List.mem_of_getElem? (i := 216) (by decide +kernel)) (by decide +kernel)
theorem wd_250 : Jvm.Cond.instanceMethod yX6_init ∈ tALL := tALL_in (List.mem_of_getElem? (i := 217) (by decide +kernel)) (by decide +kernel)
theorem wd_251 : Jvm.Cond.fieldLink RX7 46 "BridgeAwake" "search" "LBridgeAwake$Search;" ∈ tALL := tALL_in (List.mem_of_getElem? (i := 315) (by decide +kernel)) (by decide +kernel)
theorem wd_252 : Jvm.Cond.classLink RX7 50 RX2 ∈ tALL := tALL_in (List.mem_of_getElem? (i := 266) (by decide +kernel)) (by decide +kernel)
theorem wd_253 : Jvm.Cond.instantiable RX2 3 ∈ tALL := tALL_in (List.mem_of_getElem? (i := 267) (by decide +kernel)) (by decide +kernel)
theorem wd_254 : Jvm.Cond.methodLinkNest RX7 52 yX2_init "BridgeAwake" ∈ tNEST := tNEST_in (List.mem_of_getElem? (i := 268) (by decide +kernel)) (by decide +kernel)
theorem wd_255 : Jvm.Cond.instanceMethod yX2_init ∈ tALL := tALL_in (List.mem_of_getElem? (i := 269) (by decide +kernel)) (by decide +kernel)
theorem wd_256 : Jvm.Cond.fieldLink RX7 53 "BridgeAwake" "matching" "LBridgeAwake$Matching;" ∈ tALL := tALL_in (List.mem_of_getElem? (i := 316) (by decide +kernel)) (by decide +kernel)
theorem wd_257 : Jvm.Cond.fieldLink RX7 57 "BridgeAwake" "findingCounts" "[I" ∈ tALL := tALL_in (List.mem_of_getElem? (i := 317) (by decide +kernel)) (by decide +kernel)
theorem wd_258 : Jvm.Cond.fieldLink RX7 61 "BridgeAwake" "latestFinding" "I" ∈ tALL := tALL_in (List.mem_of_getElem? (i := 318) (by decide +kernel)) (by decide +kernel)
theorem wd_259 : Jvm.Cond.fieldLink RX7 65 "BridgeAwake" "latestAsked" "I" ∈ tALL := tALL_in (List.mem_of_getElem? (i := 319) (by decide +kernel)) (by decide +kernel)
theorem wd_260 : Jvm.Cond.fieldLink RX7 68 "BridgeAwake" "latestUpper" "J" ∈ tALL := tALL_in (List.mem_of_getElem? (i := 320) (by decide +kernel)) (by decide +kernel)
theorem wd_261 : Jvm.Cond.fieldLink RX7 72 "BridgeAwake" "latestLower" "J" ∈ tALL := tALL_in (List.mem_of_getElem? (i := 321) (by decide +kernel)) (by decide +kernel)
theorem wd_262 : Jvm.Cond.instantiable RX5 4 ∈ tALL := tALL_in (List.mem_of_getElem? (i := 283) (by decide +kernel)) (by decide +kernel)
theorem wd_263 : Jvm.Cond.methodLink RX7 75 yX5_init ∈ tALL := tALL_in (List.mem_of_getElem? (i := 284) (by decide +kernel)) (by decide +kernel)
theorem wd_264 : Jvm.Cond.instanceMethod yX5_init ∈ tALL := tALL_in (List.mem_of_getElem? (i := 285) (by decide +kernel)) (by decide +kernel)
theorem wd_265 : Jvm.Cond.methodLink RX7 78 yX7_isRow ∈ tALL := tALL_in (List.mem_of_getElem? (i := 353) (by decide +kernel)) (by decide +kernel)
theorem wd_266 : Jvm.Cond.initialized RX7 ∈ tALL := tALL_in (List.mem_of_getElem? (i := 70) (by decide +kernel)) (by decide +kernel)
theorem wd_267 : Jvm.Cond.static yX7_isRow ∈ tALL := tALL_in (List.mem_of_getElem? (i := 354) (by decide +kernel)) (by decide +kernel)
theorem wd_268 : Jvm.Cond.methodLink RX7 86 yX5_begin ∈ tALL := tALL_in (List.mem_of_getElem? (i := 360) (by decide +kernel)) (by decide +kernel)
theorem wd_269 : Jvm.Cond.instanceMethod yX5_begin ∈ tALL := tALL_in (List.mem_of_getElem? (i := 361) (by decide +kernel)) (by decide +kernel)
theorem wd_270 : Jvm.Cond.selects RX5 yX5_begin yX5_begin ∈ tALL := tALL_in (List.mem_of_getElem? (i := 362) (by decide +kernel)) (by decide +kernel)
theorem wd_271 : Jvm.Cond.methodLink RX7 82 yX7_found ∈ tALL := tALL_in (List.mem_of_getElem? (i := 356) (by decide +kernel)) (by decide +kernel)
theorem wd_272 : Jvm.Cond.instanceMethod yX7_found ∈ tALL := tALL_in (List.mem_of_getElem? (i := 358) (by decide +kernel)) (by decide +kernel)
theorem wd_273 : Jvm.Cond.selects RX7 yX7_found yX7_found ∈ tALL := tALL_in (List.mem_of_getElem? (i := 0) (by decide +kernel)) (by decide +kernel)
theorem wd_274 : Jvm.Cond.methodLink RX7 90 yX7_refusePlace ∈ tALL := tALL_in (List.mem_of_getElem? (i := 374) (by decide +kernel)) (by decide +kernel)
theorem wd_275 : Jvm.Cond.instanceMethod yX7_refusePlace ∈ tALL := tALL_in (List.mem_of_getElem? (i := 376) (by decide +kernel)) (by decide +kernel)
theorem wd_276 : Jvm.Cond.selects RX7 yX7_refusePlace yX7_refusePlace ∈ tALL := tALL_in (List.mem_of_getElem? (i := 1) (by decide +kernel)) (by decide +kernel)
theorem wd_277 : Jvm.Cond.methodLink RX7 94 yX5_swap ∈ tALL := tALL_in (List.mem_of_getElem? (i := 382) (by decide +kernel)) (by decide +kernel)
theorem wd_278 : Jvm.Cond.instanceMethod yX5_swap ∈ tALL := tALL_in (List.mem_of_getElem? (i := 383) (by decide +kernel)) (by decide +kernel)
theorem wd_279 : Jvm.Cond.selects RX5 yX5_swap yX5_swap ∈ tALL := tALL_in (List.mem_of_getElem? (i := 384) (by decide +kernel)) (by decide +kernel)
theorem wd_280 : Jvm.Cond.methodLink RX7 98 yX7_tellAsked ∈ tALL := tALL_in (List.mem_of_getElem? (i := 391) (by decide +kernel)) (by decide +kernel)
theorem wd_281 : Jvm.Cond.instanceMethod yX7_tellAsked ∈ tALL := tALL_in (List.mem_of_getElem? (i := 393) (by decide +kernel)) (by decide +kernel)
theorem wd_282 : Jvm.Cond.selects RX7 yX7_tellAsked yX7_tellAsked ∈ tALL := tALL_in (List.mem_of_getElem? (i := 2) (by decide +kernel)) (by decide +kernel)
theorem wd_283 : Jvm.Cond.methodLink RX7 101 yX5_get ∈ tALL := tALL_in (List.mem_of_getElem? (i := 399) (by decide +kernel)) (by decide +kernel)
theorem wd_284 : Jvm.Cond.fieldLinkNest RX7 104 "BridgeAwake$Row" "there" "Z" "BridgeAwake" ∈ tNEST := tNEST_in (List.mem_of_getElem? (i := 299) (by decide +kernel)) (by decide +kernel)
theorem wd_285 : Jvm.Cond.methodLink RX7 108 yX5_holdsSpan ∈ tALL := tALL_in (List.mem_of_getElem? (i := 408) (by decide +kernel)) (by decide +kernel)
theorem wd_286 : Jvm.Cond.instanceMethod yX5_holdsSpan ∈ tALL := tALL_in (List.mem_of_getElem? (i := 409) (by decide +kernel)) (by decide +kernel)
theorem wd_287 : Jvm.Cond.selects RX5 yX5_holdsSpan yX5_holdsSpan ∈ tALL := tALL_in (List.mem_of_getElem? (i := 410) (by decide +kernel)) (by decide +kernel)
theorem wd_288 : Jvm.Cond.fieldLinkNest RX7 112 "BridgeAwake$Row" "places" "[I" "BridgeAwake" ∈ tNEST := tNEST_in (List.mem_of_getElem? (i := 292) (by decide +kernel)) (by decide +kernel)
theorem wd_289 : Jvm.Cond.methodLink RX7 115 arraycopyName ∈ tALL := tALL_in (List.mem_of_getElem? (i := 412) (by decide +kernel)) (by decide +kernel)
theorem wd_290 : Jvm.Cond.native arraycopyName ∈ tALL := tALL_in (List.mem_of_getElem? (i := 414) (by decide +kernel)) (by decide +kernel)
theorem wd_291 : Jvm.Cond.static arraycopyName ∈ tALL := tALL_in (List.mem_of_getElem? (i := 413) (by decide +kernel)) (by decide +kernel)
theorem wd_292 : Jvm.Cond.initialized RJ10 ∈ tALL := tALL_in (List.mem_of_getElem? (i := 81) (by decide +kernel)) (by decide +kernel)
theorem wd_293 : Jvm.Cond.fieldLinkNest RX7 121 "BridgeAwake$Row" "size" "I" "BridgeAwake" ∈ tNEST := tNEST_in (List.mem_of_getElem? (i := 297) (by decide +kernel)) (by decide +kernel)
theorem wd_294 : Jvm.Cond.methodLink RX7 124 yX5_sum ∈ tALL := tALL_in (List.mem_of_getElem? (i := 419) (by decide +kernel)) (by decide +kernel)
theorem wd_295 : Jvm.Cond.instanceMethod yX5_sum ∈ tALL := tALL_in (List.mem_of_getElem? (i := 420) (by decide +kernel)) (by decide +kernel)
theorem wd_296 : Jvm.Cond.selects RX5 yX5_sum yX5_sum ∈ tALL := tALL_in (List.mem_of_getElem? (i := 421) (by decide +kernel)) (by decide +kernel)
theorem wd_297 : Jvm.Cond.methodLink RX7 128 yX7_isText ∈ tALL := tALL_in (List.mem_of_getElem? (i := 427) (by decide +kernel)) (by decide +kernel)
theorem wd_298 : Jvm.Cond.static yX7_isText ∈ tALL := tALL_in (List.mem_of_getElem? (i := 428) (by decide +kernel)) (by decide +kernel)
theorem wd_299 : Jvm.Cond.methodLink RX7 131 yX4_read ∈ tALL := tALL_in (List.mem_of_getElem? (i := 438) (by decide +kernel)) (by decide +kernel)
theorem wd_300 : Jvm.Cond.instanceMethod yX4_read ∈ tALL := tALL_in (List.mem_of_getElem? (i := 439) (by decide +kernel)) (by decide +kernel)
theorem wd_301 : Jvm.Cond.selects RX4 yX4_read yX4_read ∈ tALL := tALL_in (List.mem_of_getElem? (i := 440) (by decide +kernel)) (by decide +kernel)
theorem wd_302 : Jvm.Cond.fieldLinkNest RX7 135 "BridgeAwake$Reader" "folk" "LBridgeAwake$Folk;" "BridgeAwake" ∈ tNEST := tNEST_in (List.mem_of_getElem? (i := 149) (by decide +kernel)) (by decide +kernel)
theorem wd_303 : Jvm.Cond.methodLink RX7 136 yX0_become ∈ tALL := tALL_in (List.mem_of_getElem? (i := 493) (by decide +kernel)) (by decide +kernel)
theorem wd_304 : Jvm.Cond.instanceMethod yX0_become ∈ tALL := tALL_in (List.mem_of_getElem? (i := 494) (by decide +kernel)) (by decide +kernel)
theorem wd_305 : Jvm.Cond.selects RX0 yX0_become yX0_become ∈ tALL := tALL_in (List.mem_of_getElem? (i := 495) (by decide +kernel)) (by decide +kernel)
theorem wd_306 : Jvm.Cond.methodLink RX7 140 yX3_begin ∈ tALL := tALL_in (List.mem_of_getElem? (i := 497) (by decide +kernel)) (by decide +kernel)
theorem wd_307 : Jvm.Cond.fieldLinkNest RX7 143 "BridgeAwake$Folk" "size" "I" "BridgeAwake" ∈ tNEST := tNEST_in (List.mem_of_getElem? (i := 117) (by decide +kernel)) (by decide +kernel)
theorem wd_308 : Jvm.Cond.fieldLinkNest RX7 142 "BridgeAwake$Night" "there" "Z" "BridgeAwake" ∈ tNEST := tNEST_in (List.mem_of_getElem? (i := 198) (by decide +kernel)) (by decide +kernel)
theorem wd_309 : Jvm.Cond.methodLink RX7 144 yX0_has ∈ tALL := tALL_in (List.mem_of_getElem? (i := 525) (by decide +kernel)) (by decide +kernel)
theorem wd_310 : Jvm.Cond.methodLink RX7 147 yX7_fact ∈ tALL := tALL_in (List.mem_of_getElem? (i := 526) (by decide +kernel)) (by decide +kernel)
theorem wd_311 : Jvm.Cond.instanceMethod yX7_fact ∈ tALL := tALL_in (List.mem_of_getElem? (i := 528) (by decide +kernel)) (by decide +kernel)
theorem wd_312 : Jvm.Cond.selects RX7 yX7_fact yX7_fact ∈ tALL := tALL_in (List.mem_of_getElem? (i := 8) (by decide +kernel)) (by decide +kernel)
theorem wd_313 : Jvm.Cond.fieldLinkNest RX7 150 "BridgeAwake$Folk" "kinds" "[I" "BridgeAwake" ∈ tNEST := tNEST_in (List.mem_of_getElem? (i := 103) (by decide +kernel)) (by decide +kernel)
theorem wd_314 : Jvm.Cond.methodLink RX7 153 yX0_isOfKind ∈ tALL := tALL_in (List.mem_of_getElem? (i := 534) (by decide +kernel)) (by decide +kernel)
theorem wd_315 : Jvm.Cond.fieldLinkNest RX7 156 "BridgeAwake$Night" "hold" "LBridgeAwake$Hold;" "BridgeAwake" ∈ tNEST := tNEST_in (List.mem_of_getElem? (i := 187) (by decide +kernel)) (by decide +kernel)
theorem wd_316 : Jvm.Cond.methodLink RX7 160 yX1_hour ∈ tALL := tALL_in (List.mem_of_getElem? (i := 537) (by decide +kernel)) (by decide +kernel)
theorem wd_317 : Jvm.Cond.fieldLinkNest RX7 166 "BridgeAwake$Hold" "ups" "[I" "BridgeAwake" ∈ tNEST := tNEST_in (List.mem_of_getElem? (i := 168) (by decide +kernel)) (by decide +kernel)
theorem wd_318 : Jvm.Cond.methodLink RX7 169 yX0_tellsAs ∈ tALL := tALL_in (List.mem_of_getElem? (i := 538) (by decide +kernel)) (by decide +kernel)
theorem wd_319 : Jvm.Cond.instanceMethod yX0_tellsAs ∈ tALL := tALL_in (List.mem_of_getElem? (i := 539) (by decide +kernel)) (by decide +kernel)
theorem wd_320 : Jvm.Cond.selects RX0 yX0_tellsAs yX0_tellsAs ∈ tALL := tALL_in (List.mem_of_getElem? (i := 540) (by decide +kernel)) (by decide +kernel)
theorem wd_321 : Jvm.Cond.fieldLinkNest RX7 173 "BridgeAwake$Hold" "told" "[I" "BridgeAwake" ∈ tNEST := tNEST_in (List.mem_of_getElem? (i := 170) (by decide +kernel)) (by decide +kernel)
theorem wd_322 : Jvm.Cond.methodLink RX7 176 yJ9_max_7cf53 ∈ tALL := tALL_in (List.mem_of_getElem? (i := 543) (by decide +kernel)) (by decide +kernel)
theorem wd_323 : Jvm.Cond.methodLink RX7 181 yX7_preachedPairs ∈ tALL := tALL_in (List.mem_of_getElem? (i := 544) (by decide +kernel)) (by decide +kernel)
theorem wd_324 : Jvm.Cond.instanceMethod yX7_preachedPairs ∈ tALL := tALL_in (List.mem_of_getElem? (i := 546) (by decide +kernel)) (by decide +kernel)
theorem wd_325 : Jvm.Cond.selects RX7 yX7_preachedPairs yX7_preachedPairs ∈ tALL := tALL_in (List.mem_of_getElem? (i := 9) (by decide +kernel)) (by decide +kernel)
theorem wd_326 : Jvm.Cond.methodLink RX7 184 yX0_isPair ∈ tALL := tALL_in (List.mem_of_getElem? (i := 557) (by decide +kernel)) (by decide +kernel)
theorem wd_327 : Jvm.Cond.methodLink RX7 187 yX1_pairTells ∈ tALL := tALL_in (List.mem_of_getElem? (i := 558) (by decide +kernel)) (by decide +kernel)
theorem wd_328 : Jvm.Cond.methodLink RX7 191 yX3_hasRoom ∈ tALL := tALL_in (List.mem_of_getElem? (i := 569) (by decide +kernel)) (by decide +kernel)
theorem wd_329 : Jvm.Cond.instanceMethod yX3_hasRoom ∈ tALL := tALL_in (List.mem_of_getElem? (i := 570) (by decide +kernel)) (by decide +kernel)
theorem wd_330 : Jvm.Cond.selects RX3 yX3_hasRoom yX3_hasRoom ∈ tALL := tALL_in (List.mem_of_getElem? (i := 571) (by decide +kernel)) (by decide +kernel)
theorem wd_331 : Jvm.Cond.methodLink RX7 194 yX3_doWatch ∈ tALL := tALL_in (List.mem_of_getElem? (i := 573) (by decide +kernel)) (by decide +kernel)
theorem wd_332 : Jvm.Cond.methodLink RX7 197 yX7_isStrength ∈ tALL := tALL_in (List.mem_of_getElem? (i := 595) (by decide +kernel)) (by decide +kernel)
theorem wd_333 : Jvm.Cond.static yX7_isStrength ∈ tALL := tALL_in (List.mem_of_getElem? (i := 596) (by decide +kernel)) (by decide +kernel)
theorem wd_334 : Jvm.Cond.methodLink RX7 200 yX0_isNobody ∈ tALL := tALL_in (List.mem_of_getElem? (i := 598) (by decide +kernel)) (by decide +kernel)
theorem wd_335 : Jvm.Cond.instanceMethod yX0_isNobody ∈ tALL := tALL_in (List.mem_of_getElem? (i := 599) (by decide +kernel)) (by decide +kernel)
theorem wd_336 : Jvm.Cond.selects RX0 yX0_isNobody yX0_isNobody ∈ tALL := tALL_in (List.mem_of_getElem? (i := 600) (by decide +kernel)) (by decide +kernel)
theorem wd_337 : Jvm.Cond.methodLink RX7 204 yX3_doLoad ∈ tALL := tALL_in (List.mem_of_getElem? (i := 602) (by decide +kernel)) (by decide +kernel)
theorem wd_338 : Jvm.Cond.fieldLinkNest RX7 207 "BridgeAwake$Night" "coffee" "I" "BridgeAwake" ∈ tNEST := tNEST_in (List.mem_of_getElem? (i := 192) (by decide +kernel)) (by decide +kernel)
theorem wd_339 : Jvm.Cond.methodLink RX7 210 yX3_doCoffee ∈ tALL := tALL_in (List.mem_of_getElem? (i := 610) (by decide +kernel)) (by decide +kernel)
theorem wd_340 : Jvm.Cond.fieldLinkNest RX7 214 "BridgeAwake$Night" "done" "I" "BridgeAwake" ∈ tNEST := tNEST_in (List.mem_of_getElem? (i := 190) (by decide +kernel)) (by decide +kernel)
theorem wd_341 : Jvm.Cond.methodLink RX7 217 yX3_goBackTo ∈ tALL := tALL_in (List.mem_of_getElem? (i := 622) (by decide +kernel)) (by decide +kernel)
theorem wd_342 : Jvm.Cond.instanceMethod yX3_goBackTo ∈ tALL := tALL_in (List.mem_of_getElem? (i := 623) (by decide +kernel)) (by decide +kernel)
theorem wd_343 : Jvm.Cond.selects RX3 yX3_goBackTo yX3_goBackTo ∈ tALL := tALL_in (List.mem_of_getElem? (i := 624) (by decide +kernel)) (by decide +kernel)
theorem wd_344 : Jvm.Cond.methodLink RX7 221 yX7_isKeptPlace ∈ tALL := tALL_in (List.mem_of_getElem? (i := 634) (by decide +kernel)) (by decide +kernel)
theorem wd_345 : Jvm.Cond.static yX7_isKeptPlace ∈ tALL := tALL_in (List.mem_of_getElem? (i := 635) (by decide +kernel)) (by decide +kernel)
theorem wd_346 : Jvm.Cond.methodLink RX7 224 yX3_become ∈ tALL := tALL_in (List.mem_of_getElem? (i := 637) (by decide +kernel)) (by decide +kernel)
theorem wd_347 : Jvm.Cond.instanceMethod yX3_become ∈ tALL := tALL_in (List.mem_of_getElem? (i := 638) (by decide +kernel)) (by decide +kernel)
theorem wd_348 : Jvm.Cond.selects RX3 yX3_become yX3_become ∈ tALL := tALL_in (List.mem_of_getElem? (i := 639) (by decide +kernel)) (by decide +kernel)
theorem wd_349 : Jvm.Cond.methodLink RX7 227 yX7_isTurns ∈ tALL := tALL_in (List.mem_of_getElem? (i := 653) (by decide +kernel)) (by decide +kernel)
theorem wd_350 : Jvm.Cond.static yX7_isTurns ∈ tALL := tALL_in (List.mem_of_getElem? (i := 654) (by decide +kernel)) (by decide +kernel)
theorem wd_351 : Jvm.Cond.methodLink RX7 230 yX6_strongest ∈ tALL := tALL_in (List.mem_of_getElem? (i := 656) (by decide +kernel)) (by decide +kernel)
theorem wd_352 : Jvm.Cond.instanceMethod yX6_strongest ∈ tALL := tALL_in (List.mem_of_getElem? (i := 657) (by decide +kernel)) (by decide +kernel)
theorem wd_353 : Jvm.Cond.selects RX6 yX6_strongest yX6_strongest ∈ tALL := tALL_in (List.mem_of_getElem? (i := 658) (by decide +kernel)) (by decide +kernel)
theorem wd_354 : Jvm.Cond.fieldLinkNest RX7 234 "BridgeAwake$Search" "bestWay" "[I" "BridgeAwake" ∈ tNEST := tNEST_in (List.mem_of_getElem? (i := 226) (by decide +kernel)) (by decide +kernel)
theorem wd_355 : Jvm.Cond.methodLink RX7 237 yX7_refuseWatches ∈ tALL := tALL_in (List.mem_of_getElem? (i := 687) (by decide +kernel)) (by decide +kernel)
theorem wd_356 : Jvm.Cond.instanceMethod yX7_refuseWatches ∈ tALL := tALL_in (List.mem_of_getElem? (i := 689) (by decide +kernel)) (by decide +kernel)
theorem wd_357 : Jvm.Cond.selects RX7 yX7_refuseWatches yX7_refuseWatches ∈ tALL := tALL_in (List.mem_of_getElem? (i := 14) (by decide +kernel)) (by decide +kernel)
theorem wd_358 : Jvm.Cond.methodLink RX7 240 yX6_beginAside ∈ tALL := tALL_in (List.mem_of_getElem? (i := 695) (by decide +kernel)) (by decide +kernel)
theorem wd_359 : Jvm.Cond.fieldLinkNest RX7 244 "BridgeAwake$Hold" "strength" "I" "BridgeAwake" ∈ tNEST := tNEST_in (List.mem_of_getElem? (i := 174) (by decide +kernel)) (by decide +kernel)
theorem wd_360 : Jvm.Cond.methodLink RX7 247 yX1_passWatch ∈ tALL := tALL_in (List.mem_of_getElem? (i := 696) (by decide +kernel)) (by decide +kernel)
theorem wd_361 : Jvm.Cond.methodLink RX7 251 yJ9_min_7cf53 ∈ tALL := tALL_in (List.mem_of_getElem? (i := 697) (by decide +kernel)) (by decide +kernel)
theorem wd_362 : Jvm.Cond.methodLink RX7 254 yX7_refuseStrengths ∈ tALL := tALL_in (List.mem_of_getElem? (i := 706) (by decide +kernel)) (by decide +kernel)
theorem wd_363 : Jvm.Cond.instanceMethod yX7_refuseStrengths ∈ tALL := tALL_in (List.mem_of_getElem? (i := 708) (by decide +kernel)) (by decide +kernel)
theorem wd_364 : Jvm.Cond.selects RX7 yX7_refuseStrengths yX7_refuseStrengths ∈ tALL := tALL_in (List.mem_of_getElem? (i := 15) (by decide +kernel)) (by decide +kernel)
theorem wd_365 : Jvm.Cond.methodLink RX7 257 yX6_waysFor ∈ tALL := tALL_in (List.mem_of_getElem? (i := 710) (by decide +kernel)) (by decide +kernel)
theorem wd_366 : Jvm.Cond.instanceMethod yX6_waysFor ∈ tALL := tALL_in (List.mem_of_getElem? (i := 711) (by decide +kernel)) (by decide +kernel)
theorem wd_367 : Jvm.Cond.selects RX6 yX6_waysFor yX6_waysFor ∈ tALL := tALL_in (List.mem_of_getElem? (i := 712) (by decide +kernel)) (by decide +kernel)
theorem wd_368 : Jvm.Cond.fieldLinkNest RX7 261 "BridgeAwake$Search" "ways" "I" "BridgeAwake" ∈ tNEST := tNEST_in (List.mem_of_getElem? (i := 232) (by decide +kernel)) (by decide +kernel)
theorem wd_369 : Jvm.Cond.fieldLinkNest RX7 264 "BridgeAwake$Search" "fewest" "I" "BridgeAwake" ∈ tNEST := tNEST_in (List.mem_of_getElem? (i := 240) (by decide +kernel)) (by decide +kernel)
theorem wd_370 : Jvm.Cond.methodLink RX7 267 yJ6_bitCount_0f7a4 ∈ tALL := tALL_in (List.mem_of_getElem? (i := 736) (by decide +kernel)) (by decide +kernel)
theorem wd_371 : Jvm.Cond.methodLink RX7 272 yX7_tellShare ∈ tALL := tALL_in (List.mem_of_getElem? (i := 741) (by decide +kernel)) (by decide +kernel)
theorem wd_372 : Jvm.Cond.instanceMethod yX7_tellShare ∈ tALL := tALL_in (List.mem_of_getElem? (i := 743) (by decide +kernel)) (by decide +kernel)
theorem wd_373 : Jvm.Cond.selects RX7 yX7_tellShare yX7_tellShare ∈ tALL := tALL_in (List.mem_of_getElem? (i := 18) (by decide +kernel)) (by decide +kernel)
theorem wd_374 : Jvm.Cond.fieldLinkNest RX7 276 "BridgeAwake$Search" "firstWatch" "I" "BridgeAwake" ∈ tNEST := tNEST_in (List.mem_of_getElem? (i := 234) (by decide +kernel)) (by decide +kernel)
theorem wd_375 : Jvm.Cond.methodLink RX7 279 yX0_everybody ∈ tALL := tALL_in (List.mem_of_getElem? (i := 758) (by decide +kernel)) (by decide +kernel)
theorem wd_376 : Jvm.Cond.fieldLinkNest RX7 282 "BridgeAwake$Search" "ever" "I" "BridgeAwake" ∈ tNEST := tNEST_in (List.mem_of_getElem? (i := 238) (by decide +kernel)) (by decide +kernel)
theorem wd_377 : Jvm.Cond.fieldLinkNest RX7 285 "BridgeAwake$Search" "always" "I" "BridgeAwake" ∈ tNEST := tNEST_in (List.mem_of_getElem? (i := 236) (by decide +kernel)) (by decide +kernel)
theorem wd_378 : Jvm.Cond.methodLink RX7 288 yX7_refuseTriples ∈ tALL := tALL_in (List.mem_of_getElem? (i := 763) (by decide +kernel)) (by decide +kernel)
theorem wd_379 : Jvm.Cond.instanceMethod yX7_refuseTriples ∈ tALL := tALL_in (List.mem_of_getElem? (i := 765) (by decide +kernel)) (by decide +kernel)
theorem wd_380 : Jvm.Cond.selects RX7 yX7_refuseTriples yX7_refuseTriples ∈ tALL := tALL_in (List.mem_of_getElem? (i := 19) (by decide +kernel)) (by decide +kernel)
theorem wd_381 : Jvm.Cond.fieldLinkNest RX7 291 "BridgeAwake$Folk" "lively" "[I" "BridgeAwake" ∈ tNEST := tNEST_in (List.mem_of_getElem? (i := 106) (by decide +kernel)) (by decide +kernel)
theorem wd_382 : Jvm.Cond.methodLink RX7 294 yX7_agrees ∈ tALL := tALL_in (List.mem_of_getElem? (i := 771) (by decide +kernel)) (by decide +kernel)
theorem wd_383 : Jvm.Cond.static yX7_agrees ∈ tALL := tALL_in (List.mem_of_getElem? (i := 772) (by decide +kernel)) (by decide +kernel)
theorem wd_384 : Jvm.Cond.methodLink RX7 298 yX7_possibleKinds ∈ tALL := tALL_in (List.mem_of_getElem? (i := 779) (by decide +kernel)) (by decide +kernel)
theorem wd_385 : Jvm.Cond.instanceMethod yX7_possibleKinds ∈ tALL := tALL_in (List.mem_of_getElem? (i := 781) (by decide +kernel)) (by decide +kernel)
theorem wd_386 : Jvm.Cond.selects RX7 yX7_possibleKinds yX7_possibleKinds ∈ tALL := tALL_in (List.mem_of_getElem? (i := 20) (by decide +kernel)) (by decide +kernel)
theorem wd_387 : Jvm.Cond.methodLink RX7 302 yX7_greatestPartAlike ∈ tALL := tALL_in (List.mem_of_getElem? (i := 787) (by decide +kernel)) (by decide +kernel)
theorem wd_388 : Jvm.Cond.instanceMethod yX7_greatestPartAlike ∈ tALL := tALL_in (List.mem_of_getElem? (i := 789) (by decide +kernel)) (by decide +kernel)
theorem wd_389 : Jvm.Cond.selects RX7 yX7_greatestPartAlike yX7_greatestPartAlike ∈ tALL := tALL_in (List.mem_of_getElem? (i := 21) (by decide +kernel)) (by decide +kernel)
theorem wd_390 : Jvm.Cond.methodLink RX7 306 yX2_pairAll ∈ tALL := tALL_in (List.mem_of_getElem? (i := 799) (by decide +kernel)) (by decide +kernel)
theorem wd_391 : Jvm.Cond.instanceMethod yX2_pairAll ∈ tALL := tALL_in (List.mem_of_getElem? (i := 800) (by decide +kernel)) (by decide +kernel)
theorem wd_392 : Jvm.Cond.selects RX2 yX2_pairAll yX2_pairAll ∈ tALL := tALL_in (List.mem_of_getElem? (i := 801) (by decide +kernel)) (by decide +kernel)
theorem wd_393 : Jvm.Cond.fieldLinkNest RX7 310 "BridgeAwake$Matching" "bestPartners" "[I" "BridgeAwake" ∈ tNEST := tNEST_in (List.mem_of_getElem? (i := 274) (by decide +kernel)) (by decide +kernel)
theorem wd_394 : Jvm.Cond.methodLink RX7 313 yX6_byTurns ∈ tALL := tALL_in (List.mem_of_getElem? (i := 816) (by decide +kernel)) (by decide +kernel)
theorem wd_395 : Jvm.Cond.instanceMethod yX6_byTurns ∈ tALL := tALL_in (List.mem_of_getElem? (i := 817) (by decide +kernel)) (by decide +kernel)
theorem wd_396 : Jvm.Cond.selects RX6 yX6_byTurns yX6_byTurns ∈ tALL := tALL_in (List.mem_of_getElem? (i := 818) (by decide +kernel)) (by decide +kernel)
theorem wd_397 : Jvm.Cond.methodLink RX7 316 yX7_isPart ∈ tALL := tALL_in (List.mem_of_getElem? (i := 827) (by decide +kernel)) (by decide +kernel)
theorem wd_398 : Jvm.Cond.static yX7_isPart ∈ tALL := tALL_in (List.mem_of_getElem? (i := 828) (by decide +kernel)) (by decide +kernel)
theorem wd_399 : Jvm.Cond.constantLong RX7 326 144 ∈ tALL := tALL_in (List.mem_of_getElem? (i := 838) (by decide +kernel)) (by decide +kernel)
theorem wd_400 : Jvm.Cond.methodLink RX7 319 yX1_behindHalfAsleep ∈ tALL := tALL_in (List.mem_of_getElem? (i := 830) (by decide +kernel)) (by decide +kernel)
theorem wd_401 : Jvm.Cond.instanceMethod yX1_behindHalfAsleep ∈ tALL := tALL_in (List.mem_of_getElem? (i := 831) (by decide +kernel)) (by decide +kernel)
theorem wd_402 : Jvm.Cond.selects RX1 yX1_behindHalfAsleep yX1_behindHalfAsleep ∈ tALL := tALL_in (List.mem_of_getElem? (i := 832) (by decide +kernel)) (by decide +kernel)
theorem wd_403 : Jvm.Cond.methodLink RX7 323 yX7_sleepWeight ∈ tALL := tALL_in (List.mem_of_getElem? (i := 835) (by decide +kernel)) (by decide +kernel)
theorem wd_404 : Jvm.Cond.static yX7_sleepWeight ∈ tALL := tALL_in (List.mem_of_getElem? (i := 836) (by decide +kernel)) (by decide +kernel)
theorem wd_405 : Jvm.Cond.constantLong RX7 328 2147483647 ∈ tALL := tALL_in (List.mem_of_getElem? (i := 847) (by decide +kernel)) (by decide +kernel)
theorem wd_406 : Jvm.Cond.constantLong RX7 330 48271 ∈ tALL := tALL_in (List.mem_of_getElem? (i := 848) (by decide +kernel)) (by decide +kernel)
theorem wd_407 : Jvm.Cond.methodLink RX7 332 yX7_doByLot ∈ tALL := tALL_in (List.mem_of_getElem? (i := 849) (by decide +kernel)) (by decide +kernel)
theorem wd_408 : Jvm.Cond.instanceMethod yX7_doByLot ∈ tALL := tALL_in (List.mem_of_getElem? (i := 851) (by decide +kernel)) (by decide +kernel)
theorem wd_409 : Jvm.Cond.selects RX7 yX7_doByLot yX7_doByLot ∈ tALL := tALL_in (List.mem_of_getElem? (i := 24) (by decide +kernel)) (by decide +kernel)
theorem wd_410 : Jvm.Cond.fieldLinkNest RX7 336 "BridgeAwake$Hold" "hours" "I" "BridgeAwake" ∈ tNEST := tNEST_in (List.mem_of_getElem? (i := 176) (by decide +kernel)) (by decide +kernel)
theorem wd_411 : Jvm.Cond.fieldLinkNest RX7 339 "BridgeAwake$Night" "crossed" "I" "BridgeAwake" ∈ tNEST := tNEST_in (List.mem_of_getElem? (i := 194) (by decide +kernel)) (by decide +kernel)
theorem wd_412 : Jvm.Cond.fieldLinkNest RX7 342 "BridgeAwake$Night" "fell" "I" "BridgeAwake" ∈ tNEST := tNEST_in (List.mem_of_getElem? (i := 196) (by decide +kernel)) (by decide +kernel)
theorem wd_413 : Jvm.Cond.methodLink RX7 345 yX0_lovers ∈ tALL := tALL_in (List.mem_of_getElem? (i := 873) (by decide +kernel)) (by decide +kernel)
theorem wd_414 : Jvm.Cond.instanceMethod yX0_lovers ∈ tALL := tALL_in (List.mem_of_getElem? (i := 874) (by decide +kernel)) (by decide +kernel)
theorem wd_415 : Jvm.Cond.selects RX0 yX0_lovers yX0_lovers ∈ tALL := tALL_in (List.mem_of_getElem? (i := 875) (by decide +kernel)) (by decide +kernel)
theorem wd_416 : Jvm.Cond.methodLink RX7 348 yX7_howManyThere ∈ tALL := tALL_in (List.mem_of_getElem? (i := 878) (by decide +kernel)) (by decide +kernel)
theorem wd_417 : Jvm.Cond.static yX7_howManyThere ∈ tALL := tALL_in (List.mem_of_getElem? (i := 879) (by decide +kernel)) (by decide +kernel)
theorem wd_418 : Jvm.Cond.methodLink RX7 352 yX7_howManyKept ∈ tALL := tALL_in (List.mem_of_getElem? (i := 881) (by decide +kernel)) (by decide +kernel)
theorem wd_419 : Jvm.Cond.instanceMethod yX7_howManyKept ∈ tALL := tALL_in (List.mem_of_getElem? (i := 883) (by decide +kernel)) (by decide +kernel)
theorem wd_420 : Jvm.Cond.selects RX7 yX7_howManyKept yX7_howManyKept ∈ tALL := tALL_in (List.mem_of_getElem? (i := 25) (by decide +kernel)) (by decide +kernel)
theorem wd_421 : Jvm.Cond.constantLong RX7 355 17 ∈ tALL := tALL_in (List.mem_of_getElem? (i := 897) (by decide +kernel)) (by decide +kernel)
theorem wd_422 : Jvm.Cond.methodLink RX7 362 yX7_addPlaces ∈ tALL := tALL_in (List.mem_of_getElem? (i := 900) (by decide +kernel)) (by decide +kernel)
theorem wd_423 : Jvm.Cond.static yX7_addPlaces ∈ tALL := tALL_in (List.mem_of_getElem? (i := 901) (by decide +kernel)) (by decide +kernel)
theorem wd_424 : Jvm.Cond.constantLong RX7 357 31 ∈ tALL := tALL_in (List.mem_of_getElem? (i := 898) (by decide +kernel)) (by decide +kernel)
theorem wd_425 : Jvm.Cond.methodLink RX7 359 yX7_count ∈ tALL := tALL_in (List.mem_of_getElem? (i := 899) (by decide +kernel)) (by decide +kernel)
theorem wd_426 : Jvm.Cond.instanceMethod yX7_count ∈ tALL := tALL_in (List.mem_of_getElem? (i := 870) (by decide +kernel)) (by decide +kernel)
theorem wd_427 : Jvm.Cond.selects RX7 yX7_count yX7_count ∈ tALL := tALL_in (List.mem_of_getElem? (i := 871) (by decide +kernel)) (by decide +kernel)
theorem wd_428 : Jvm.Cond.methodLink RX7 366 yX5_holds ∈ tALL := tALL_in (List.mem_of_getElem? (i := 378) (by decide +kernel)) (by decide +kernel)
theorem wd_429 : Jvm.Cond.methodLink RX7 369 yX0_isWatch ∈ tALL := tALL_in (List.mem_of_getElem? (i := 691) (by decide +kernel)) (by decide +kernel)
theorem wd_430 : Jvm.Cond.instanceMethod yX0_isWatch ∈ tALL := tALL_in (List.mem_of_getElem? (i := 692) (by decide +kernel)) (by decide +kernel)
theorem wd_431 : Jvm.Cond.selects RX0 yX0_isWatch yX0_isWatch ∈ tALL := tALL_in (List.mem_of_getElem? (i := 693) (by decide +kernel)) (by decide +kernel)
theorem wd_432 : Jvm.Cond.methodLink RX7 372 yX5_isWithin ∈ tALL := tALL_in (List.mem_of_getElem? (i := 767) (by decide +kernel)) (by decide +kernel)
theorem wd_433 : Jvm.Cond.instanceMethod yX5_isWithin ∈ tALL := tALL_in (List.mem_of_getElem? (i := 768) (by decide +kernel)) (by decide +kernel)
theorem wd_434 : Jvm.Cond.selects RX5 yX5_isWithin yX5_isWithin ∈ tALL := tALL_in (List.mem_of_getElem? (i := 769) (by decide +kernel)) (by decide +kernel)
theorem wd_435 : Jvm.Cond.methodLink RX7 375 yX7_commonMeasure ∈ tALL := tALL_in (List.mem_of_getElem? (i := 745) (by decide +kernel)) (by decide +kernel)
theorem wd_436 : Jvm.Cond.static yX7_commonMeasure ∈ tALL := tALL_in (List.mem_of_getElem? (i := 746) (by decide +kernel)) (by decide +kernel)
theorem wd_437 : Jvm.Cond.methodLink RX7 379 yJ9_max_f86c9 ∈ tALL := tALL_in (List.mem_of_getElem? (i := 748) (by decide +kernel)) (by decide +kernel)
theorem wd_438 : Jvm.Cond.static yJ9_max_f86c9 ∈ tALL := tALL_in (List.mem_of_getElem? (i := 749) (by decide +kernel)) (by decide +kernel)
theorem wd_439 : Jvm.Cond.methodLink RX7 381 yJ9_min_f86c9 ∈ tALL := tALL_in (List.mem_of_getElem? (i := 751) (by decide +kernel)) (by decide +kernel)
theorem wd_440 : Jvm.Cond.static yJ9_min_f86c9 ∈ tALL := tALL_in (List.mem_of_getElem? (i := 752) (by decide +kernel)) (by decide +kernel)
theorem wd_441 : Jvm.Cond.fieldLinkNest RX7 383 "BridgeAwake$Folk" "lasting" "[I" "BridgeAwake" ∈ tNEST := tNEST_in (List.mem_of_getElem? (i := 109) (by decide +kernel)) (by decide +kernel)
theorem wd_442 : Jvm.Cond.fieldLinkNest RX7 386 "BridgeAwake$Folk" "quarrels" "[I" "BridgeAwake" ∈ tNEST := tNEST_in (List.mem_of_getElem? (i := 112) (by decide +kernel)) (by decide +kernel)
theorem wd_443 : Jvm.Cond.methodLink RX7 389 yX1_pairMeans ∈ tALL := tALL_in (List.mem_of_getElem? (i := 548) (by decide +kernel)) (by decide +kernel)
theorem wd_444 : Jvm.Cond.methodLink RX7 392 yX0_tells ∈ tALL := tALL_in (List.mem_of_getElem? (i := 774) (by decide +kernel)) (by decide +kernel)
theorem wd_445 : Jvm.Cond.methodLink RX7 396 yX7_toldAs ∈ tALL := tALL_in (List.mem_of_getElem? (i := 791) (by decide +kernel)) (by decide +kernel)
theorem wd_446 : Jvm.Cond.instanceMethod yX7_toldAs ∈ tALL := tALL_in (List.mem_of_getElem? (i := 793) (by decide +kernel)) (by decide +kernel)
theorem wd_447 : Jvm.Cond.selects RX7 yX7_toldAs yX7_toldAs ∈ tALL := tALL_in (List.mem_of_getElem? (i := 22) (by decide +kernel)) (by decide +kernel)
theorem wd_448 : Jvm.Cond.constantLong RX7 399 4 ∈ tALL := tALL_in (List.mem_of_getElem? (i := 853) (by decide +kernel)) (by decide +kernel)
theorem wd_449 : Jvm.Cond.constantLong RX7 401 8 ∈ tALL := tALL_in (List.mem_of_getElem? (i := 854) (by decide +kernel)) (by decide +kernel)
theorem wd_450 : Jvm.Cond.constantLong RX7 405 64 ∈ tALL := tALL_in (List.mem_of_getElem? (i := 856) (by decide +kernel)) (by decide +kernel)
theorem wd_451 : Jvm.Cond.constantLong RX7 403 30 ∈ tALL := tALL_in (List.mem_of_getElem? (i := 855) (by decide +kernel)) (by decide +kernel)
theorem wd_452 : Jvm.Cond.methodLink RX8 1 Lib.objectInit ∈ tALL := tALL_in (List.mem_of_getElem? (i := 908) (by decide +kernel)) (by decide +kernel)
theorem wd_453 : Jvm.Cond.fieldLink RX8 7 "BridgeAwakeModel" "rows" "[I" ∈ tALL := tALL_in (List.mem_of_getElem? (i := 909) (by decide +kernel)) (by decide +kernel)
theorem wd_454 : Jvm.Cond.fieldLink RX8 13 "BridgeAwakeModel" "rowSize" "[I" ∈ tALL := tALL_in (List.mem_of_getElem? (i := 910) (by decide +kernel)) (by decide +kernel)
theorem wd_455 : Jvm.Cond.fieldLink RX8 16 "BridgeAwakeModel" "texts" "[I" ∈ tALL := tALL_in (List.mem_of_getElem? (i := 911) (by decide +kernel)) (by decide +kernel)
theorem wd_456 : Jvm.Cond.fieldLink RX8 19 "BridgeAwakeModel" "textSize" "[I" ∈ tALL := tALL_in (List.mem_of_getElem? (i := 912) (by decide +kernel)) (by decide +kernel)
theorem wd_457 : Jvm.Cond.fieldLink RX8 22 "BridgeAwakeModel" "w" "[I" ∈ tALL := tALL_in (List.mem_of_getElem? (i := 913) (by decide +kernel)) (by decide +kernel)
theorem wd_458 : Jvm.Cond.fieldLink RX8 25 "BridgeAwakeModel" "keptDeeds" "[I" ∈ tALL := tALL_in (List.mem_of_getElem? (i := 914) (by decide +kernel)) (by decide +kernel)
theorem wd_459 : Jvm.Cond.fieldLink RX8 28 "BridgeAwakeModel" "kind" "[I" ∈ tALL := tALL_in (List.mem_of_getElem? (i := 915) (by decide +kernel)) (by decide +kernel)
theorem wd_460 : Jvm.Cond.fieldLink RX8 31 "BridgeAwakeModel" "lively" "[I" ∈ tALL := tALL_in (List.mem_of_getElem? (i := 916) (by decide +kernel)) (by decide +kernel)
theorem wd_461 : Jvm.Cond.fieldLink RX8 34 "BridgeAwakeModel" "lasts" "[I" ∈ tALL := tALL_in (List.mem_of_getElem? (i := 917) (by decide +kernel)) (by decide +kernel)
theorem wd_462 : Jvm.Cond.fieldLink RX8 37 "BridgeAwakeModel" "quarrels" "[I" ∈ tALL := tALL_in (List.mem_of_getElem? (i := 918) (by decide +kernel)) (by decide +kernel)
theorem wd_463 : Jvm.Cond.fieldLink RX8 40 "BridgeAwakeModel" "found" "[I" ∈ tALL := tALL_in (List.mem_of_getElem? (i := 922) (by decide +kernel)) (by decide +kernel)
theorem wd_464 : Jvm.Cond.fieldLink RX8 43 "BridgeAwakeModel" "lower" "J" ∈ tALL := tALL_in (List.mem_of_getElem? (i := 925) (by decide +kernel)) (by decide +kernel)
theorem wd_465 : Jvm.Cond.fieldLink RX8 47 "BridgeAwakeModel" "taken" "[I" ∈ tALL := tALL_in (List.mem_of_getElem? (i := 926) (by decide +kernel)) (by decide +kernel)
theorem wd_466 : Jvm.Cond.fieldLink RX8 50 "BridgeAwakeModel" "newKind" "[I" ∈ tALL := tALL_in (List.mem_of_getElem? (i := 933) (by decide +kernel)) (by decide +kernel)
theorem wd_467 : Jvm.Cond.fieldLink RX8 53 "BridgeAwakeModel" "newLively" "[I" ∈ tALL := tALL_in (List.mem_of_getElem? (i := 934) (by decide +kernel)) (by decide +kernel)
theorem wd_468 : Jvm.Cond.fieldLink RX8 56 "BridgeAwakeModel" "newLasts" "[I" ∈ tALL := tALL_in (List.mem_of_getElem? (i := 935) (by decide +kernel)) (by decide +kernel)
theorem wd_469 : Jvm.Cond.fieldLink RX8 59 "BridgeAwakeModel" "newQuarrels" "[I" ∈ tALL := tALL_in (List.mem_of_getElem? (i := 936) (by decide +kernel)) (by decide +kernel)
theorem wd_470 : Jvm.Cond.fieldLink RX8 62 "BridgeAwakeModel" "pairNumber" "[I" ∈ tALL := tALL_in (List.mem_of_getElem? (i := 937) (by decide +kernel)) (by decide +kernel)
theorem wd_471 : Jvm.Cond.fieldLink RX8 65 "BridgeAwakeModel" "with" "[I" ∈ tALL := tALL_in (List.mem_of_getElem? (i := 943) (by decide +kernel)) (by decide +kernel)
theorem wd_472 : Jvm.Cond.fieldLink RX8 68 "BridgeAwakeModel" "bestWith" "[I" ∈ tALL := tALL_in (List.mem_of_getElem? (i := 944) (by decide +kernel)) (by decide +kernel)
theorem wd_473 : Jvm.Cond.fieldLink RX8 71 "BridgeAwakeModel" "worth" "[I" ∈ tALL := tALL_in (List.mem_of_getElem? (i := 945) (by decide +kernel)) (by decide +kernel)
theorem wd_474 : Jvm.Cond.fieldLink RX8 74 "BridgeAwakeModel" "finding" "I" ∈ tALL := tALL_in (List.mem_of_getElem? (i := 921) (by decide +kernel)) (by decide +kernel)
theorem wd_475 : Jvm.Cond.constantLong RX8 78 5 ∈ tALL := tALL_in (List.mem_of_getElem? (i := 1028) (by decide +kernel)) (by decide +kernel)
theorem wd_476 : Jvm.Cond.methodLink RX8 80 yX8_in ∈ tALL := tALL_in (List.mem_of_getElem? (i := 1029) (by decide +kernel)) (by decide +kernel)
theorem wd_477 : Jvm.Cond.initialized RX8 ∈ tALL := tALL_in (List.mem_of_getElem? (i := 79) (by decide +kernel)) (by decide +kernel)
theorem wd_478 : Jvm.Cond.static yX8_in ∈ tALL := tALL_in (List.mem_of_getElem? (i := 1030) (by decide +kernel)) (by decide +kernel)
theorem wd_479 : Jvm.Cond.constantLong RX8 84 3 ∈ tALL := tALL_in (List.mem_of_getElem? (i := 1067) (by decide +kernel)) (by decide +kernel)
theorem wd_480 : Jvm.Cond.methodLink RX8 86 yX8_isRow ∈ tALL := tALL_in (List.mem_of_getElem? (i := 1025) (by decide +kernel)) (by decide +kernel)
theorem wd_481 : Jvm.Cond.static yX8_isRow ∈ tALL := tALL_in (List.mem_of_getElem? (i := 1026) (by decide +kernel)) (by decide +kernel)
theorem wd_482 : Jvm.Cond.methodLink RX8 90 yX8_refuse ∈ tALL := tALL_in (List.mem_of_getElem? (i := 1032) (by decide +kernel)) (by decide +kernel)
theorem wd_483 : Jvm.Cond.instanceMethod yX8_refuse ∈ tALL := tALL_in (List.mem_of_getElem? (i := 1034) (by decide +kernel)) (by decide +kernel)
theorem wd_484 : Jvm.Cond.selects RX8 yX8_refuse yX8_refuse ∈ tALL := tALL_in (List.mem_of_getElem? (i := 26) (by decide +kernel)) (by decide +kernel)
theorem wd_485 : Jvm.Cond.methodLink RX8 94 yX8_refusedPlace ∈ tALL := tALL_in (List.mem_of_getElem? (i := 1040) (by decide +kernel)) (by decide +kernel)
theorem wd_486 : Jvm.Cond.instanceMethod yX8_refusedPlace ∈ tALL := tALL_in (List.mem_of_getElem? (i := 1042) (by decide +kernel)) (by decide +kernel)
theorem wd_487 : Jvm.Cond.selects RX8 yX8_refusedPlace yX8_refusedPlace ∈ tALL := tALL_in (List.mem_of_getElem? (i := 27) (by decide +kernel)) (by decide +kernel)
theorem wd_488 : Jvm.Cond.fieldLink RX8 98 "BridgeAwakeModel" "asked" "I" ∈ tALL := tALL_in (List.mem_of_getElem? (i := 923) (by decide +kernel)) (by decide +kernel)
theorem wd_489 : Jvm.Cond.methodLink RX8 101 yX8_isText ∈ tALL := tALL_in (List.mem_of_getElem? (i := 1064) (by decide +kernel)) (by decide +kernel)
theorem wd_490 : Jvm.Cond.static yX8_isText ∈ tALL := tALL_in (List.mem_of_getElem? (i := 1065) (by decide +kernel)) (by decide +kernel)
theorem wd_491 : Jvm.Cond.fieldLink RX8 104 "BridgeAwakeModel" "readAt" "I" ∈ tALL := tALL_in (List.mem_of_getElem? (i := 927) (by decide +kernel)) (by decide +kernel)
theorem wd_492 : Jvm.Cond.fieldLink RX8 107 "BridgeAwakeModel" "readText" "I" ∈ tALL := tALL_in (List.mem_of_getElem? (i := 929) (by decide +kernel)) (by decide +kernel)
theorem wd_493 : Jvm.Cond.methodLink RX8 110 yX8_sign ∈ tALL := tALL_in (List.mem_of_getElem? (i := 1084) (by decide +kernel)) (by decide +kernel)
theorem wd_494 : Jvm.Cond.instanceMethod yX8_sign ∈ tALL := tALL_in (List.mem_of_getElem? (i := 1086) (by decide +kernel)) (by decide +kernel)
theorem wd_495 : Jvm.Cond.selects RX8 yX8_sign yX8_sign ∈ tALL := tALL_in (List.mem_of_getElem? (i := 30) (by decide +kernel)) (by decide +kernel)
theorem wd_496 : Jvm.Cond.fieldLink RX8 114 "BridgeAwakeModel" "readFault" "I" ∈ tALL := tALL_in (List.mem_of_getElem? (i := 928) (by decide +kernel)) (by decide +kernel)
theorem wd_497 : Jvm.Cond.constantLong RX8 117 48 ∈ tALL := tALL_in (List.mem_of_getElem? (i := 1100) (by decide +kernel)) (by decide +kernel)
theorem wd_498 : Jvm.Cond.constantLong RX8 119 57 ∈ tALL := tALL_in (List.mem_of_getElem? (i := 1101) (by decide +kernel)) (by decide +kernel)
theorem wd_499 : Jvm.Cond.methodLink RX8 121 yX8_want ∈ tALL := tALL_in (List.mem_of_getElem? (i := 1092) (by decide +kernel)) (by decide +kernel)
theorem wd_500 : Jvm.Cond.instanceMethod yX8_want ∈ tALL := tALL_in (List.mem_of_getElem? (i := 1094) (by decide +kernel)) (by decide +kernel)
theorem wd_501 : Jvm.Cond.selects RX8 yX8_want yX8_want ∈ tALL := tALL_in (List.mem_of_getElem? (i := 32) (by decide +kernel)) (by decide +kernel)
theorem wd_502 : Jvm.Cond.methodLink RX8 125 yX8_figure ∈ tALL := tALL_in (List.mem_of_getElem? (i := 1096) (by decide +kernel)) (by decide +kernel)
theorem wd_503 : Jvm.Cond.instanceMethod yX8_figure ∈ tALL := tALL_in (List.mem_of_getElem? (i := 1098) (by decide +kernel)) (by decide +kernel)
theorem wd_504 : Jvm.Cond.selects RX8 yX8_figure yX8_figure ∈ tALL := tALL_in (List.mem_of_getElem? (i := 33) (by decide +kernel)) (by decide +kernel)
theorem wd_505 : Jvm.Cond.fieldLink RX8 128 "BridgeAwakeModel" "newStrength" "I" ∈ tALL := tALL_in (List.mem_of_getElem? (i := 931) (by decide +kernel)) (by decide +kernel)
theorem wd_506 : Jvm.Cond.fieldLink RX8 131 "BridgeAwakeModel" "newCoffee" "I" ∈ tALL := tALL_in (List.mem_of_getElem? (i := 932) (by decide +kernel)) (by decide +kernel)
theorem wd_507 : Jvm.Cond.fieldLink RX8 134 "BridgeAwakeModel" "newMany" "I" ∈ tALL := tALL_in (List.mem_of_getElem? (i := 930) (by decide +kernel)) (by decide +kernel)
theorem wd_508 : Jvm.Cond.methodLink RX8 137 yX8_blanks ∈ tALL := tALL_in (List.mem_of_getElem? (i := 1080) (by decide +kernel)) (by decide +kernel)
theorem wd_509 : Jvm.Cond.instanceMethod yX8_blanks ∈ tALL := tALL_in (List.mem_of_getElem? (i := 1082) (by decide +kernel)) (by decide +kernel)
theorem wd_510 : Jvm.Cond.selects RX8 yX8_blanks yX8_blanks ∈ tALL := tALL_in (List.mem_of_getElem? (i := 29) (by decide +kernel)) (by decide +kernel)
theorem wd_511 : Jvm.Cond.methodLink RX8 140 yX8_readFirst ∈ tALL := tALL_in (List.mem_of_getElem? (i := 1088) (by decide +kernel)) (by decide +kernel)
theorem wd_512 : Jvm.Cond.instanceMethod yX8_readFirst ∈ tALL := tALL_in (List.mem_of_getElem? (i := 1090) (by decide +kernel)) (by decide +kernel)
theorem wd_513 : Jvm.Cond.selects RX8 yX8_readFirst yX8_readFirst ∈ tALL := tALL_in (List.mem_of_getElem? (i := 31) (by decide +kernel)) (by decide +kernel)
theorem wd_514 : Jvm.Cond.methodLink RX8 143 yX8_kindOf ∈ tALL := tALL_in (List.mem_of_getElem? (i := 1102) (by decide +kernel)) (by decide +kernel)
theorem wd_515 : Jvm.Cond.static yX8_kindOf ∈ tALL := tALL_in (List.mem_of_getElem? (i := 1103) (by decide +kernel)) (by decide +kernel)
theorem wd_516 : Jvm.Cond.methodLink RX8 150 yX8_readQuarrel ∈ tALL := tALL_in (List.mem_of_getElem? (i := 1109) (by decide +kernel)) (by decide +kernel)
theorem wd_517 : Jvm.Cond.instanceMethod yX8_readQuarrel ∈ tALL := tALL_in (List.mem_of_getElem? (i := 1111) (by decide +kernel)) (by decide +kernel)
theorem wd_518 : Jvm.Cond.selects RX8 yX8_readQuarrel yX8_readQuarrel ∈ tALL := tALL_in (List.mem_of_getElem? (i := 35) (by decide +kernel)) (by decide +kernel)
theorem wd_519 : Jvm.Cond.methodLink RX8 146 yX8_readOne ∈ tALL := tALL_in (List.mem_of_getElem? (i := 1105) (by decide +kernel)) (by decide +kernel)
theorem wd_520 : Jvm.Cond.instanceMethod yX8_readOne ∈ tALL := tALL_in (List.mem_of_getElem? (i := 1107) (by decide +kernel)) (by decide +kernel)
theorem wd_521 : Jvm.Cond.selects RX8 yX8_readOne yX8_readOne ∈ tALL := tALL_in (List.mem_of_getElem? (i := 34) (by decide +kernel)) (by decide +kernel)
theorem wd_522 : Jvm.Cond.methodLink RX8 153 yX8_read ∈ tALL := tALL_in (List.mem_of_getElem? (i := 1076) (by decide +kernel)) (by decide +kernel)
theorem wd_523 : Jvm.Cond.instanceMethod yX8_read ∈ tALL := tALL_in (List.mem_of_getElem? (i := 1078) (by decide +kernel)) (by decide +kernel)
theorem wd_524 : Jvm.Cond.selects RX8 yX8_read yX8_read ∈ tALL := tALL_in (List.mem_of_getElem? (i := 28) (by decide +kernel)) (by decide +kernel)
theorem wd_525 : Jvm.Cond.fieldLink RX8 156 "BridgeAwakeModel" "many" "I" ∈ tALL := tALL_in (List.mem_of_getElem? (i := 919) (by decide +kernel)) (by decide +kernel)
theorem wd_526 : Jvm.Cond.fieldLink RX8 159 "BridgeAwakeModel" "deeds" "I" ∈ tALL := tALL_in (List.mem_of_getElem? (i := 920) (by decide +kernel)) (by decide +kernel)
theorem wd_527 : Jvm.Cond.methodLink RX8 162 yX8_most ∈ tALL := tALL_in (List.mem_of_getElem? (i := 1143) (by decide +kernel)) (by decide +kernel)
theorem wd_528 : Jvm.Cond.static yX8_most ∈ tALL := tALL_in (List.mem_of_getElem? (i := 1144) (by decide +kernel)) (by decide +kernel)
theorem wd_529 : Jvm.Cond.methodLink RX8 165 yX8_talker ∈ tALL := tALL_in (List.mem_of_getElem? (i := 1140) (by decide +kernel)) (by decide +kernel)
theorem wd_530 : Jvm.Cond.static yX8_talker ∈ tALL := tALL_in (List.mem_of_getElem? (i := 1141) (by decide +kernel)) (by decide +kernel)
theorem wd_531 : Jvm.Cond.methodLink RX8 169 yX8_hourIn ∈ tALL := tALL_in (List.mem_of_getElem? (i := 1133) (by decide +kernel)) (by decide +kernel)
theorem wd_532 : Jvm.Cond.instanceMethod yX8_hourIn ∈ tALL := tALL_in (List.mem_of_getElem? (i := 1135) (by decide +kernel)) (by decide +kernel)
theorem wd_533 : Jvm.Cond.selects RX8 yX8_hourIn yX8_hourIn ∈ tALL := tALL_in (List.mem_of_getElem? (i := 39) (by decide +kernel)) (by decide +kernel)
theorem wd_534 : Jvm.Cond.methodLink RX8 172 yX8_tells ∈ tALL := tALL_in (List.mem_of_getElem? (i := 1137) (by decide +kernel)) (by decide +kernel)
theorem wd_535 : Jvm.Cond.static yX8_tells ∈ tALL := tALL_in (List.mem_of_getElem? (i := 1138) (by decide +kernel)) (by decide +kernel)
theorem wd_536 : Jvm.Cond.methodLink RX8 176 yX8_tellsIn ∈ tALL := tALL_in (List.mem_of_getElem? (i := 1129) (by decide +kernel)) (by decide +kernel)
theorem wd_537 : Jvm.Cond.instanceMethod yX8_tellsIn ∈ tALL := tALL_in (List.mem_of_getElem? (i := 1131) (by decide +kernel)) (by decide +kernel)
theorem wd_538 : Jvm.Cond.selects RX8 yX8_tellsIn yX8_tellsIn ∈ tALL := tALL_in (List.mem_of_getElem? (i := 38) (by decide +kernel)) (by decide +kernel)
theorem wd_539 : Jvm.Cond.methodLink RX8 179 yX8_has ∈ tALL := tALL_in (List.mem_of_getElem? (i := 1161) (by decide +kernel)) (by decide +kernel)
theorem wd_540 : Jvm.Cond.static yX8_has ∈ tALL := tALL_in (List.mem_of_getElem? (i := 1162) (by decide +kernel)) (by decide +kernel)
theorem wd_541 : Jvm.Cond.methodLink RX8 183 yX8_bothIn ∈ tALL := tALL_in (List.mem_of_getElem? (i := 1157) (by decide +kernel)) (by decide +kernel)
theorem wd_542 : Jvm.Cond.instanceMethod yX8_bothIn ∈ tALL := tALL_in (List.mem_of_getElem? (i := 1159) (by decide +kernel)) (by decide +kernel)
theorem wd_543 : Jvm.Cond.selects RX8 yX8_bothIn yX8_bothIn ∈ tALL := tALL_in (List.mem_of_getElem? (i := 41) (by decide +kernel)) (by decide +kernel)
theorem wd_544 : Jvm.Cond.methodLink RX8 186 yX8_isOne ∈ tALL := tALL_in (List.mem_of_getElem? (i := 1121) (by decide +kernel)) (by decide +kernel)
theorem wd_545 : Jvm.Cond.instanceMethod yX8_isOne ∈ tALL := tALL_in (List.mem_of_getElem? (i := 1123) (by decide +kernel)) (by decide +kernel)
theorem wd_546 : Jvm.Cond.selects RX8 yX8_isOne yX8_isOne ∈ tALL := tALL_in (List.mem_of_getElem? (i := 36) (by decide +kernel)) (by decide +kernel)
theorem wd_547 : Jvm.Cond.methodLink RX8 189 yX8_told ∈ tALL := tALL_in (List.mem_of_getElem? (i := 1125) (by decide +kernel)) (by decide +kernel)
theorem wd_548 : Jvm.Cond.instanceMethod yX8_told ∈ tALL := tALL_in (List.mem_of_getElem? (i := 1127) (by decide +kernel)) (by decide +kernel)
theorem wd_549 : Jvm.Cond.selects RX8 yX8_told yX8_told ∈ tALL := tALL_in (List.mem_of_getElem? (i := 37) (by decide +kernel)) (by decide +kernel)
theorem wd_550 : Jvm.Cond.methodLink RX8 192 yX8_isOf ∈ tALL := tALL_in (List.mem_of_getElem? (i := 1150) (by decide +kernel)) (by decide +kernel)
theorem wd_551 : Jvm.Cond.static yX8_isOf ∈ tALL := tALL_in (List.mem_of_getElem? (i := 1151) (by decide +kernel)) (by decide +kernel)
theorem wd_552 : Jvm.Cond.methodLink RX8 195 yX8_halves ∈ tALL := tALL_in (List.mem_of_getElem? (i := 1153) (by decide +kernel)) (by decide +kernel)
theorem wd_553 : Jvm.Cond.instanceMethod yX8_halves ∈ tALL := tALL_in (List.mem_of_getElem? (i := 1155) (by decide +kernel)) (by decide +kernel)
theorem wd_554 : Jvm.Cond.selects RX8 yX8_halves yX8_halves ∈ tALL := tALL_in (List.mem_of_getElem? (i := 40) (by decide +kernel)) (by decide +kernel)
theorem wd_555 : Jvm.Cond.methodLink RX8 198 yX8_isPair ∈ tALL := tALL_in (List.mem_of_getElem? (i := 1168) (by decide +kernel)) (by decide +kernel)
theorem wd_556 : Jvm.Cond.instanceMethod yX8_isPair ∈ tALL := tALL_in (List.mem_of_getElem? (i := 1170) (by decide +kernel)) (by decide +kernel)
theorem wd_557 : Jvm.Cond.selects RX8 yX8_isPair yX8_isPair ∈ tALL := tALL_in (List.mem_of_getElem? (i := 42) (by decide +kernel)) (by decide +kernel)
theorem wd_558 : Jvm.Cond.methodLink RX8 201 yX8_talkIn ∈ tALL := tALL_in (List.mem_of_getElem? (i := 1172) (by decide +kernel)) (by decide +kernel)
theorem wd_559 : Jvm.Cond.instanceMethod yX8_talkIn ∈ tALL := tALL_in (List.mem_of_getElem? (i := 1174) (by decide +kernel)) (by decide +kernel)
theorem wd_560 : Jvm.Cond.selects RX8 yX8_talkIn yX8_talkIn ∈ tALL := tALL_in (List.mem_of_getElem? (i := 43) (by decide +kernel)) (by decide +kernel)
theorem wd_561 : Jvm.Cond.methodLink RX8 204 yX8_take ∈ tALL := tALL_in (List.mem_of_getElem? (i := 1184) (by decide +kernel)) (by decide +kernel)
theorem wd_562 : Jvm.Cond.instanceMethod yX8_take ∈ tALL := tALL_in (List.mem_of_getElem? (i := 1186) (by decide +kernel)) (by decide +kernel)
theorem wd_563 : Jvm.Cond.selects RX8 yX8_take yX8_take ∈ tALL := tALL_in (List.mem_of_getElem? (i := 45) (by decide +kernel)) (by decide +kernel)
theorem wd_564 : Jvm.Cond.methodLink RX8 208 yX8_least ∈ tALL := tALL_in (List.mem_of_getElem? (i := 1192) (by decide +kernel)) (by decide +kernel)
theorem wd_565 : Jvm.Cond.static yX8_least ∈ tALL := tALL_in (List.mem_of_getElem? (i := 1193) (by decide +kernel)) (by decide +kernel)
theorem wd_566 : Jvm.Cond.methodLink RX8 211 yX8_remember ∈ tALL := tALL_in (List.mem_of_getElem? (i := 1180) (by decide +kernel)) (by decide +kernel)
theorem wd_567 : Jvm.Cond.instanceMethod yX8_remember ∈ tALL := tALL_in (List.mem_of_getElem? (i := 1182) (by decide +kernel)) (by decide +kernel)
theorem wd_568 : Jvm.Cond.selects RX8 yX8_remember yX8_remember ∈ tALL := tALL_in (List.mem_of_getElem? (i := 44) (by decide +kernel)) (by decide +kernel)
theorem wd_569 : Jvm.Cond.methodLink RX8 214 yX8_watchIn ∈ tALL := tALL_in (List.mem_of_getElem? (i := 1188) (by decide +kernel)) (by decide +kernel)
theorem wd_570 : Jvm.Cond.instanceMethod yX8_watchIn ∈ tALL := tALL_in (List.mem_of_getElem? (i := 1190) (by decide +kernel)) (by decide +kernel)
theorem wd_571 : Jvm.Cond.selects RX8 yX8_watchIn yX8_watchIn ∈ tALL := tALL_in (List.mem_of_getElem? (i := 46) (by decide +kernel)) (by decide +kernel)
theorem wd_572 : Jvm.Cond.constantLong RX8 217 60 ∈ tALL := tALL_in (List.mem_of_getElem? (i := 1199) (by decide +kernel)) (by decide +kernel)
theorem wd_573 : Jvm.Cond.methodLink RX8 219 yX8_send ∈ tALL := tALL_in (List.mem_of_getElem? (i := 1200) (by decide +kernel)) (by decide +kernel)
theorem wd_574 : Jvm.Cond.instanceMethod yX8_send ∈ tALL := tALL_in (List.mem_of_getElem? (i := 1202) (by decide +kernel)) (by decide +kernel)
theorem wd_575 : Jvm.Cond.selects RX8 yX8_send yX8_send ∈ tALL := tALL_in (List.mem_of_getElem? (i := 47) (by decide +kernel)) (by decide +kernel)
theorem wd_576 : Jvm.Cond.constantLong RX8 222 2 ∈ tALL := tALL_in (List.mem_of_getElem? (i := 1216) (by decide +kernel)) (by decide +kernel)
theorem wd_577 : Jvm.Cond.fieldLink RX8 224 "BridgeAwakeModel" "pairMany" "I" ∈ tALL := tALL_in (List.mem_of_getElem? (i := 938) (by decide +kernel)) (by decide +kernel)
theorem wd_578 : Jvm.Cond.methodLink RX8 227 yX8_pairOf ∈ tALL := tALL_in (List.mem_of_getElem? (i := 1237) (by decide +kernel)) (by decide +kernel)
theorem wd_579 : Jvm.Cond.instanceMethod yX8_pairOf ∈ tALL := tALL_in (List.mem_of_getElem? (i := 1239) (by decide +kernel)) (by decide +kernel)
theorem wd_580 : Jvm.Cond.selects RX8 yX8_pairOf yX8_pairOf ∈ tALL := tALL_in (List.mem_of_getElem? (i := 51) (by decide +kernel)) (by decide +kernel)
theorem wd_581 : Jvm.Cond.methodLink RX8 230 yX8_watchBy ∈ tALL := tALL_in (List.mem_of_getElem? (i := 1241) (by decide +kernel)) (by decide +kernel)
theorem wd_582 : Jvm.Cond.instanceMethod yX8_watchBy ∈ tALL := tALL_in (List.mem_of_getElem? (i := 1243) (by decide +kernel)) (by decide +kernel)
theorem wd_583 : Jvm.Cond.selects RX8 yX8_watchBy yX8_watchBy ∈ tALL := tALL_in (List.mem_of_getElem? (i := 52) (by decide +kernel)) (by decide +kernel)
theorem wd_584 : Jvm.Cond.methodLink RX8 233 yX8_layPairs ∈ tALL := tALL_in (List.mem_of_getElem? (i := 1225) (by decide +kernel)) (by decide +kernel)
theorem wd_585 : Jvm.Cond.instanceMethod yX8_layPairs ∈ tALL := tALL_in (List.mem_of_getElem? (i := 1227) (by decide +kernel)) (by decide +kernel)
theorem wd_586 : Jvm.Cond.selects RX8 yX8_layPairs yX8_layPairs ∈ tALL := tALL_in (List.mem_of_getElem? (i := 48) (by decide +kernel)) (by decide +kernel)
theorem wd_587 : Jvm.Cond.methodLink RX8 242 yX8_newRow ∈ tALL := tALL_in (List.mem_of_getElem? (i := 1245) (by decide +kernel)) (by decide +kernel)
theorem wd_588 : Jvm.Cond.instanceMethod yX8_newRow ∈ tALL := tALL_in (List.mem_of_getElem? (i := 1247) (by decide +kernel)) (by decide +kernel)
theorem wd_589 : Jvm.Cond.selects RX8 yX8_newRow yX8_newRow ∈ tALL := tALL_in (List.mem_of_getElem? (i := 53) (by decide +kernel)) (by decide +kernel)
theorem wd_590 : Jvm.Cond.methodLink RX8 236 yX8_ways ∈ tALL := tALL_in (List.mem_of_getElem? (i := 1229) (by decide +kernel)) (by decide +kernel)
theorem wd_591 : Jvm.Cond.instanceMethod yX8_ways ∈ tALL := tALL_in (List.mem_of_getElem? (i := 1231) (by decide +kernel)) (by decide +kernel)
theorem wd_592 : Jvm.Cond.selects RX8 yX8_ways yX8_ways ∈ tALL := tALL_in (List.mem_of_getElem? (i := 49) (by decide +kernel)) (by decide +kernel)
theorem wd_593 : Jvm.Cond.methodLink RX8 239 yX8_behind ∈ tALL := tALL_in (List.mem_of_getElem? (i := 1233) (by decide +kernel)) (by decide +kernel)
theorem wd_594 : Jvm.Cond.instanceMethod yX8_behind ∈ tALL := tALL_in (List.mem_of_getElem? (i := 1235) (by decide +kernel)) (by decide +kernel)
theorem wd_595 : Jvm.Cond.selects RX8 yX8_behind yX8_behind ∈ tALL := tALL_in (List.mem_of_getElem? (i := 50) (by decide +kernel)) (by decide +kernel)
theorem wd_596 : Jvm.Cond.methodLink RX8 246 yX8_isNumber ∈ tALL := tALL_in (List.mem_of_getElem? (i := 1257) (by decide +kernel)) (by decide +kernel)
theorem wd_597 : Jvm.Cond.instanceMethod yX8_isNumber ∈ tALL := tALL_in (List.mem_of_getElem? (i := 1259) (by decide +kernel)) (by decide +kernel)
theorem wd_598 : Jvm.Cond.selects RX8 yX8_isNumber yX8_isNumber ∈ tALL := tALL_in (List.mem_of_getElem? (i := 55) (by decide +kernel)) (by decide +kernel)
theorem wd_599 : Jvm.Cond.methodLink RX8 249 yX8_refusedWatches ∈ tALL := tALL_in (List.mem_of_getElem? (i := 1253) (by decide +kernel)) (by decide +kernel)
theorem wd_600 : Jvm.Cond.instanceMethod yX8_refusedWatches ∈ tALL := tALL_in (List.mem_of_getElem? (i := 1255) (by decide +kernel)) (by decide +kernel)
theorem wd_601 : Jvm.Cond.selects RX8 yX8_refusedWatches yX8_refusedWatches ∈ tALL := tALL_in (List.mem_of_getElem? (i := 54) (by decide +kernel)) (by decide +kernel)
theorem wd_602 : Jvm.Cond.methodLink RX8 252 yX8_refusedStrengths ∈ tALL := tALL_in (List.mem_of_getElem? (i := 1269) (by decide +kernel)) (by decide +kernel)
theorem wd_603 : Jvm.Cond.instanceMethod yX8_refusedStrengths ∈ tALL := tALL_in (List.mem_of_getElem? (i := 1271) (by decide +kernel)) (by decide +kernel)
theorem wd_604 : Jvm.Cond.selects RX8 yX8_refusedStrengths yX8_refusedStrengths ∈ tALL := tALL_in (List.mem_of_getElem? (i := 56) (by decide +kernel)) (by decide +kernel)
theorem wd_605 : Jvm.Cond.methodLink RX8 255 yX8_peopleOf ∈ tALL := tALL_in (List.mem_of_getElem? (i := 1273) (by decide +kernel)) (by decide +kernel)
theorem wd_606 : Jvm.Cond.instanceMethod yX8_peopleOf ∈ tALL := tALL_in (List.mem_of_getElem? (i := 1275) (by decide +kernel)) (by decide +kernel)
theorem wd_607 : Jvm.Cond.selects RX8 yX8_peopleOf yX8_peopleOf ∈ tALL := tALL_in (List.mem_of_getElem? (i := 57) (by decide +kernel)) (by decide +kernel)
theorem wd_608 : Jvm.Cond.methodLink RX8 258 yX8_howMany ∈ tALL := tALL_in (List.mem_of_getElem? (i := 1277) (by decide +kernel)) (by decide +kernel)
theorem wd_609 : Jvm.Cond.static yX8_howMany ∈ tALL := tALL_in (List.mem_of_getElem? (i := 1278) (by decide +kernel)) (by decide +kernel)
theorem wd_610 : Jvm.Cond.methodLink RX8 261 yX8_isSo ∈ tALL := tALL_in (List.mem_of_getElem? (i := 1280) (by decide +kernel)) (by decide +kernel)
theorem wd_611 : Jvm.Cond.instanceMethod yX8_isSo ∈ tALL := tALL_in (List.mem_of_getElem? (i := 1282) (by decide +kernel)) (by decide +kernel)
theorem wd_612 : Jvm.Cond.selects RX8 yX8_isSo yX8_isSo ∈ tALL := tALL_in (List.mem_of_getElem? (i := 58) (by decide +kernel)) (by decide +kernel)
theorem wd_613 : Jvm.Cond.fieldLink RX8 265 "BridgeAwakeModel" "soMany" "I" ∈ tALL := tALL_in (List.mem_of_getElem? (i := 939) (by decide +kernel)) (by decide +kernel)
theorem wd_614 : Jvm.Cond.fieldLink RX8 268 "BridgeAwakeModel" "soFirst" "I" ∈ tALL := tALL_in (List.mem_of_getElem? (i := 940) (by decide +kernel)) (by decide +kernel)
theorem wd_615 : Jvm.Cond.fieldLink RX8 271 "BridgeAwakeModel" "inAll" "I" ∈ tALL := tALL_in (List.mem_of_getElem? (i := 941) (by decide +kernel)) (by decide +kernel)
theorem wd_616 : Jvm.Cond.fieldLink RX8 274 "BridgeAwakeModel" "inSome" "I" ∈ tALL := tALL_in (List.mem_of_getElem? (i := 942) (by decide +kernel)) (by decide +kernel)
theorem wd_617 : Jvm.Cond.methodLink RX8 277 yX8_laySo ∈ tALL := tALL_in (List.mem_of_getElem? (i := 1288) (by decide +kernel)) (by decide +kernel)
theorem wd_618 : Jvm.Cond.instanceMethod yX8_laySo ∈ tALL := tALL_in (List.mem_of_getElem? (i := 1290) (by decide +kernel)) (by decide +kernel)
theorem wd_619 : Jvm.Cond.selects RX8 yX8_laySo yX8_laySo ∈ tALL := tALL_in (List.mem_of_getElem? (i := 59) (by decide +kernel)) (by decide +kernel)
theorem wd_620 : Jvm.Cond.fieldLink RX8 280 "BridgeAwakeModel" "upper" "J" ∈ tALL := tALL_in (List.mem_of_getElem? (i := 924) (by decide +kernel)) (by decide +kernel)
theorem wd_621 : Jvm.Cond.constantLong RX8 283 30 ∈ tALL := tALL_in (List.mem_of_getElem? (i := 1304) (by decide +kernel)) (by decide +kernel)
theorem wd_622 : Jvm.Cond.constantLong RX8 285 11 ∈ tALL := tALL_in (List.mem_of_getElem? (i := 1305) (by decide +kernel)) (by decide +kernel)
theorem wd_623 : Jvm.Cond.constantLong RX8 287 15 ∈ tALL := tALL_in (List.mem_of_getElem? (i := 1306) (by decide +kernel)) (by decide +kernel)
theorem wd_624 : Jvm.Cond.methodLink RX8 289 yX8_refusedTriples ∈ tALL := tALL_in (List.mem_of_getElem? (i := 1300) (by decide +kernel)) (by decide +kernel)
theorem wd_625 : Jvm.Cond.instanceMethod yX8_refusedTriples ∈ tALL := tALL_in (List.mem_of_getElem? (i := 1302) (by decide +kernel)) (by decide +kernel)
theorem wd_626 : Jvm.Cond.selects RX8 yX8_refusedTriples yX8_refusedTriples ∈ tALL := tALL_in (List.mem_of_getElem? (i := 60) (by decide +kernel)) (by decide +kernel)
theorem wd_627 : Jvm.Cond.methodLink RX8 292 yX8_fits ∈ tALL := tALL_in (List.mem_of_getElem? (i := 1307) (by decide +kernel)) (by decide +kernel)
theorem wd_628 : Jvm.Cond.instanceMethod yX8_fits ∈ tALL := tALL_in (List.mem_of_getElem? (i := 1309) (by decide +kernel)) (by decide +kernel)
theorem wd_629 : Jvm.Cond.selects RX8 yX8_fits yX8_fits ∈ tALL := tALL_in (List.mem_of_getElem? (i := 61) (by decide +kernel)) (by decide +kernel)
theorem wd_630 : Jvm.Cond.methodLink RX8 296 yX8_kindsBy ∈ tALL := tALL_in (List.mem_of_getElem? (i := 1315) (by decide +kernel)) (by decide +kernel)
theorem wd_631 : Jvm.Cond.instanceMethod yX8_kindsBy ∈ tALL := tALL_in (List.mem_of_getElem? (i := 1317) (by decide +kernel)) (by decide +kernel)
theorem wd_632 : Jvm.Cond.selects RX8 yX8_kindsBy yX8_kindsBy ∈ tALL := tALL_in (List.mem_of_getElem? (i := 62) (by decide +kernel)) (by decide +kernel)
theorem wd_633 : Jvm.Cond.methodLink RX8 299 yX8_greatestPart ∈ tALL := tALL_in (List.mem_of_getElem? (i := 1323) (by decide +kernel)) (by decide +kernel)
theorem wd_634 : Jvm.Cond.instanceMethod yX8_greatestPart ∈ tALL := tALL_in (List.mem_of_getElem? (i := 1325) (by decide +kernel)) (by decide +kernel)
theorem wd_635 : Jvm.Cond.selects RX8 yX8_greatestPart yX8_greatestPart ∈ tALL := tALL_in (List.mem_of_getElem? (i := 63) (by decide +kernel)) (by decide +kernel)
theorem wd_636 : Jvm.Cond.methodLink RX8 302 yX8_layWay ∈ tALL := tALL_in (List.mem_of_getElem? (i := 1331) (by decide +kernel)) (by decide +kernel)
theorem wd_637 : Jvm.Cond.instanceMethod yX8_layWay ∈ tALL := tALL_in (List.mem_of_getElem? (i := 1333) (by decide +kernel)) (by decide +kernel)
theorem wd_638 : Jvm.Cond.selects RX8 yX8_layWay yX8_layWay ∈ tALL := tALL_in (List.mem_of_getElem? (i := 64) (by decide +kernel)) (by decide +kernel)
theorem wd_639 : Jvm.Cond.methodLink RX8 305 yX8_isAhead ∈ tALL := tALL_in (List.mem_of_getElem? (i := 1335) (by decide +kernel)) (by decide +kernel)
theorem wd_640 : Jvm.Cond.instanceMethod yX8_isAhead ∈ tALL := tALL_in (List.mem_of_getElem? (i := 1337) (by decide +kernel)) (by decide +kernel)
theorem wd_641 : Jvm.Cond.selects RX8 yX8_isAhead yX8_isAhead ∈ tALL := tALL_in (List.mem_of_getElem? (i := 65) (by decide +kernel)) (by decide +kernel)
theorem wd_642 : Jvm.Cond.methodLink RX8 309 yX8_divisor ∈ tALL := tALL_in (List.mem_of_getElem? (i := 1360) (by decide +kernel)) (by decide +kernel)
theorem wd_643 : Jvm.Cond.static yX8_divisor ∈ tALL := tALL_in (List.mem_of_getElem? (i := 1361) (by decide +kernel)) (by decide +kernel)
theorem wd_644 : Jvm.Cond.constantLong RX8 313 12 ∈ tALL := tALL_in (List.mem_of_getElem? (i := 1347) (by decide +kernel)) (by decide +kernel)
theorem wd_645 : Jvm.Cond.constantLong RX8 321 144 ∈ tALL := tALL_in (List.mem_of_getElem? (i := 1355) (by decide +kernel)) (by decide +kernel)
theorem wd_646 : Jvm.Cond.methodLink RX8 323 yX8_tell ∈ tALL := tALL_in (List.mem_of_getElem? (i := 1356) (by decide +kernel)) (by decide +kernel)
theorem wd_647 : Jvm.Cond.instanceMethod yX8_tell ∈ tALL := tALL_in (List.mem_of_getElem? (i := 1358) (by decide +kernel)) (by decide +kernel)
theorem wd_648 : Jvm.Cond.selects RX8 yX8_tell yX8_tell ∈ tALL := tALL_in (List.mem_of_getElem? (i := 67) (by decide +kernel)) (by decide +kernel)
theorem wd_649 : Jvm.Cond.methodLink RX8 315 yX8_strength ∈ tALL := tALL_in (List.mem_of_getElem? (i := 1348) (by decide +kernel)) (by decide +kernel)
theorem wd_650 : Jvm.Cond.instanceMethod yX8_strength ∈ tALL := tALL_in (List.mem_of_getElem? (i := 1350) (by decide +kernel)) (by decide +kernel)
theorem wd_651 : Jvm.Cond.selects RX8 yX8_strength yX8_strength ∈ tALL := tALL_in (List.mem_of_getElem? (i := 66) (by decide +kernel)) (by decide +kernel)
theorem wd_652 : Jvm.Cond.methodLink RX8 318 yX8_weight ∈ tALL := tALL_in (List.mem_of_getElem? (i := 1352) (by decide +kernel)) (by decide +kernel)
theorem wd_653 : Jvm.Cond.static yX8_weight ∈ tALL := tALL_in (List.mem_of_getElem? (i := 1353) (by decide +kernel)) (by decide +kernel)
theorem wd_654 : Jvm.Cond.constantLong RX8 327 20 ∈ tALL := tALL_in (List.mem_of_getElem? (i := 1371) (by decide +kernel)) (by decide +kernel)
theorem wd_655 : Jvm.Cond.constantLong RX8 329 2147483646 ∈ tALL := tALL_in (List.mem_of_getElem? (i := 1372) (by decide +kernel)) (by decide +kernel)
theorem wd_656 : Jvm.Cond.constantLong RX8 331 48271 ∈ tALL := tALL_in (List.mem_of_getElem? (i := 1373) (by decide +kernel)) (by decide +kernel)
theorem wd_657 : Jvm.Cond.constantLong RX8 333 2147483647 ∈ tALL := tALL_in (List.mem_of_getElem? (i := 1374) (by decide +kernel)) (by decide +kernel)
theorem wd_658 : Jvm.Cond.constantLong RX8 335 4 ∈ tALL := tALL_in (List.mem_of_getElem? (i := 1375) (by decide +kernel)) (by decide +kernel)
theorem wd_659 : Jvm.Cond.constantLong RX8 337 8 ∈ tALL := tALL_in (List.mem_of_getElem? (i := 1376) (by decide +kernel)) (by decide +kernel)
theorem wd_660 : Jvm.Cond.constantLong RX8 339 64 ∈ tALL := tALL_in (List.mem_of_getElem? (i := 1377) (by decide +kernel)) (by decide +kernel)
theorem wd_661 : Jvm.Cond.methodLink RX8 341 yX8_lovers ∈ tALL := tALL_in (List.mem_of_getElem? (i := 1394) (by decide +kernel)) (by decide +kernel)
theorem wd_662 : Jvm.Cond.instanceMethod yX8_lovers ∈ tALL := tALL_in (List.mem_of_getElem? (i := 1396) (by decide +kernel)) (by decide +kernel)
theorem wd_663 : Jvm.Cond.selects RX8 yX8_lovers yX8_lovers ∈ tALL := tALL_in (List.mem_of_getElem? (i := 68) (by decide +kernel)) (by decide +kernel)
theorem wd_664 : Jvm.Cond.methodLink RX8 344 yX8_there ∈ tALL := tALL_in (List.mem_of_getElem? (i := 1398) (by decide +kernel)) (by decide +kernel)
theorem wd_665 : Jvm.Cond.static yX8_there ∈ tALL := tALL_in (List.mem_of_getElem? (i := 1399) (by decide +kernel)) (by decide +kernel)
theorem wd_666 : Jvm.Cond.constantLong RX8 348 31 ∈ tALL := tALL_in (List.mem_of_getElem? (i := 1414) (by decide +kernel)) (by decide +kernel)
theorem wd_667 : Jvm.Cond.constantLong RX8 350 17 ∈ tALL := tALL_in (List.mem_of_getElem? (i := 1413) (by decide +kernel)) (by decide +kernel)
theorem wd_668 : Jvm.Cond.methodLink RX8 355 yX8_mixAll ∈ tALL := tALL_in (List.mem_of_getElem? (i := 1416) (by decide +kernel)) (by decide +kernel)
theorem wd_669 : Jvm.Cond.static yX8_mixAll ∈ tALL := tALL_in (List.mem_of_getElem? (i := 1417) (by decide +kernel)) (by decide +kernel)
theorem wd_670 : Jvm.Cond.methodLink RX8 352 yX8_count ∈ tALL := tALL_in (List.mem_of_getElem? (i := 1415) (by decide +kernel)) (by decide +kernel)
theorem wd_671 : Jvm.Cond.instanceMethod yX8_count ∈ tALL := tALL_in (List.mem_of_getElem? (i := 1391) (by decide +kernel)) (by decide +kernel)
theorem wd_672 : Jvm.Cond.selects RX8 yX8_count yX8_count ∈ tALL := tALL_in (List.mem_of_getElem? (i := 1392) (by decide +kernel)) (by decide +kernel)
theorem wd_673 : Jvm.Cond.constant RJ6 265 1431655765 ∈ tALL := tALL_in (List.mem_of_getElem? (i := 733) (by decide +kernel)) (by decide +kernel)
theorem wd_674 : Jvm.Cond.constant RJ6 266 858993459 ∈ tALL := tALL_in (List.mem_of_getElem? (i := 734) (by decide +kernel)) (by decide +kernel)
theorem wd_675 : Jvm.Cond.constant RJ6 267 252645135 ∈ tALL := tALL_in (List.mem_of_getElem? (i := 735) (by decide +kernel)) (by decide +kernel)
theorem wd_676 : Jvm.Cond.classLink RL 7 RX7 ∈ tALL := tALL_in (List.mem_of_getElem? (i := 83) (by decide +kernel)) (by decide +kernel)
theorem wd_677 : Jvm.Cond.instantiable RX7 13 ∈ tALL := tALL_in (List.mem_of_getElem? (i := 84) (by decide +kernel)) (by decide +kernel)
theorem wd_678 : Jvm.Cond.methodLink RL 9 yX7_init ∈ tALL := tALL_in (List.mem_of_getElem? (i := 85) (by decide +kernel)) (by decide +kernel)
theorem wd_679 : Jvm.Cond.instanceMethod yX7_init ∈ tALL := tALL_in (List.mem_of_getElem? (i := 86) (by decide +kernel)) (by decide +kernel)
theorem wd_680 : Jvm.Cond.classLink RL 10 RX8 ∈ tALL := tALL_in (List.mem_of_getElem? (i := 903) (by decide +kernel)) (by decide +kernel)
theorem wd_681 : Jvm.Cond.instantiable RX8 37 ∈ tALL := tALL_in (List.mem_of_getElem? (i := 904) (by decide +kernel)) (by decide +kernel)
theorem wd_682 : Jvm.Cond.methodLink RL 12 yX8_init ∈ tALL := tALL_in (List.mem_of_getElem? (i := 905) (by decide +kernel)) (by decide +kernel)
theorem wd_683 : Jvm.Cond.instanceMethod yX8_init ∈ tALL := tALL_in (List.mem_of_getElem? (i := 906) (by decide +kernel)) (by decide +kernel)
theorem wd_684 : Jvm.Cond.methodLink RL 13 yX7_row ∈ tALL := tALL_in (List.mem_of_getElem? (i := 349) (by decide +kernel)) (by decide +kernel)
theorem wd_685 : Jvm.Cond.instanceMethod yX7_row ∈ tALL := tALL_in (List.mem_of_getElem? (i := 350) (by decide +kernel)) (by decide +kernel)
theorem wd_686 : Jvm.Cond.selects RX7 yX7_row yX7_row ∈ tALL := tALL_in (List.mem_of_getElem? (i := 351) (by decide +kernel)) (by decide +kernel)
theorem wd_687 : Jvm.Cond.methodLink RL 17 yX8_row ∈ tALL := tALL_in (List.mem_of_getElem? (i := 1021) (by decide +kernel)) (by decide +kernel)
theorem wd_688 : Jvm.Cond.instanceMethod yX8_row ∈ tALL := tALL_in (List.mem_of_getElem? (i := 1022) (by decide +kernel)) (by decide +kernel)
theorem wd_689 : Jvm.Cond.selects RX8 yX8_row yX8_row ∈ tALL := tALL_in (List.mem_of_getElem? (i := 1023) (by decide +kernel)) (by decide +kernel)
theorem wd_690 : Jvm.Cond.methodLink RL 18 yX7_lay ∈ tALL := tALL_in (List.mem_of_getElem? (i := 370) (by decide +kernel)) (by decide +kernel)
theorem wd_691 : Jvm.Cond.instanceMethod yX7_lay ∈ tALL := tALL_in (List.mem_of_getElem? (i := 371) (by decide +kernel)) (by decide +kernel)
theorem wd_692 : Jvm.Cond.selects RX7 yX7_lay yX7_lay ∈ tALL := tALL_in (List.mem_of_getElem? (i := 372) (by decide +kernel)) (by decide +kernel)
theorem wd_693 : Jvm.Cond.methodLink RL 22 yX8_lay ∈ tALL := tALL_in (List.mem_of_getElem? (i := 1036) (by decide +kernel)) (by decide +kernel)
theorem wd_694 : Jvm.Cond.instanceMethod yX8_lay ∈ tALL := tALL_in (List.mem_of_getElem? (i := 1037) (by decide +kernel)) (by decide +kernel)
theorem wd_695 : Jvm.Cond.selects RX8 yX8_lay yX8_lay ∈ tALL := tALL_in (List.mem_of_getElem? (i := 1038) (by decide +kernel)) (by decide +kernel)
theorem wd_696 : Jvm.Cond.methodLink RL 23 yX7_at ∈ tALL := tALL_in (List.mem_of_getElem? (i := 395) (by decide +kernel)) (by decide +kernel)
theorem wd_697 : Jvm.Cond.instanceMethod yX7_at ∈ tALL := tALL_in (List.mem_of_getElem? (i := 396) (by decide +kernel)) (by decide +kernel)
theorem wd_698 : Jvm.Cond.selects RX7 yX7_at yX7_at ∈ tALL := tALL_in (List.mem_of_getElem? (i := 397) (by decide +kernel)) (by decide +kernel)
theorem wd_699 : Jvm.Cond.methodLink RL 26 yX8_at ∈ tALL := tALL_in (List.mem_of_getElem? (i := 1044) (by decide +kernel)) (by decide +kernel)
theorem wd_700 : Jvm.Cond.instanceMethod yX8_at ∈ tALL := tALL_in (List.mem_of_getElem? (i := 1045) (by decide +kernel)) (by decide +kernel)
theorem wd_701 : Jvm.Cond.selects RX8 yX8_at yX8_at ∈ tALL := tALL_in (List.mem_of_getElem? (i := 1046) (by decide +kernel)) (by decide +kernel)
theorem wd_702 : Jvm.Cond.methodLink RL 27 yX7_tear ∈ tALL := tALL_in (List.mem_of_getElem? (i := 400) (by decide +kernel)) (by decide +kernel)
theorem wd_703 : Jvm.Cond.instanceMethod yX7_tear ∈ tALL := tALL_in (List.mem_of_getElem? (i := 401) (by decide +kernel)) (by decide +kernel)
theorem wd_704 : Jvm.Cond.selects RX7 yX7_tear yX7_tear ∈ tALL := tALL_in (List.mem_of_getElem? (i := 402) (by decide +kernel)) (by decide +kernel)
theorem wd_705 : Jvm.Cond.methodLink RL 31 yX8_tear ∈ tALL := tALL_in (List.mem_of_getElem? (i := 1048) (by decide +kernel)) (by decide +kernel)
theorem wd_706 : Jvm.Cond.instanceMethod yX8_tear ∈ tALL := tALL_in (List.mem_of_getElem? (i := 1049) (by decide +kernel)) (by decide +kernel)
theorem wd_707 : Jvm.Cond.selects RX8 yX8_tear yX8_tear ∈ tALL := tALL_in (List.mem_of_getElem? (i := 1050) (by decide +kernel)) (by decide +kernel)
theorem wd_708 : Jvm.Cond.methodLink RL 32 yX7_copy ∈ tALL := tALL_in (List.mem_of_getElem? (i := 404) (by decide +kernel)) (by decide +kernel)
theorem wd_709 : Jvm.Cond.instanceMethod yX7_copy ∈ tALL := tALL_in (List.mem_of_getElem? (i := 405) (by decide +kernel)) (by decide +kernel)
theorem wd_710 : Jvm.Cond.selects RX7 yX7_copy yX7_copy ∈ tALL := tALL_in (List.mem_of_getElem? (i := 406) (by decide +kernel)) (by decide +kernel)
theorem wd_711 : Jvm.Cond.methodLink RL 36 yX8_copy ∈ tALL := tALL_in (List.mem_of_getElem? (i := 1052) (by decide +kernel)) (by decide +kernel)
theorem wd_712 : Jvm.Cond.instanceMethod yX8_copy ∈ tALL := tALL_in (List.mem_of_getElem? (i := 1053) (by decide +kernel)) (by decide +kernel)
theorem wd_713 : Jvm.Cond.selects RX8 yX8_copy yX8_copy ∈ tALL := tALL_in (List.mem_of_getElem? (i := 1054) (by decide +kernel)) (by decide +kernel)
theorem wd_714 : Jvm.Cond.methodLink RL 37 yX7_mean ∈ tALL := tALL_in (List.mem_of_getElem? (i := 415) (by decide +kernel)) (by decide +kernel)
theorem wd_715 : Jvm.Cond.instanceMethod yX7_mean ∈ tALL := tALL_in (List.mem_of_getElem? (i := 416) (by decide +kernel)) (by decide +kernel)
theorem wd_716 : Jvm.Cond.selects RX7 yX7_mean yX7_mean ∈ tALL := tALL_in (List.mem_of_getElem? (i := 417) (by decide +kernel)) (by decide +kernel)
theorem wd_717 : Jvm.Cond.methodLink RL 40 yX8_mean ∈ tALL := tALL_in (List.mem_of_getElem? (i := 1056) (by decide +kernel)) (by decide +kernel)
theorem wd_718 : Jvm.Cond.instanceMethod yX8_mean ∈ tALL := tALL_in (List.mem_of_getElem? (i := 1057) (by decide +kernel)) (by decide +kernel)
theorem wd_719 : Jvm.Cond.selects RX8 yX8_mean yX8_mean ∈ tALL := tALL_in (List.mem_of_getElem? (i := 1058) (by decide +kernel)) (by decide +kernel)
theorem wd_720 : Jvm.Cond.methodLink RL 41 yX7_text ∈ tALL := tALL_in (List.mem_of_getElem? (i := 423) (by decide +kernel)) (by decide +kernel)
theorem wd_721 : Jvm.Cond.instanceMethod yX7_text ∈ tALL := tALL_in (List.mem_of_getElem? (i := 424) (by decide +kernel)) (by decide +kernel)
theorem wd_722 : Jvm.Cond.selects RX7 yX7_text yX7_text ∈ tALL := tALL_in (List.mem_of_getElem? (i := 425) (by decide +kernel)) (by decide +kernel)
theorem wd_723 : Jvm.Cond.methodLink RL 44 yX8_text ∈ tALL := tALL_in (List.mem_of_getElem? (i := 1060) (by decide +kernel)) (by decide +kernel)
theorem wd_724 : Jvm.Cond.instanceMethod yX8_text ∈ tALL := tALL_in (List.mem_of_getElem? (i := 1061) (by decide +kernel)) (by decide +kernel)
theorem wd_725 : Jvm.Cond.selects RX8 yX8_text yX8_text ∈ tALL := tALL_in (List.mem_of_getElem? (i := 1062) (by decide +kernel)) (by decide +kernel)
theorem wd_726 : Jvm.Cond.methodLink RL 45 yX7_put ∈ tALL := tALL_in (List.mem_of_getElem? (i := 430) (by decide +kernel)) (by decide +kernel)
theorem wd_727 : Jvm.Cond.instanceMethod yX7_put ∈ tALL := tALL_in (List.mem_of_getElem? (i := 431) (by decide +kernel)) (by decide +kernel)
theorem wd_728 : Jvm.Cond.selects RX7 yX7_put yX7_put ∈ tALL := tALL_in (List.mem_of_getElem? (i := 432) (by decide +kernel)) (by decide +kernel)
theorem wd_729 : Jvm.Cond.methodLink RL 48 yX8_put ∈ tALL := tALL_in (List.mem_of_getElem? (i := 1068) (by decide +kernel)) (by decide +kernel)
theorem wd_730 : Jvm.Cond.instanceMethod yX8_put ∈ tALL := tALL_in (List.mem_of_getElem? (i := 1069) (by decide +kernel)) (by decide +kernel)
theorem wd_731 : Jvm.Cond.selects RX8 yX8_put yX8_put ∈ tALL := tALL_in (List.mem_of_getElem? (i := 1070) (by decide +kernel)) (by decide +kernel)
theorem wd_732 : Jvm.Cond.methodLink RL 49 yX7_fault ∈ tALL := tALL_in (List.mem_of_getElem? (i := 434) (by decide +kernel)) (by decide +kernel)
theorem wd_733 : Jvm.Cond.instanceMethod yX7_fault ∈ tALL := tALL_in (List.mem_of_getElem? (i := 435) (by decide +kernel)) (by decide +kernel)
theorem wd_734 : Jvm.Cond.selects RX7 yX7_fault yX7_fault ∈ tALL := tALL_in (List.mem_of_getElem? (i := 436) (by decide +kernel)) (by decide +kernel)
theorem wd_735 : Jvm.Cond.methodLink RL 52 yX8_fault ∈ tALL := tALL_in (List.mem_of_getElem? (i := 1072) (by decide +kernel)) (by decide +kernel)
theorem wd_736 : Jvm.Cond.instanceMethod yX8_fault ∈ tALL := tALL_in (List.mem_of_getElem? (i := 1073) (by decide +kernel)) (by decide +kernel)
theorem wd_737 : Jvm.Cond.selects RX8 yX8_fault yX8_fault ∈ tALL := tALL_in (List.mem_of_getElem? (i := 1074) (by decide +kernel)) (by decide +kernel)
theorem wd_738 : Jvm.Cond.methodLink RL 53 yX7_bridge ∈ tALL := tALL_in (List.mem_of_getElem? (i := 489) (by decide +kernel)) (by decide +kernel)
theorem wd_739 : Jvm.Cond.instanceMethod yX7_bridge ∈ tALL := tALL_in (List.mem_of_getElem? (i := 490) (by decide +kernel)) (by decide +kernel)
theorem wd_740 : Jvm.Cond.selects RX7 yX7_bridge yX7_bridge ∈ tALL := tALL_in (List.mem_of_getElem? (i := 491) (by decide +kernel)) (by decide +kernel)
theorem wd_741 : Jvm.Cond.methodLink RL 56 yX8_bridge ∈ tALL := tALL_in (List.mem_of_getElem? (i := 1113) (by decide +kernel)) (by decide +kernel)
theorem wd_742 : Jvm.Cond.instanceMethod yX8_bridge ∈ tALL := tALL_in (List.mem_of_getElem? (i := 1114) (by decide +kernel)) (by decide +kernel)
theorem wd_743 : Jvm.Cond.selects RX8 yX8_bridge yX8_bridge ∈ tALL := tALL_in (List.mem_of_getElem? (i := 1115) (by decide +kernel)) (by decide +kernel)
theorem wd_744 : Jvm.Cond.methodLink RL 57 yX7_one ∈ tALL := tALL_in (List.mem_of_getElem? (i := 521) (by decide +kernel)) (by decide +kernel)
theorem wd_745 : Jvm.Cond.instanceMethod yX7_one ∈ tALL := tALL_in (List.mem_of_getElem? (i := 522) (by decide +kernel)) (by decide +kernel)
theorem wd_746 : Jvm.Cond.selects RX7 yX7_one yX7_one ∈ tALL := tALL_in (List.mem_of_getElem? (i := 523) (by decide +kernel)) (by decide +kernel)
theorem wd_747 : Jvm.Cond.methodLink RL 60 yX8_one ∈ tALL := tALL_in (List.mem_of_getElem? (i := 1117) (by decide +kernel)) (by decide +kernel)
theorem wd_748 : Jvm.Cond.instanceMethod yX8_one ∈ tALL := tALL_in (List.mem_of_getElem? (i := 1118) (by decide +kernel)) (by decide +kernel)
theorem wd_749 : Jvm.Cond.selects RX8 yX8_one yX8_one ∈ tALL := tALL_in (List.mem_of_getElem? (i := 1119) (by decide +kernel)) (by decide +kernel)
theorem wd_750 : Jvm.Cond.methodLink RL 61 yX7_mark ∈ tALL := tALL_in (List.mem_of_getElem? (i := 530) (by decide +kernel)) (by decide +kernel)
theorem wd_751 : Jvm.Cond.instanceMethod yX7_mark ∈ tALL := tALL_in (List.mem_of_getElem? (i := 531) (by decide +kernel)) (by decide +kernel)
theorem wd_752 : Jvm.Cond.selects RX7 yX7_mark yX7_mark ∈ tALL := tALL_in (List.mem_of_getElem? (i := 532) (by decide +kernel)) (by decide +kernel)
theorem wd_753 : Jvm.Cond.methodLink RL 64 yX8_mark ∈ tALL := tALL_in (List.mem_of_getElem? (i := 1146) (by decide +kernel)) (by decide +kernel)
theorem wd_754 : Jvm.Cond.instanceMethod yX8_mark ∈ tALL := tALL_in (List.mem_of_getElem? (i := 1147) (by decide +kernel)) (by decide +kernel)
theorem wd_755 : Jvm.Cond.selects RX8 yX8_mark yX8_mark ∈ tALL := tALL_in (List.mem_of_getElem? (i := 1148) (by decide +kernel)) (by decide +kernel)
theorem wd_756 : Jvm.Cond.methodLink RL 65 yX7_talk ∈ tALL := tALL_in (List.mem_of_getElem? (i := 553) (by decide +kernel)) (by decide +kernel)
theorem wd_757 : Jvm.Cond.instanceMethod yX7_talk ∈ tALL := tALL_in (List.mem_of_getElem? (i := 554) (by decide +kernel)) (by decide +kernel)
theorem wd_758 : Jvm.Cond.selects RX7 yX7_talk yX7_talk ∈ tALL := tALL_in (List.mem_of_getElem? (i := 555) (by decide +kernel)) (by decide +kernel)
theorem wd_759 : Jvm.Cond.methodLink RL 68 yX8_talk ∈ tALL := tALL_in (List.mem_of_getElem? (i := 1164) (by decide +kernel)) (by decide +kernel)
theorem wd_760 : Jvm.Cond.instanceMethod yX8_talk ∈ tALL := tALL_in (List.mem_of_getElem? (i := 1165) (by decide +kernel)) (by decide +kernel)
theorem wd_761 : Jvm.Cond.selects RX8 yX8_talk yX8_talk ∈ tALL := tALL_in (List.mem_of_getElem? (i := 1166) (by decide +kernel)) (by decide +kernel)
theorem wd_762 : Jvm.Cond.methodLink RL 69 yX7_watch ∈ tALL := tALL_in (List.mem_of_getElem? (i := 565) (by decide +kernel)) (by decide +kernel)
theorem wd_763 : Jvm.Cond.instanceMethod yX7_watch ∈ tALL := tALL_in (List.mem_of_getElem? (i := 566) (by decide +kernel)) (by decide +kernel)
theorem wd_764 : Jvm.Cond.selects RX7 yX7_watch yX7_watch ∈ tALL := tALL_in (List.mem_of_getElem? (i := 567) (by decide +kernel)) (by decide +kernel)
theorem wd_765 : Jvm.Cond.methodLink RL 72 yX8_watch ∈ tALL := tALL_in (List.mem_of_getElem? (i := 1176) (by decide +kernel)) (by decide +kernel)
theorem wd_766 : Jvm.Cond.instanceMethod yX8_watch ∈ tALL := tALL_in (List.mem_of_getElem? (i := 1177) (by decide +kernel)) (by decide +kernel)
theorem wd_767 : Jvm.Cond.selects RX8 yX8_watch yX8_watch ∈ tALL := tALL_in (List.mem_of_getElem? (i := 1178) (by decide +kernel)) (by decide +kernel)
theorem wd_768 : Jvm.Cond.methodLink RL 73 yX7_load ∈ tALL := tALL_in (List.mem_of_getElem? (i := 591) (by decide +kernel)) (by decide +kernel)
theorem wd_769 : Jvm.Cond.instanceMethod yX7_load ∈ tALL := tALL_in (List.mem_of_getElem? (i := 592) (by decide +kernel)) (by decide +kernel)
theorem wd_770 : Jvm.Cond.selects RX7 yX7_load yX7_load ∈ tALL := tALL_in (List.mem_of_getElem? (i := 593) (by decide +kernel)) (by decide +kernel)
theorem wd_771 : Jvm.Cond.methodLink RL 76 yX8_load ∈ tALL := tALL_in (List.mem_of_getElem? (i := 1195) (by decide +kernel)) (by decide +kernel)
theorem wd_772 : Jvm.Cond.instanceMethod yX8_load ∈ tALL := tALL_in (List.mem_of_getElem? (i := 1196) (by decide +kernel)) (by decide +kernel)
theorem wd_773 : Jvm.Cond.selects RX8 yX8_load yX8_load ∈ tALL := tALL_in (List.mem_of_getElem? (i := 1197) (by decide +kernel)) (by decide +kernel)
theorem wd_774 : Jvm.Cond.methodLink RL 77 yX7_coffee ∈ tALL := tALL_in (List.mem_of_getElem? (i := 606) (by decide +kernel)) (by decide +kernel)
theorem wd_775 : Jvm.Cond.instanceMethod yX7_coffee ∈ tALL := tALL_in (List.mem_of_getElem? (i := 607) (by decide +kernel)) (by decide +kernel)
theorem wd_776 : Jvm.Cond.selects RX7 yX7_coffee yX7_coffee ∈ tALL := tALL_in (List.mem_of_getElem? (i := 608) (by decide +kernel)) (by decide +kernel)
theorem wd_777 : Jvm.Cond.methodLink RL 80 yX8_coffee ∈ tALL := tALL_in (List.mem_of_getElem? (i := 1204) (by decide +kernel)) (by decide +kernel)
theorem wd_778 : Jvm.Cond.instanceMethod yX8_coffee ∈ tALL := tALL_in (List.mem_of_getElem? (i := 1205) (by decide +kernel)) (by decide +kernel)
theorem wd_779 : Jvm.Cond.selects RX8 yX8_coffee yX8_coffee ∈ tALL := tALL_in (List.mem_of_getElem? (i := 1206) (by decide +kernel)) (by decide +kernel)
theorem wd_780 : Jvm.Cond.methodLink RL 81 yX7_undo ∈ tALL := tALL_in (List.mem_of_getElem? (i := 618) (by decide +kernel)) (by decide +kernel)
theorem wd_781 : Jvm.Cond.instanceMethod yX7_undo ∈ tALL := tALL_in (List.mem_of_getElem? (i := 619) (by decide +kernel)) (by decide +kernel)
theorem wd_782 : Jvm.Cond.selects RX7 yX7_undo yX7_undo ∈ tALL := tALL_in (List.mem_of_getElem? (i := 620) (by decide +kernel)) (by decide +kernel)
theorem wd_783 : Jvm.Cond.methodLink RL 84 yX8_undo ∈ tALL := tALL_in (List.mem_of_getElem? (i := 1208) (by decide +kernel)) (by decide +kernel)
theorem wd_784 : Jvm.Cond.instanceMethod yX8_undo ∈ tALL := tALL_in (List.mem_of_getElem? (i := 1209) (by decide +kernel)) (by decide +kernel)
theorem wd_785 : Jvm.Cond.selects RX8 yX8_undo yX8_undo ∈ tALL := tALL_in (List.mem_of_getElem? (i := 1210) (by decide +kernel)) (by decide +kernel)
theorem wd_786 : Jvm.Cond.methodLink RL 85 yX7_keep ∈ tALL := tALL_in (List.mem_of_getElem? (i := 630) (by decide +kernel)) (by decide +kernel)
theorem wd_787 : Jvm.Cond.instanceMethod yX7_keep ∈ tALL := tALL_in (List.mem_of_getElem? (i := 631) (by decide +kernel)) (by decide +kernel)
theorem wd_788 : Jvm.Cond.selects RX7 yX7_keep yX7_keep ∈ tALL := tALL_in (List.mem_of_getElem? (i := 632) (by decide +kernel)) (by decide +kernel)
theorem wd_789 : Jvm.Cond.methodLink RL 88 yX8_keep ∈ tALL := tALL_in (List.mem_of_getElem? (i := 1212) (by decide +kernel)) (by decide +kernel)
theorem wd_790 : Jvm.Cond.instanceMethod yX8_keep ∈ tALL := tALL_in (List.mem_of_getElem? (i := 1213) (by decide +kernel)) (by decide +kernel)
theorem wd_791 : Jvm.Cond.selects RX8 yX8_keep yX8_keep ∈ tALL := tALL_in (List.mem_of_getElem? (i := 1214) (by decide +kernel)) (by decide +kernel)
theorem wd_792 : Jvm.Cond.methodLink RL 89 yX7_on ∈ tALL := tALL_in (List.mem_of_getElem? (i := 645) (by decide +kernel)) (by decide +kernel)
theorem wd_793 : Jvm.Cond.instanceMethod yX7_on ∈ tALL := tALL_in (List.mem_of_getElem? (i := 646) (by decide +kernel)) (by decide +kernel)
theorem wd_794 : Jvm.Cond.selects RX7 yX7_on yX7_on ∈ tALL := tALL_in (List.mem_of_getElem? (i := 647) (by decide +kernel)) (by decide +kernel)
theorem wd_795 : Jvm.Cond.methodLink RL 92 yX8_on ∈ tALL := tALL_in (List.mem_of_getElem? (i := 1217) (by decide +kernel)) (by decide +kernel)
theorem wd_796 : Jvm.Cond.instanceMethod yX8_on ∈ tALL := tALL_in (List.mem_of_getElem? (i := 1218) (by decide +kernel)) (by decide +kernel)
theorem wd_797 : Jvm.Cond.selects RX8 yX8_on yX8_on ∈ tALL := tALL_in (List.mem_of_getElem? (i := 1219) (by decide +kernel)) (by decide +kernel)
theorem wd_798 : Jvm.Cond.methodLink RL 93 yX7_best ∈ tALL := tALL_in (List.mem_of_getElem? (i := 649) (by decide +kernel)) (by decide +kernel)
theorem wd_799 : Jvm.Cond.instanceMethod yX7_best ∈ tALL := tALL_in (List.mem_of_getElem? (i := 650) (by decide +kernel)) (by decide +kernel)
theorem wd_800 : Jvm.Cond.selects RX7 yX7_best yX7_best ∈ tALL := tALL_in (List.mem_of_getElem? (i := 651) (by decide +kernel)) (by decide +kernel)
theorem wd_801 : Jvm.Cond.methodLink RL 96 yX8_best ∈ tALL := tALL_in (List.mem_of_getElem? (i := 1221) (by decide +kernel)) (by decide +kernel)
theorem wd_802 : Jvm.Cond.instanceMethod yX8_best ∈ tALL := tALL_in (List.mem_of_getElem? (i := 1222) (by decide +kernel)) (by decide +kernel)
theorem wd_803 : Jvm.Cond.selects RX8 yX8_best yX8_best ∈ tALL := tALL_in (List.mem_of_getElem? (i := 1223) (by decide +kernel)) (by decide +kernel)
theorem wd_804 : Jvm.Cond.methodLink RL 97 yX7_through ∈ tALL := tALL_in (List.mem_of_getElem? (i := 683) (by decide +kernel)) (by decide +kernel)
theorem wd_805 : Jvm.Cond.instanceMethod yX7_through ∈ tALL := tALL_in (List.mem_of_getElem? (i := 684) (by decide +kernel)) (by decide +kernel)
theorem wd_806 : Jvm.Cond.selects RX7 yX7_through yX7_through ∈ tALL := tALL_in (List.mem_of_getElem? (i := 685) (by decide +kernel)) (by decide +kernel)
theorem wd_807 : Jvm.Cond.methodLink RL 100 yX8_through ∈ tALL := tALL_in (List.mem_of_getElem? (i := 1249) (by decide +kernel)) (by decide +kernel)
theorem wd_808 : Jvm.Cond.instanceMethod yX8_through ∈ tALL := tALL_in (List.mem_of_getElem? (i := 1250) (by decide +kernel)) (by decide +kernel)
theorem wd_809 : Jvm.Cond.selects RX8 yX8_through yX8_through ∈ tALL := tALL_in (List.mem_of_getElem? (i := 1251) (by decide +kernel)) (by decide +kernel)
theorem wd_810 : Jvm.Cond.methodLink RL 101 yX7_when ∈ tALL := tALL_in (List.mem_of_getElem? (i := 698) (by decide +kernel)) (by decide +kernel)
theorem wd_811 : Jvm.Cond.instanceMethod yX7_when ∈ tALL := tALL_in (List.mem_of_getElem? (i := 699) (by decide +kernel)) (by decide +kernel)
theorem wd_812 : Jvm.Cond.selects RX7 yX7_when yX7_when ∈ tALL := tALL_in (List.mem_of_getElem? (i := 700) (by decide +kernel)) (by decide +kernel)
theorem wd_813 : Jvm.Cond.methodLink RL 104 yX8_when ∈ tALL := tALL_in (List.mem_of_getElem? (i := 1261) (by decide +kernel)) (by decide +kernel)
theorem wd_814 : Jvm.Cond.instanceMethod yX8_when ∈ tALL := tALL_in (List.mem_of_getElem? (i := 1262) (by decide +kernel)) (by decide +kernel)
theorem wd_815 : Jvm.Cond.selects RX8 yX8_when yX8_when ∈ tALL := tALL_in (List.mem_of_getElem? (i := 1263) (by decide +kernel)) (by decide +kernel)
theorem wd_816 : Jvm.Cond.methodLink RL 105 yX7_bear ∈ tALL := tALL_in (List.mem_of_getElem? (i := 702) (by decide +kernel)) (by decide +kernel)
theorem wd_817 : Jvm.Cond.instanceMethod yX7_bear ∈ tALL := tALL_in (List.mem_of_getElem? (i := 703) (by decide +kernel)) (by decide +kernel)
theorem wd_818 : Jvm.Cond.selects RX7 yX7_bear yX7_bear ∈ tALL := tALL_in (List.mem_of_getElem? (i := 704) (by decide +kernel)) (by decide +kernel)
theorem wd_819 : Jvm.Cond.methodLink RL 108 yX8_bear ∈ tALL := tALL_in (List.mem_of_getElem? (i := 1265) (by decide +kernel)) (by decide +kernel)
theorem wd_820 : Jvm.Cond.instanceMethod yX8_bear ∈ tALL := tALL_in (List.mem_of_getElem? (i := 1266) (by decide +kernel)) (by decide +kernel)
theorem wd_821 : Jvm.Cond.selects RX8 yX8_bear yX8_bear ∈ tALL := tALL_in (List.mem_of_getElem? (i := 1267) (by decide +kernel)) (by decide +kernel)
theorem wd_822 : Jvm.Cond.methodLink RL 109 yX7_sagged ∈ tALL := tALL_in (List.mem_of_getElem? (i := 737) (by decide +kernel)) (by decide +kernel)
theorem wd_823 : Jvm.Cond.instanceMethod yX7_sagged ∈ tALL := tALL_in (List.mem_of_getElem? (i := 738) (by decide +kernel)) (by decide +kernel)
theorem wd_824 : Jvm.Cond.selects RX7 yX7_sagged yX7_sagged ∈ tALL := tALL_in (List.mem_of_getElem? (i := 739) (by decide +kernel)) (by decide +kernel)
theorem wd_825 : Jvm.Cond.methodLink RL 112 yX8_sagged ∈ tALL := tALL_in (List.mem_of_getElem? (i := 1284) (by decide +kernel)) (by decide +kernel)
theorem wd_826 : Jvm.Cond.instanceMethod yX8_sagged ∈ tALL := tALL_in (List.mem_of_getElem? (i := 1285) (by decide +kernel)) (by decide +kernel)
theorem wd_827 : Jvm.Cond.selects RX8 yX8_sagged yX8_sagged ∈ tALL := tALL_in (List.mem_of_getElem? (i := 1286) (by decide +kernel)) (by decide +kernel)
theorem wd_828 : Jvm.Cond.methodLink RL 113 yX7_sure ∈ tALL := tALL_in (List.mem_of_getElem? (i := 754) (by decide +kernel)) (by decide +kernel)
theorem wd_829 : Jvm.Cond.instanceMethod yX7_sure ∈ tALL := tALL_in (List.mem_of_getElem? (i := 755) (by decide +kernel)) (by decide +kernel)
theorem wd_830 : Jvm.Cond.selects RX7 yX7_sure yX7_sure ∈ tALL := tALL_in (List.mem_of_getElem? (i := 756) (by decide +kernel)) (by decide +kernel)
theorem wd_831 : Jvm.Cond.methodLink RL 116 yX8_sure ∈ tALL := tALL_in (List.mem_of_getElem? (i := 1292) (by decide +kernel)) (by decide +kernel)
theorem wd_832 : Jvm.Cond.instanceMethod yX8_sure ∈ tALL := tALL_in (List.mem_of_getElem? (i := 1293) (by decide +kernel)) (by decide +kernel)
theorem wd_833 : Jvm.Cond.selects RX8 yX8_sure yX8_sure ∈ tALL := tALL_in (List.mem_of_getElem? (i := 1294) (by decide +kernel)) (by decide +kernel)
theorem wd_834 : Jvm.Cond.methodLink RL 117 yX7_lasts ∈ tALL := tALL_in (List.mem_of_getElem? (i := 759) (by decide +kernel)) (by decide +kernel)
theorem wd_835 : Jvm.Cond.instanceMethod yX7_lasts ∈ tALL := tALL_in (List.mem_of_getElem? (i := 760) (by decide +kernel)) (by decide +kernel)
theorem wd_836 : Jvm.Cond.selects RX7 yX7_lasts yX7_lasts ∈ tALL := tALL_in (List.mem_of_getElem? (i := 761) (by decide +kernel)) (by decide +kernel)
theorem wd_837 : Jvm.Cond.methodLink RL 120 yX8_lasts ∈ tALL := tALL_in (List.mem_of_getElem? (i := 1296) (by decide +kernel)) (by decide +kernel)
theorem wd_838 : Jvm.Cond.instanceMethod yX8_lasts ∈ tALL := tALL_in (List.mem_of_getElem? (i := 1297) (by decide +kernel)) (by decide +kernel)
theorem wd_839 : Jvm.Cond.selects RX8 yX8_lasts yX8_lasts ∈ tALL := tALL_in (List.mem_of_getElem? (i := 1298) (by decide +kernel)) (by decide +kernel)
theorem wd_840 : Jvm.Cond.methodLink RL 121 yX7_kinds ∈ tALL := tALL_in (List.mem_of_getElem? (i := 775) (by decide +kernel)) (by decide +kernel)
theorem wd_841 : Jvm.Cond.instanceMethod yX7_kinds ∈ tALL := tALL_in (List.mem_of_getElem? (i := 776) (by decide +kernel)) (by decide +kernel)
theorem wd_842 : Jvm.Cond.selects RX7 yX7_kinds yX7_kinds ∈ tALL := tALL_in (List.mem_of_getElem? (i := 777) (by decide +kernel)) (by decide +kernel)
theorem wd_843 : Jvm.Cond.methodLink RL 124 yX8_kinds ∈ tALL := tALL_in (List.mem_of_getElem? (i := 1311) (by decide +kernel)) (by decide +kernel)
theorem wd_844 : Jvm.Cond.instanceMethod yX8_kinds ∈ tALL := tALL_in (List.mem_of_getElem? (i := 1312) (by decide +kernel)) (by decide +kernel)
theorem wd_845 : Jvm.Cond.selects RX8 yX8_kinds yX8_kinds ∈ tALL := tALL_in (List.mem_of_getElem? (i := 1313) (by decide +kernel)) (by decide +kernel)
theorem wd_846 : Jvm.Cond.methodLink RL 125 yX7_test ∈ tALL := tALL_in (List.mem_of_getElem? (i := 783) (by decide +kernel)) (by decide +kernel)
theorem wd_847 : Jvm.Cond.instanceMethod yX7_test ∈ tALL := tALL_in (List.mem_of_getElem? (i := 784) (by decide +kernel)) (by decide +kernel)
theorem wd_848 : Jvm.Cond.selects RX7 yX7_test yX7_test ∈ tALL := tALL_in (List.mem_of_getElem? (i := 785) (by decide +kernel)) (by decide +kernel)
theorem wd_849 : Jvm.Cond.methodLink RL 128 yX8_test ∈ tALL := tALL_in (List.mem_of_getElem? (i := 1319) (by decide +kernel)) (by decide +kernel)
theorem wd_850 : Jvm.Cond.instanceMethod yX8_test ∈ tALL := tALL_in (List.mem_of_getElem? (i := 1320) (by decide +kernel)) (by decide +kernel)
theorem wd_851 : Jvm.Cond.selects RX8 yX8_test yX8_test ∈ tALL := tALL_in (List.mem_of_getElem? (i := 1321) (by decide +kernel)) (by decide +kernel)
theorem wd_852 : Jvm.Cond.methodLink RL 129 yX7_pairs ∈ tALL := tALL_in (List.mem_of_getElem? (i := 795) (by decide +kernel)) (by decide +kernel)
theorem wd_853 : Jvm.Cond.instanceMethod yX7_pairs ∈ tALL := tALL_in (List.mem_of_getElem? (i := 796) (by decide +kernel)) (by decide +kernel)
theorem wd_854 : Jvm.Cond.selects RX7 yX7_pairs yX7_pairs ∈ tALL := tALL_in (List.mem_of_getElem? (i := 797) (by decide +kernel)) (by decide +kernel)
theorem wd_855 : Jvm.Cond.methodLink RL 132 yX8_pairs ∈ tALL := tALL_in (List.mem_of_getElem? (i := 1327) (by decide +kernel)) (by decide +kernel)
theorem wd_856 : Jvm.Cond.instanceMethod yX8_pairs ∈ tALL := tALL_in (List.mem_of_getElem? (i := 1328) (by decide +kernel)) (by decide +kernel)
theorem wd_857 : Jvm.Cond.selects RX8 yX8_pairs yX8_pairs ∈ tALL := tALL_in (List.mem_of_getElem? (i := 1329) (by decide +kernel)) (by decide +kernel)
theorem wd_858 : Jvm.Cond.methodLink RL 133 yX7_duel ∈ tALL := tALL_in (List.mem_of_getElem? (i := 812) (by decide +kernel)) (by decide +kernel)
theorem wd_859 : Jvm.Cond.instanceMethod yX7_duel ∈ tALL := tALL_in (List.mem_of_getElem? (i := 813) (by decide +kernel)) (by decide +kernel)
theorem wd_860 : Jvm.Cond.selects RX7 yX7_duel yX7_duel ∈ tALL := tALL_in (List.mem_of_getElem? (i := 814) (by decide +kernel)) (by decide +kernel)
theorem wd_861 : Jvm.Cond.methodLink RL 136 yX8_duel ∈ tALL := tALL_in (List.mem_of_getElem? (i := 1339) (by decide +kernel)) (by decide +kernel)
theorem wd_862 : Jvm.Cond.instanceMethod yX8_duel ∈ tALL := tALL_in (List.mem_of_getElem? (i := 1340) (by decide +kernel)) (by decide +kernel)
theorem wd_863 : Jvm.Cond.selects RX8 yX8_duel yX8_duel ∈ tALL := tALL_in (List.mem_of_getElem? (i := 1341) (by decide +kernel)) (by decide +kernel)
theorem wd_864 : Jvm.Cond.methodLink RL 137 yX7_odds ∈ tALL := tALL_in (List.mem_of_getElem? (i := 823) (by decide +kernel)) (by decide +kernel)
theorem wd_865 : Jvm.Cond.instanceMethod yX7_odds ∈ tALL := tALL_in (List.mem_of_getElem? (i := 824) (by decide +kernel)) (by decide +kernel)
theorem wd_866 : Jvm.Cond.selects RX7 yX7_odds yX7_odds ∈ tALL := tALL_in (List.mem_of_getElem? (i := 825) (by decide +kernel)) (by decide +kernel)
theorem wd_867 : Jvm.Cond.methodLink RL 141 yX8_odds ∈ tALL := tALL_in (List.mem_of_getElem? (i := 1343) (by decide +kernel)) (by decide +kernel)
theorem wd_868 : Jvm.Cond.instanceMethod yX8_odds ∈ tALL := tALL_in (List.mem_of_getElem? (i := 1344) (by decide +kernel)) (by decide +kernel)
theorem wd_869 : Jvm.Cond.selects RX8 yX8_odds yX8_odds ∈ tALL := tALL_in (List.mem_of_getElem? (i := 1345) (by decide +kernel)) (by decide +kernel)
theorem wd_870 : Jvm.Cond.methodLink RL 142 yX7_mid ∈ tALL := tALL_in (List.mem_of_getElem? (i := 839) (by decide +kernel)) (by decide +kernel)
theorem wd_871 : Jvm.Cond.instanceMethod yX7_mid ∈ tALL := tALL_in (List.mem_of_getElem? (i := 840) (by decide +kernel)) (by decide +kernel)
theorem wd_872 : Jvm.Cond.selects RX7 yX7_mid yX7_mid ∈ tALL := tALL_in (List.mem_of_getElem? (i := 841) (by decide +kernel)) (by decide +kernel)
theorem wd_873 : Jvm.Cond.methodLink RL 145 yX8_mid ∈ tALL := tALL_in (List.mem_of_getElem? (i := 1363) (by decide +kernel)) (by decide +kernel)
theorem wd_874 : Jvm.Cond.instanceMethod yX8_mid ∈ tALL := tALL_in (List.mem_of_getElem? (i := 1364) (by decide +kernel)) (by decide +kernel)
theorem wd_875 : Jvm.Cond.selects RX8 yX8_mid yX8_mid ∈ tALL := tALL_in (List.mem_of_getElem? (i := 1365) (by decide +kernel)) (by decide +kernel)
theorem wd_876 : Jvm.Cond.methodLink RL 146 yX7_lots ∈ tALL := tALL_in (List.mem_of_getElem? (i := 843) (by decide +kernel)) (by decide +kernel)
theorem wd_877 : Jvm.Cond.instanceMethod yX7_lots ∈ tALL := tALL_in (List.mem_of_getElem? (i := 844) (by decide +kernel)) (by decide +kernel)
theorem wd_878 : Jvm.Cond.selects RX7 yX7_lots yX7_lots ∈ tALL := tALL_in (List.mem_of_getElem? (i := 845) (by decide +kernel)) (by decide +kernel)
theorem wd_879 : Jvm.Cond.methodLink RL 149 yX8_lots ∈ tALL := tALL_in (List.mem_of_getElem? (i := 1367) (by decide +kernel)) (by decide +kernel)
theorem wd_880 : Jvm.Cond.instanceMethod yX8_lots ∈ tALL := tALL_in (List.mem_of_getElem? (i := 1368) (by decide +kernel)) (by decide +kernel)
theorem wd_881 : Jvm.Cond.selects RX8 yX8_lots yX8_lots ∈ tALL := tALL_in (List.mem_of_getElem? (i := 1369) (by decide +kernel)) (by decide +kernel)
theorem wd_882 : Jvm.Cond.methodLink RL 150 yX7_asked ∈ tALL := tALL_in (List.mem_of_getElem? (i := 857) (by decide +kernel)) (by decide +kernel)
theorem wd_883 : Jvm.Cond.instanceMethod yX7_asked ∈ tALL := tALL_in (List.mem_of_getElem? (i := 858) (by decide +kernel)) (by decide +kernel)
theorem wd_884 : Jvm.Cond.selects RX7 yX7_asked yX7_asked ∈ tALL := tALL_in (List.mem_of_getElem? (i := 859) (by decide +kernel)) (by decide +kernel)
theorem wd_885 : Jvm.Cond.methodLink RL 154 yX8_asked ∈ tALL := tALL_in (List.mem_of_getElem? (i := 1378) (by decide +kernel)) (by decide +kernel)
theorem wd_886 : Jvm.Cond.instanceMethod yX8_asked ∈ tALL := tALL_in (List.mem_of_getElem? (i := 1379) (by decide +kernel)) (by decide +kernel)
theorem wd_887 : Jvm.Cond.selects RX8 yX8_asked yX8_asked ∈ tALL := tALL_in (List.mem_of_getElem? (i := 1380) (by decide +kernel)) (by decide +kernel)
theorem wd_888 : Jvm.Cond.methodLink RL 155 yX7_upper ∈ tALL := tALL_in (List.mem_of_getElem? (i := 861) (by decide +kernel)) (by decide +kernel)
theorem wd_889 : Jvm.Cond.instanceMethod yX7_upper ∈ tALL := tALL_in (List.mem_of_getElem? (i := 862) (by decide +kernel)) (by decide +kernel)
theorem wd_890 : Jvm.Cond.selects RX7 yX7_upper yX7_upper ∈ tALL := tALL_in (List.mem_of_getElem? (i := 863) (by decide +kernel)) (by decide +kernel)
theorem wd_891 : Jvm.Cond.methodLink RL 159 yX8_upper ∈ tALL := tALL_in (List.mem_of_getElem? (i := 1382) (by decide +kernel)) (by decide +kernel)
theorem wd_892 : Jvm.Cond.instanceMethod yX8_upper ∈ tALL := tALL_in (List.mem_of_getElem? (i := 1383) (by decide +kernel)) (by decide +kernel)
theorem wd_893 : Jvm.Cond.selects RX8 yX8_upper yX8_upper ∈ tALL := tALL_in (List.mem_of_getElem? (i := 1384) (by decide +kernel)) (by decide +kernel)
theorem wd_894 : Jvm.Cond.methodLink RL 160 yX7_lower ∈ tALL := tALL_in (List.mem_of_getElem? (i := 865) (by decide +kernel)) (by decide +kernel)
theorem wd_895 : Jvm.Cond.instanceMethod yX7_lower ∈ tALL := tALL_in (List.mem_of_getElem? (i := 866) (by decide +kernel)) (by decide +kernel)
theorem wd_896 : Jvm.Cond.selects RX7 yX7_lower yX7_lower ∈ tALL := tALL_in (List.mem_of_getElem? (i := 867) (by decide +kernel)) (by decide +kernel)
theorem wd_897 : Jvm.Cond.methodLink RL 163 yX8_lower ∈ tALL := tALL_in (List.mem_of_getElem? (i := 1386) (by decide +kernel)) (by decide +kernel)
theorem wd_898 : Jvm.Cond.instanceMethod yX8_lower ∈ tALL := tALL_in (List.mem_of_getElem? (i := 1387) (by decide +kernel)) (by decide +kernel)
theorem wd_899 : Jvm.Cond.selects RX8 yX8_lower yX8_lower ∈ tALL := tALL_in (List.mem_of_getElem? (i := 1388) (by decide +kernel)) (by decide +kernel)
theorem wd_900 : Jvm.Cond.methodLink RL 164 yX7_count ∈ tALL := tALL_in (List.mem_of_getElem? (i := 869) (by decide +kernel)) (by decide +kernel)
theorem wd_901 : Jvm.Cond.methodLink RL 167 yX8_count ∈ tALL := tALL_in (List.mem_of_getElem? (i := 1390) (by decide +kernel)) (by decide +kernel)
theorem wd_902 : Jvm.Cond.methodLink RL 168 yX7_finding ∈ tALL := tALL_in (List.mem_of_getElem? (i := 885) (by decide +kernel)) (by decide +kernel)
theorem wd_903 : Jvm.Cond.instanceMethod yX7_finding ∈ tALL := tALL_in (List.mem_of_getElem? (i := 886) (by decide +kernel)) (by decide +kernel)
theorem wd_904 : Jvm.Cond.selects RX7 yX7_finding yX7_finding ∈ tALL := tALL_in (List.mem_of_getElem? (i := 887) (by decide +kernel)) (by decide +kernel)
theorem wd_905 : Jvm.Cond.methodLink RL 171 yX8_finding ∈ tALL := tALL_in (List.mem_of_getElem? (i := 1401) (by decide +kernel)) (by decide +kernel)
theorem wd_906 : Jvm.Cond.instanceMethod yX8_finding ∈ tALL := tALL_in (List.mem_of_getElem? (i := 1402) (by decide +kernel)) (by decide +kernel)
theorem wd_907 : Jvm.Cond.selects RX8 yX8_finding yX8_finding ∈ tALL := tALL_in (List.mem_of_getElem? (i := 1403) (by decide +kernel)) (by decide +kernel)
theorem wd_908 : Jvm.Cond.methodLink RL 172 yX7_findings ∈ tALL := tALL_in (List.mem_of_getElem? (i := 889) (by decide +kernel)) (by decide +kernel)
theorem wd_909 : Jvm.Cond.instanceMethod yX7_findings ∈ tALL := tALL_in (List.mem_of_getElem? (i := 890) (by decide +kernel)) (by decide +kernel)
theorem wd_910 : Jvm.Cond.selects RX7 yX7_findings yX7_findings ∈ tALL := tALL_in (List.mem_of_getElem? (i := 891) (by decide +kernel)) (by decide +kernel)
theorem wd_911 : Jvm.Cond.methodLink RL 175 yX8_findings ∈ tALL := tALL_in (List.mem_of_getElem? (i := 1405) (by decide +kernel)) (by decide +kernel)
theorem wd_912 : Jvm.Cond.instanceMethod yX8_findings ∈ tALL := tALL_in (List.mem_of_getElem? (i := 1406) (by decide +kernel)) (by decide +kernel)
theorem wd_913 : Jvm.Cond.selects RX8 yX8_findings yX8_findings ∈ tALL := tALL_in (List.mem_of_getElem? (i := 1407) (by decide +kernel)) (by decide +kernel)
theorem wd_914 : Jvm.Cond.methodLink RL 176 yX7_digest ∈ tALL := tALL_in (List.mem_of_getElem? (i := 893) (by decide +kernel)) (by decide +kernel)
theorem wd_915 : Jvm.Cond.instanceMethod yX7_digest ∈ tALL := tALL_in (List.mem_of_getElem? (i := 894) (by decide +kernel)) (by decide +kernel)
theorem wd_916 : Jvm.Cond.selects RX7 yX7_digest yX7_digest ∈ tALL := tALL_in (List.mem_of_getElem? (i := 895) (by decide +kernel)) (by decide +kernel)
theorem wd_917 : Jvm.Cond.methodLink RL 179 yX8_digest ∈ tALL := tALL_in (List.mem_of_getElem? (i := 1409) (by decide +kernel)) (by decide +kernel)
theorem wd_918 : Jvm.Cond.instanceMethod yX8_digest ∈ tALL := tALL_in (List.mem_of_getElem? (i := 1410) (by decide +kernel)) (by decide +kernel)
theorem wd_919 : Jvm.Cond.selects RX8 yX8_digest yX8_digest ∈ tALL := tALL_in (List.mem_of_getElem? (i := 1411) (by decide +kernel)) (by decide +kernel)
theorem wd_920 : Jvm.Cond.code yX0_init cX0_init 1 (none) ∈ tALL := tALL_in (List.mem_of_getElem? (i := 99) (by decide +kernel)) (by decide +kernel)
theorem wd_921 : Jvm.Cond.code yJ7_fill_53178 cJ7_fill_53178 4 (none) ∈ tALL := tALL_in (List.mem_of_getElem? (i := 369) (by decide +kernel)) (by decide +kernel)
theorem wd_922 : Jvm.Cond.code yX0_clear cX0_clear 1 (none) ∈ tALL := tALL_in (List.mem_of_getElem? (i := 445) (by decide +kernel)) (by decide +kernel)
theorem wd_923 : Jvm.Cond.code yX0_become cX0_become 3 (none) ∈ tALL := tALL_in (List.mem_of_getElem? (i := 496) (by decide +kernel)) (by decide +kernel)
theorem wd_924 : Jvm.Cond.code yX0_add cX0_add 4 (none) ∈ tALL := tALL_in (List.mem_of_getElem? (i := 488) (by decide +kernel)) (by decide +kernel)
theorem wd_925 : Jvm.Cond.code yX0_has cX0_has 2 (some .boolean) ∈ tALL := tALL_in (List.mem_of_getElem? (i := 467) (by decide +kernel)) (by decide +kernel)
theorem wd_926 : Jvm.Cond.code yX0_isPair cX0_isPair 3 (some .boolean) ∈ tALL := tALL_in (List.mem_of_getElem? (i := 471) (by decide +kernel)) (by decide +kernel)
theorem wd_927 : Jvm.Cond.code yX0_letQuarrel cX0_letQuarrel 3 (none) ∈ tALL := tALL_in (List.mem_of_getElem? (i := 476) (by decide +kernel)) (by decide +kernel)
theorem wd_928 : Jvm.Cond.code yX0_isNobody cX0_isNobody 1 (some .boolean) ∈ tALL := tALL_in (List.mem_of_getElem? (i := 601) (by decide +kernel)) (by decide +kernel)
theorem wd_929 : Jvm.Cond.code yX0_isWatch cX0_isWatch 2 (some .boolean) ∈ tALL := tALL_in (List.mem_of_getElem? (i := 694) (by decide +kernel)) (by decide +kernel)
theorem wd_930 : Jvm.Cond.code yX0_everybody cX0_everybody 1 (some .int) ∈ tALL := tALL_in (List.mem_of_getElem? (i := 718) (by decide +kernel)) (by decide +kernel)
theorem wd_931 : Jvm.Cond.code yX0_isOfKind cX0_isOfKind 2 (some .boolean) ∈ tALL := tALL_in (List.mem_of_getElem? (i := 536) (by decide +kernel)) (by decide +kernel)
theorem wd_932 : Jvm.Cond.code yX0_lovers cX0_lovers 3 (some .int) ∈ tALL := tALL_in (List.mem_of_getElem? (i := 876) (by decide +kernel)) (by decide +kernel)
theorem wd_933 : Jvm.Cond.code yJ9_max_7cf53 cJ9_max_7cf53 2 (some .int) ∈ tALL := tALL_in (List.mem_of_getElem? (i := 290) (by decide +kernel)) (by decide +kernel)
theorem wd_934 : Jvm.Cond.code yX0_tells cX0_tells 7 (some .int) ∈ tALL := tALL_in (List.mem_of_getElem? (i := 519) (by decide +kernel)) (by decide +kernel)
theorem wd_935 : Jvm.Cond.code yX0_tellsAs cX0_tellsAs 5 (some .int) ∈ tALL := tALL_in (List.mem_of_getElem? (i := 541) (by decide +kernel)) (by decide +kernel)
theorem wd_936 : Jvm.Cond.code yX1_init cX1_init 1 (none) ∈ tALL := tALL_in (List.mem_of_getElem? (i := 165) (by decide +kernel)) (by decide +kernel)
theorem wd_937 : Jvm.Cond.code yJ9_floorMod_7cf53 cJ9_floorMod_7cf53 3 (some .int) ∈ tALL := tALL_in (List.mem_of_getElem? (i := 516) (by decide +kernel)) (by decide +kernel)
theorem wd_938 : Jvm.Cond.code yX1_hour cX1_hour 1 (some .int) ∈ tALL := tALL_in (List.mem_of_getElem? (i := 513) (by decide +kernel)) (by decide +kernel)
theorem wd_939 : Jvm.Cond.code yX1_listen cX1_listen 4 (none) ∈ tALL := tALL_in (List.mem_of_getElem? (i := 509) (by decide +kernel)) (by decide +kernel)
theorem wd_940 : Jvm.Cond.code yX1_begin cX1_begin 2 (none) ∈ tALL := tALL_in (List.mem_of_getElem? (i := 504) (by decide +kernel)) (by decide +kernel)
theorem wd_941 : Jvm.Cond.code yX1_become cX1_become 3 (none) ∈ tALL := tALL_in (List.mem_of_getElem? (i := 644) (by decide +kernel)) (by decide +kernel)
theorem wd_942 : Jvm.Cond.code yX1_pairMeans cX1_pairMeans 5 (some .int) ∈ tALL := tALL_in (List.mem_of_getElem? (i := 551) (by decide +kernel)) (by decide +kernel)
theorem wd_943 : Jvm.Cond.code yX1_pairTells cX1_pairTells 6 (some .int) ∈ tALL := tALL_in (List.mem_of_getElem? (i := 561) (by decide +kernel)) (by decide +kernel)
theorem wd_944 : Jvm.Cond.code yJ9_min_7cf53 cJ9_min_7cf53 2 (some .int) ∈ tALL := tALL_in (List.mem_of_getElem? (i := 366) (by decide +kernel)) (by decide +kernel)
theorem wd_945 : Jvm.Cond.code yX1_strengthWith cX1_strengthWith 2 (some .int) ∈ tALL := tALL_in (List.mem_of_getElem? (i := 589) (by decide +kernel)) (by decide +kernel)
theorem wd_946 : Jvm.Cond.code yX1_behind cX1_behind 4 (some .int) ∈ tALL := tALL_in (List.mem_of_getElem? (i := 678) (by decide +kernel)) (by decide +kernel)
theorem wd_947 : Jvm.Cond.code yX1_behindHalfAsleep cX1_behindHalfAsleep 5 (some .int) ∈ tALL := tALL_in (List.mem_of_getElem? (i := 833) (by decide +kernel)) (by decide +kernel)
theorem wd_948 : Jvm.Cond.code yX1_passWatch cX1_passWatch 5 (none) ∈ tALL := tALL_in (List.mem_of_getElem? (i := 584) (by decide +kernel)) (by decide +kernel)
theorem wd_949 : Jvm.Cond.code yX1_drink cX1_drink 3 (none) ∈ tALL := tALL_in (List.mem_of_getElem? (i := 617) (by decide +kernel)) (by decide +kernel)
theorem wd_950 : Jvm.Cond.code yX2_init cX2_init 1 (none) ∈ tALL := tALL_in (List.mem_of_getElem? (i := 270) (by decide +kernel)) (by decide +kernel)
theorem wd_951 : Jvm.Cond.code yX2_noteWay cX2_noteWay 5 (none) ∈ tALL := tALL_in (List.mem_of_getElem? (i := 810) (by decide +kernel)) (by decide +kernel)
theorem wd_952 : Jvm.Cond.code yX2_pairFrom cX2_pairFrom 6 (none) ∈ tALL := tALL_in (List.mem_of_getElem? (i := 806) (by decide +kernel)) (by decide +kernel)
theorem wd_953 : Jvm.Cond.code yX2_pairAll cX2_pairAll 3 (some .int) ∈ tALL := tALL_in (List.mem_of_getElem? (i := 802) (by decide +kernel)) (by decide +kernel)
theorem wd_954 : Jvm.Cond.code yX3_init cX3_init 1 (none) ∈ tALL := tALL_in (List.mem_of_getElem? (i := 159) (by decide +kernel)) (by decide +kernel)
theorem wd_955 : Jvm.Cond.code yX3_begin cX3_begin 2 (none) ∈ tALL := tALL_in (List.mem_of_getElem? (i := 500) (by decide +kernel)) (by decide +kernel)
theorem wd_956 : Jvm.Cond.code yX3_become cX3_become 3 (none) ∈ tALL := tALL_in (List.mem_of_getElem? (i := 640) (by decide +kernel)) (by decide +kernel)
theorem wd_957 : Jvm.Cond.code yX3_hasRoom cX3_hasRoom 2 (some .boolean) ∈ tALL := tALL_in (List.mem_of_getElem? (i := 572) (by decide +kernel)) (by decide +kernel)
theorem wd_958 : Jvm.Cond.code yX3_note cX3_note 2 (none) ∈ tALL := tALL_in (List.mem_of_getElem? (i := 580) (by decide +kernel)) (by decide +kernel)
theorem wd_959 : Jvm.Cond.code yX3_doWatch cX3_doWatch 4 (some .int) ∈ tALL := tALL_in (List.mem_of_getElem? (i := 576) (by decide +kernel)) (by decide +kernel)
theorem wd_960 : Jvm.Cond.code yX3_doLoad cX3_doLoad 2 (some .int) ∈ tALL := tALL_in (List.mem_of_getElem? (i := 605) (by decide +kernel)) (by decide +kernel)
theorem wd_961 : Jvm.Cond.code yX3_doCoffee cX3_doCoffee 3 (some .int) ∈ tALL := tALL_in (List.mem_of_getElem? (i := 613) (by decide +kernel)) (by decide +kernel)
theorem wd_962 : Jvm.Cond.code yX3_goBackTo cX3_goBackTo 5 (none) ∈ tALL := tALL_in (List.mem_of_getElem? (i := 625) (by decide +kernel)) (by decide +kernel)
theorem wd_963 : Jvm.Cond.code yX4_init cX4_init 1 (none) ∈ tALL := tALL_in (List.mem_of_getElem? (i := 144) (by decide +kernel)) (by decide +kernel)
theorem wd_964 : Jvm.Cond.code yX5_holds cX5_holds 2 (some .boolean) ∈ tALL := tALL_in (List.mem_of_getElem? (i := 381) (by decide +kernel)) (by decide +kernel)
theorem wd_965 : Jvm.Cond.code yX5_get cX5_get 2 (some .int) ∈ tALL := tALL_in (List.mem_of_getElem? (i := 389) (by decide +kernel)) (by decide +kernel)
theorem wd_966 : Jvm.Cond.code yX4_figure cX4_figure 3 (some .int) ∈ tALL := tALL_in (List.mem_of_getElem? (i := 458) (by decide +kernel)) (by decide +kernel)
theorem wd_967 : Jvm.Cond.code yX4_readHead cX4_readHead 5 (some .int) ∈ tALL := tALL_in (List.mem_of_getElem? (i := 455) (by decide +kernel)) (by decide +kernel)
theorem wd_968 : Jvm.Cond.code yX4_kindOf cX4_kindOf 1 (some .int) ∈ tALL := tALL_in (List.mem_of_getElem? (i := 484) (by decide +kernel)) (by decide +kernel)
theorem wd_969 : Jvm.Cond.code yX4_readOne cX4_readOne 5 (some .int) ∈ tALL := tALL_in (List.mem_of_getElem? (i := 481) (by decide +kernel)) (by decide +kernel)
theorem wd_970 : Jvm.Cond.code yX4_readQuarrel cX4_readQuarrel 4 (some .int) ∈ tALL := tALL_in (List.mem_of_getElem? (i := 463) (by decide +kernel)) (by decide +kernel)
theorem wd_971 : Jvm.Cond.code yX4_skipBlanks cX4_skipBlanks 2 (none) ∈ tALL := tALL_in (List.mem_of_getElem? (i := 450) (by decide +kernel)) (by decide +kernel)
theorem wd_972 : Jvm.Cond.code yX4_read cX4_read 4 (some .int) ∈ tALL := tALL_in (List.mem_of_getElem? (i := 441) (by decide +kernel)) (by decide +kernel)
theorem wd_973 : Jvm.Cond.code yX5_init cX5_init 3 (none) ∈ tALL := tALL_in (List.mem_of_getElem? (i := 286) (by decide +kernel)) (by decide +kernel)
theorem wd_974 : Jvm.Cond.code yX5_begin cX5_begin 2 (none) ∈ tALL := tALL_in (List.mem_of_getElem? (i := 363) (by decide +kernel)) (by decide +kernel)
theorem wd_975 : Jvm.Cond.code yX5_holdsSpan cX5_holdsSpan 3 (some .boolean) ∈ tALL := tALL_in (List.mem_of_getElem? (i := 411) (by decide +kernel)) (by decide +kernel)
theorem wd_976 : Jvm.Cond.code yX5_isWithin cX5_isWithin 3 (some .boolean) ∈ tALL := tALL_in (List.mem_of_getElem? (i := 770) (by decide +kernel)) (by decide +kernel)
theorem wd_977 : Jvm.Cond.code yX5_swap cX5_swap 4 (some .int) ∈ tALL := tALL_in (List.mem_of_getElem? (i := 385) (by decide +kernel)) (by decide +kernel)
theorem wd_978 : Jvm.Cond.code yX5_sum cX5_sum 4 (some .long) ∈ tALL := tALL_in (List.mem_of_getElem? (i := 422) (by decide +kernel)) (by decide +kernel)
theorem wd_979 : Jvm.Cond.code yX6_init cX6_init 2 (none) ∈ tALL := tALL_in (List.mem_of_getElem? (i := 218) (by decide +kernel)) (by decide +kernel)
theorem wd_980 : Jvm.Cond.code yX6_beginAside cX6_beginAside 2 (some (.object "BridgeAwake$Hold")) ∈ tALL := tALL_in (List.mem_of_getElem? (i := 663) (by decide +kernel)) (by decide +kernel)
theorem wd_981 : Jvm.Cond.code yX6_copyDeeper cX6_copyDeeper 3 (some (.object "BridgeAwake$Hold")) ∈ tALL := tALL_in (List.mem_of_getElem? (i := 673) (by decide +kernel)) (by decide +kernel)
theorem wd_982 : Jvm.Cond.code yX6_noteStrength cX6_noteStrength 3 (none) ∈ tALL := tALL_in (List.mem_of_getElem? (i := 682) (by decide +kernel)) (by decide +kernel)
theorem wd_983 : Jvm.Cond.code yX6_seekStrongest cX6_seekStrongest 5 (none) ∈ tALL := tALL_in (List.mem_of_getElem? (i := 669) (by decide +kernel)) (by decide +kernel)
theorem wd_984 : Jvm.Cond.code yX6_strongest cX6_strongest 4 (some .int) ∈ tALL := tALL_in (List.mem_of_getElem? (i := 659) (by decide +kernel)) (by decide +kernel)
theorem wd_985 : Jvm.Cond.code yJ6_bitCount_0f7a4 cJ6_bitCount_0f7a4 1 (some .int) ∈ tALL := tALL_in (List.mem_of_getElem? (i := 732) (by decide +kernel)) (by decide +kernel)
theorem wd_986 : Jvm.Cond.code yX6_noteWay cX6_noteWay 3 (none) ∈ tALL := tALL_in (List.mem_of_getElem? (i := 729) (by decide +kernel)) (by decide +kernel)
theorem wd_987 : Jvm.Cond.code yX6_suits cX6_suits 3 (some .boolean) ∈ tALL := tALL_in (List.mem_of_getElem? (i := 725) (by decide +kernel)) (by decide +kernel)
theorem wd_988 : Jvm.Cond.code yX6_seekWays cX6_seekWays 7 (none) ∈ tALL := tALL_in (List.mem_of_getElem? (i := 721) (by decide +kernel)) (by decide +kernel)
theorem wd_989 : Jvm.Cond.code yX6_waysFor cX6_waysFor 6 (none) ∈ tALL := tALL_in (List.mem_of_getElem? (i := 713) (by decide +kernel)) (by decide +kernel)
theorem wd_990 : Jvm.Cond.code yX6_playTurn cX6_playTurn 8 (some .int) ∈ tALL := tALL_in (List.mem_of_getElem? (i := 822) (by decide +kernel)) (by decide +kernel)
theorem wd_991 : Jvm.Cond.code yX6_byTurns cX6_byTurns 4 (some .int) ∈ tALL := tALL_in (List.mem_of_getElem? (i := 819) (by decide +kernel)) (by decide +kernel)
theorem wd_992 : Jvm.Cond.code yX7_init cX7_init 2 (none) ∈ tALL := tALL_in (List.mem_of_getElem? (i := 87) (by decide +kernel)) (by decide +kernel)
theorem wd_993 : Jvm.Cond.code yX7_found cX7_found 2 (some .int) ∈ tALL := tALL_in (List.mem_of_getElem? (i := 359) (by decide +kernel)) (by decide +kernel)
theorem wd_994 : Jvm.Cond.code yX7_isRow cX7_isRow 1 (some .boolean) ∈ tALL := tALL_in (List.mem_of_getElem? (i := 355) (by decide +kernel)) (by decide +kernel)
theorem wd_995 : Jvm.Cond.code yX7_row cX7_row 3 (some .int) ∈ tALL := tALL_in (List.mem_of_getElem? (i := 352) (by decide +kernel)) (by decide +kernel)
theorem wd_996 : Jvm.Cond.code yX7_refusePlace cX7_refusePlace 3 (some .int) ∈ tALL := tALL_in (List.mem_of_getElem? (i := 377) (by decide +kernel)) (by decide +kernel)
theorem wd_997 : Jvm.Cond.code yX7_tellAsked cX7_tellAsked 2 (some .int) ∈ tALL := tALL_in (List.mem_of_getElem? (i := 394) (by decide +kernel)) (by decide +kernel)
theorem wd_998 : Jvm.Cond.code yX7_lay cX7_lay 5 (some .int) ∈ tALL := tALL_in (List.mem_of_getElem? (i := 373) (by decide +kernel)) (by decide +kernel)
theorem wd_999 : Jvm.Cond.code yX7_at cX7_at 4 (some .int) ∈ tALL := tALL_in (List.mem_of_getElem? (i := 398) (by decide +kernel)) (by decide +kernel)
theorem wd_1000 : Jvm.Cond.code yX7_tear cX7_tear 2 (some .int) ∈ tALL := tALL_in (List.mem_of_getElem? (i := 403) (by decide +kernel)) (by decide +kernel)
theorem wd_1001 : Jvm.Cond.code yX7_copy cX7_copy 6 (some .int) ∈ tALL := tALL_in (List.mem_of_getElem? (i := 407) (by decide +kernel)) (by decide +kernel)
theorem wd_1002 : Jvm.Cond.code yX7_mean cX7_mean 3 (some .int) ∈ tALL := tALL_in (List.mem_of_getElem? (i := 418) (by decide +kernel)) (by decide +kernel)
theorem wd_1003 : Jvm.Cond.code yX7_isText cX7_isText 1 (some .boolean) ∈ tALL := tALL_in (List.mem_of_getElem? (i := 429) (by decide +kernel)) (by decide +kernel)
theorem wd_1004 : Jvm.Cond.code yX7_text cX7_text 3 (some .int) ∈ tALL := tALL_in (List.mem_of_getElem? (i := 426) (by decide +kernel)) (by decide +kernel)
theorem wd_1005 : Jvm.Cond.code yX7_put cX7_put 5 (some .int) ∈ tALL := tALL_in (List.mem_of_getElem? (i := 433) (by decide +kernel)) (by decide +kernel)
theorem wd_1006 : Jvm.Cond.code yX7_fault cX7_fault 2 (some .int) ∈ tALL := tALL_in (List.mem_of_getElem? (i := 437) (by decide +kernel)) (by decide +kernel)
theorem wd_1007 : Jvm.Cond.code yX7_bridge cX7_bridge 3 (some .int) ∈ tALL := tALL_in (List.mem_of_getElem? (i := 492) (by decide +kernel)) (by decide +kernel)
theorem wd_1008 : Jvm.Cond.code yX7_fact cX7_fact 3 (some .int) ∈ tALL := tALL_in (List.mem_of_getElem? (i := 529) (by decide +kernel)) (by decide +kernel)
theorem wd_1009 : Jvm.Cond.code yX7_one cX7_one 3 (some .int) ∈ tALL := tALL_in (List.mem_of_getElem? (i := 524) (by decide +kernel)) (by decide +kernel)
theorem wd_1010 : Jvm.Cond.code yX7_preachedPairs cX7_preachedPairs 4 (some .int) ∈ tALL := tALL_in (List.mem_of_getElem? (i := 547) (by decide +kernel)) (by decide +kernel)
theorem wd_1011 : Jvm.Cond.code yX7_mark cX7_mark 5 (some .int) ∈ tALL := tALL_in (List.mem_of_getElem? (i := 533) (by decide +kernel)) (by decide +kernel)
theorem wd_1012 : Jvm.Cond.code yX7_talk cX7_talk 3 (some .int) ∈ tALL := tALL_in (List.mem_of_getElem? (i := 556) (by decide +kernel)) (by decide +kernel)
theorem wd_1013 : Jvm.Cond.code yX7_watch cX7_watch 3 (some .int) ∈ tALL := tALL_in (List.mem_of_getElem? (i := 568) (by decide +kernel)) (by decide +kernel)
theorem wd_1014 : Jvm.Cond.code yX7_isStrength cX7_isStrength 1 (some .boolean) ∈ tALL := tALL_in (List.mem_of_getElem? (i := 597) (by decide +kernel)) (by decide +kernel)
theorem wd_1015 : Jvm.Cond.code yX7_load cX7_load 2 (some .int) ∈ tALL := tALL_in (List.mem_of_getElem? (i := 594) (by decide +kernel)) (by decide +kernel)
theorem wd_1016 : Jvm.Cond.code yX7_coffee cX7_coffee 2 (some .int) ∈ tALL := tALL_in (List.mem_of_getElem? (i := 609) (by decide +kernel)) (by decide +kernel)
theorem wd_1017 : Jvm.Cond.code yX7_undo cX7_undo 3 (some .int) ∈ tALL := tALL_in (List.mem_of_getElem? (i := 621) (by decide +kernel)) (by decide +kernel)
theorem wd_1018 : Jvm.Cond.code yX7_isKeptPlace cX7_isKeptPlace 1 (some .boolean) ∈ tALL := tALL_in (List.mem_of_getElem? (i := 636) (by decide +kernel)) (by decide +kernel)
theorem wd_1019 : Jvm.Cond.code yX7_keep cX7_keep 2 (some .int) ∈ tALL := tALL_in (List.mem_of_getElem? (i := 633) (by decide +kernel)) (by decide +kernel)
theorem wd_1020 : Jvm.Cond.code yX7_on cX7_on 2 (some .int) ∈ tALL := tALL_in (List.mem_of_getElem? (i := 648) (by decide +kernel)) (by decide +kernel)
theorem wd_1021 : Jvm.Cond.code yX7_isTurns cX7_isTurns 1 (some .boolean) ∈ tALL := tALL_in (List.mem_of_getElem? (i := 655) (by decide +kernel)) (by decide +kernel)
theorem wd_1022 : Jvm.Cond.code yX7_best cX7_best 5 (some .int) ∈ tALL := tALL_in (List.mem_of_getElem? (i := 652) (by decide +kernel)) (by decide +kernel)
theorem wd_1023 : Jvm.Cond.code yX7_refuseWatches cX7_refuseWatches 3 (some .int) ∈ tALL := tALL_in (List.mem_of_getElem? (i := 690) (by decide +kernel)) (by decide +kernel)
theorem wd_1024 : Jvm.Cond.code yX7_through cX7_through 6 (some .int) ∈ tALL := tALL_in (List.mem_of_getElem? (i := 686) (by decide +kernel)) (by decide +kernel)
theorem wd_1025 : Jvm.Cond.code yX7_when cX7_when 6 (some .int) ∈ tALL := tALL_in (List.mem_of_getElem? (i := 701) (by decide +kernel)) (by decide +kernel)
theorem wd_1026 : Jvm.Cond.code yX7_refuseStrengths cX7_refuseStrengths 3 (some .int) ∈ tALL := tALL_in (List.mem_of_getElem? (i := 709) (by decide +kernel)) (by decide +kernel)
theorem wd_1027 : Jvm.Cond.code yX7_bear cX7_bear 3 (some .int) ∈ tALL := tALL_in (List.mem_of_getElem? (i := 705) (by decide +kernel)) (by decide +kernel)
theorem wd_1028 : Jvm.Cond.code yJ9_max_f86c9 cJ9_max_f86c9 4 (some .long) ∈ tALL := tALL_in (List.mem_of_getElem? (i := 750) (by decide +kernel)) (by decide +kernel)
theorem wd_1029 : Jvm.Cond.code yJ9_min_f86c9 cJ9_min_f86c9 4 (some .long) ∈ tALL := tALL_in (List.mem_of_getElem? (i := 753) (by decide +kernel)) (by decide +kernel)
theorem wd_1030 : Jvm.Cond.code yX7_commonMeasure cX7_commonMeasure 11 (some .long) ∈ tALL := tALL_in (List.mem_of_getElem? (i := 747) (by decide +kernel)) (by decide +kernel)
theorem wd_1031 : Jvm.Cond.code yX7_tellShare cX7_tellShare 7 (some .int) ∈ tALL := tALL_in (List.mem_of_getElem? (i := 744) (by decide +kernel)) (by decide +kernel)
theorem wd_1032 : Jvm.Cond.code yX7_sagged cX7_sagged 3 (some .int) ∈ tALL := tALL_in (List.mem_of_getElem? (i := 740) (by decide +kernel)) (by decide +kernel)
theorem wd_1033 : Jvm.Cond.code yX7_sure cX7_sure 3 (some .int) ∈ tALL := tALL_in (List.mem_of_getElem? (i := 757) (by decide +kernel)) (by decide +kernel)
theorem wd_1034 : Jvm.Cond.code yX7_agrees cX7_agrees 6 (some .boolean) ∈ tALL := tALL_in (List.mem_of_getElem? (i := 773) (by decide +kernel)) (by decide +kernel)
theorem wd_1035 : Jvm.Cond.code yX7_refuseTriples cX7_refuseTriples 5 (some .int) ∈ tALL := tALL_in (List.mem_of_getElem? (i := 766) (by decide +kernel)) (by decide +kernel)
theorem wd_1036 : Jvm.Cond.code yX7_lasts cX7_lasts 6 (some .int) ∈ tALL := tALL_in (List.mem_of_getElem? (i := 762) (by decide +kernel)) (by decide +kernel)
theorem wd_1037 : Jvm.Cond.code yX7_possibleKinds cX7_possibleKinds 5 (some .int) ∈ tALL := tALL_in (List.mem_of_getElem? (i := 782) (by decide +kernel)) (by decide +kernel)
theorem wd_1038 : Jvm.Cond.code yX7_kinds cX7_kinds 4 (some .int) ∈ tALL := tALL_in (List.mem_of_getElem? (i := 778) (by decide +kernel)) (by decide +kernel)
theorem wd_1039 : Jvm.Cond.code yX7_toldAs cX7_toldAs 4 (some .int) ∈ tALL := tALL_in (List.mem_of_getElem? (i := 794) (by decide +kernel)) (by decide +kernel)
theorem wd_1040 : Jvm.Cond.code yX7_greatestPartAlike cX7_greatestPartAlike 9 (some .int) ∈ tALL := tALL_in (List.mem_of_getElem? (i := 790) (by decide +kernel)) (by decide +kernel)
theorem wd_1041 : Jvm.Cond.code yX7_test cX7_test 9 (some .int) ∈ tALL := tALL_in (List.mem_of_getElem? (i := 786) (by decide +kernel)) (by decide +kernel)
theorem wd_1042 : Jvm.Cond.code yX7_pairs cX7_pairs 4 (some .int) ∈ tALL := tALL_in (List.mem_of_getElem? (i := 798) (by decide +kernel)) (by decide +kernel)
theorem wd_1043 : Jvm.Cond.code yX7_duel cX7_duel 2 (some .int) ∈ tALL := tALL_in (List.mem_of_getElem? (i := 815) (by decide +kernel)) (by decide +kernel)
theorem wd_1044 : Jvm.Cond.code yX7_isPart cX7_isPart 1 (some .boolean) ∈ tALL := tALL_in (List.mem_of_getElem? (i := 829) (by decide +kernel)) (by decide +kernel)
theorem wd_1045 : Jvm.Cond.code yX7_sleepWeight cX7_sleepWeight 4 (some .int) ∈ tALL := tALL_in (List.mem_of_getElem? (i := 837) (by decide +kernel)) (by decide +kernel)
theorem wd_1046 : Jvm.Cond.code yX7_odds cX7_odds 8 (some .int) ∈ tALL := tALL_in (List.mem_of_getElem? (i := 826) (by decide +kernel)) (by decide +kernel)
theorem wd_1047 : Jvm.Cond.code yX7_mid cX7_mid 7 (some .int) ∈ tALL := tALL_in (List.mem_of_getElem? (i := 842) (by decide +kernel)) (by decide +kernel)
theorem wd_1048 : Jvm.Cond.code yX7_doByLot cX7_doByLot 6 (none) ∈ tALL := tALL_in (List.mem_of_getElem? (i := 852) (by decide +kernel)) (by decide +kernel)
theorem wd_1049 : Jvm.Cond.code yX7_lots cX7_lots 6 (some .int) ∈ tALL := tALL_in (List.mem_of_getElem? (i := 846) (by decide +kernel)) (by decide +kernel)
theorem wd_1050 : Jvm.Cond.code yX7_asked cX7_asked 1 (some .int) ∈ tALL := tALL_in (List.mem_of_getElem? (i := 860) (by decide +kernel)) (by decide +kernel)
theorem wd_1051 : Jvm.Cond.code yX7_upper cX7_upper 1 (some .long) ∈ tALL := tALL_in (List.mem_of_getElem? (i := 864) (by decide +kernel)) (by decide +kernel)
theorem wd_1052 : Jvm.Cond.code yX7_lower cX7_lower 1 (some .long) ∈ tALL := tALL_in (List.mem_of_getElem? (i := 868) (by decide +kernel)) (by decide +kernel)
theorem wd_1053 : Jvm.Cond.code yX7_howManyKept cX7_howManyKept 3 (some .int) ∈ tALL := tALL_in (List.mem_of_getElem? (i := 884) (by decide +kernel)) (by decide +kernel)
theorem wd_1054 : Jvm.Cond.code yX7_howManyThere cX7_howManyThere 3 (some .int) ∈ tALL := tALL_in (List.mem_of_getElem? (i := 880) (by decide +kernel)) (by decide +kernel)
theorem wd_1055 : Jvm.Cond.code yX7_count cX7_count 2 (some .int) ∈ tALL := tALL_in (List.mem_of_getElem? (i := 872) (by decide +kernel)) (by decide +kernel)
theorem wd_1056 : Jvm.Cond.code yX7_finding cX7_finding 1 (some .int) ∈ tALL := tALL_in (List.mem_of_getElem? (i := 888) (by decide +kernel)) (by decide +kernel)
theorem wd_1057 : Jvm.Cond.code yX7_findings cX7_findings 2 (some .int) ∈ tALL := tALL_in (List.mem_of_getElem? (i := 892) (by decide +kernel)) (by decide +kernel)
theorem wd_1058 : Jvm.Cond.code yX7_addPlaces cX7_addPlaces 8 (some .long) ∈ tALL := tALL_in (List.mem_of_getElem? (i := 902) (by decide +kernel)) (by decide +kernel)
theorem wd_1059 : Jvm.Cond.code yX7_digest cX7_digest 5 (some .long) ∈ tALL := tALL_in (List.mem_of_getElem? (i := 896) (by decide +kernel)) (by decide +kernel)
theorem wd_1060 : Jvm.Cond.code yX8_init cX8_init 2 (none) ∈ tALL := tALL_in (List.mem_of_getElem? (i := 907) (by decide +kernel)) (by decide +kernel)
theorem wd_1061 : Jvm.Cond.code yX8_in cX8_in 6 (some .boolean) ∈ tALL := tALL_in (List.mem_of_getElem? (i := 1031) (by decide +kernel)) (by decide +kernel)
theorem wd_1062 : Jvm.Cond.code yX8_least cX8_least 2 (some .int) ∈ tALL := tALL_in (List.mem_of_getElem? (i := 1194) (by decide +kernel)) (by decide +kernel)
theorem wd_1063 : Jvm.Cond.code yX8_most cX8_most 2 (some .int) ∈ tALL := tALL_in (List.mem_of_getElem? (i := 1145) (by decide +kernel)) (by decide +kernel)
theorem wd_1064 : Jvm.Cond.code yX8_has cX8_has 2 (some .boolean) ∈ tALL := tALL_in (List.mem_of_getElem? (i := 1163) (by decide +kernel)) (by decide +kernel)
theorem wd_1065 : Jvm.Cond.code yX8_refuse cX8_refuse 2 (some .int) ∈ tALL := tALL_in (List.mem_of_getElem? (i := 1035) (by decide +kernel)) (by decide +kernel)
theorem wd_1066 : Jvm.Cond.code yX8_isRow cX8_isRow 1 (some .boolean) ∈ tALL := tALL_in (List.mem_of_getElem? (i := 1027) (by decide +kernel)) (by decide +kernel)
theorem wd_1067 : Jvm.Cond.code yX8_isText cX8_isText 1 (some .boolean) ∈ tALL := tALL_in (List.mem_of_getElem? (i := 1066) (by decide +kernel)) (by decide +kernel)
theorem wd_1068 : Jvm.Cond.code yX8_row cX8_row 4 (some .int) ∈ tALL := tALL_in (List.mem_of_getElem? (i := 1024) (by decide +kernel)) (by decide +kernel)
theorem wd_1069 : Jvm.Cond.code yX8_refusedPlace cX8_refusedPlace 3 (some .int) ∈ tALL := tALL_in (List.mem_of_getElem? (i := 1043) (by decide +kernel)) (by decide +kernel)
theorem wd_1070 : Jvm.Cond.code yX8_lay cX8_lay 5 (some .int) ∈ tALL := tALL_in (List.mem_of_getElem? (i := 1039) (by decide +kernel)) (by decide +kernel)
theorem wd_1071 : Jvm.Cond.code yX8_at cX8_at 4 (some .int) ∈ tALL := tALL_in (List.mem_of_getElem? (i := 1047) (by decide +kernel)) (by decide +kernel)
theorem wd_1072 : Jvm.Cond.code yX8_tear cX8_tear 2 (some .int) ∈ tALL := tALL_in (List.mem_of_getElem? (i := 1051) (by decide +kernel)) (by decide +kernel)
theorem wd_1073 : Jvm.Cond.code yX8_copy cX8_copy 7 (some .int) ∈ tALL := tALL_in (List.mem_of_getElem? (i := 1055) (by decide +kernel)) (by decide +kernel)
theorem wd_1074 : Jvm.Cond.code yX8_mean cX8_mean 5 (some .int) ∈ tALL := tALL_in (List.mem_of_getElem? (i := 1059) (by decide +kernel)) (by decide +kernel)
theorem wd_1075 : Jvm.Cond.code yX8_text cX8_text 4 (some .int) ∈ tALL := tALL_in (List.mem_of_getElem? (i := 1063) (by decide +kernel)) (by decide +kernel)
theorem wd_1076 : Jvm.Cond.code yX8_put cX8_put 5 (some .int) ∈ tALL := tALL_in (List.mem_of_getElem? (i := 1071) (by decide +kernel)) (by decide +kernel)
theorem wd_1077 : Jvm.Cond.code yX8_sign cX8_sign 1 (some .int) ∈ tALL := tALL_in (List.mem_of_getElem? (i := 1087) (by decide +kernel)) (by decide +kernel)
theorem wd_1078 : Jvm.Cond.code yX8_blanks cX8_blanks 1 (none) ∈ tALL := tALL_in (List.mem_of_getElem? (i := 1083) (by decide +kernel)) (by decide +kernel)
theorem wd_1079 : Jvm.Cond.code yX8_want cX8_want 3 (some .boolean) ∈ tALL := tALL_in (List.mem_of_getElem? (i := 1095) (by decide +kernel)) (by decide +kernel)
theorem wd_1080 : Jvm.Cond.code yX8_figure cX8_figure 2 (some .int) ∈ tALL := tALL_in (List.mem_of_getElem? (i := 1099) (by decide +kernel)) (by decide +kernel)
theorem wd_1081 : Jvm.Cond.code yX8_readFirst cX8_readFirst 4 (none) ∈ tALL := tALL_in (List.mem_of_getElem? (i := 1091) (by decide +kernel)) (by decide +kernel)
theorem wd_1082 : Jvm.Cond.code yX8_kindOf cX8_kindOf 1 (some .int) ∈ tALL := tALL_in (List.mem_of_getElem? (i := 1104) (by decide +kernel)) (by decide +kernel)
theorem wd_1083 : Jvm.Cond.code yX8_readOne cX8_readOne 2 (none) ∈ tALL := tALL_in (List.mem_of_getElem? (i := 1108) (by decide +kernel)) (by decide +kernel)
theorem wd_1084 : Jvm.Cond.code yX8_readQuarrel cX8_readQuarrel 5 (none) ∈ tALL := tALL_in (List.mem_of_getElem? (i := 1112) (by decide +kernel)) (by decide +kernel)
theorem wd_1085 : Jvm.Cond.code yX8_read cX8_read 3 (some .int) ∈ tALL := tALL_in (List.mem_of_getElem? (i := 1079) (by decide +kernel)) (by decide +kernel)
theorem wd_1086 : Jvm.Cond.code yX8_fault cX8_fault 2 (some .int) ∈ tALL := tALL_in (List.mem_of_getElem? (i := 1075) (by decide +kernel)) (by decide +kernel)
theorem wd_1087 : Jvm.Cond.code yX8_bridge cX8_bridge 3 (some .int) ∈ tALL := tALL_in (List.mem_of_getElem? (i := 1116) (by decide +kernel)) (by decide +kernel)
theorem wd_1088 : Jvm.Cond.code yX8_talker cX8_talker 4 (some .int) ∈ tALL := tALL_in (List.mem_of_getElem? (i := 1142) (by decide +kernel)) (by decide +kernel)
theorem wd_1089 : Jvm.Cond.code yX8_tells cX8_tells 6 (some .int) ∈ tALL := tALL_in (List.mem_of_getElem? (i := 1139) (by decide +kernel)) (by decide +kernel)
theorem wd_1090 : Jvm.Cond.code yX8_hourIn cX8_hourIn 2 (some .int) ∈ tALL := tALL_in (List.mem_of_getElem? (i := 1136) (by decide +kernel)) (by decide +kernel)
theorem wd_1091 : Jvm.Cond.code yX8_tellsIn cX8_tellsIn 3 (some .int) ∈ tALL := tALL_in (List.mem_of_getElem? (i := 1132) (by decide +kernel)) (by decide +kernel)
theorem wd_1092 : Jvm.Cond.code yX8_bothIn cX8_bothIn 4 (some .int) ∈ tALL := tALL_in (List.mem_of_getElem? (i := 1160) (by decide +kernel)) (by decide +kernel)
theorem wd_1093 : Jvm.Cond.code yX8_talkIn cX8_talkIn 5 (some .int) ∈ tALL := tALL_in (List.mem_of_getElem? (i := 1175) (by decide +kernel)) (by decide +kernel)
theorem wd_1094 : Jvm.Cond.code yX8_isOne cX8_isOne 2 (some .boolean) ∈ tALL := tALL_in (List.mem_of_getElem? (i := 1124) (by decide +kernel)) (by decide +kernel)
theorem wd_1095 : Jvm.Cond.code yX8_isPair cX8_isPair 3 (some .boolean) ∈ tALL := tALL_in (List.mem_of_getElem? (i := 1171) (by decide +kernel)) (by decide +kernel)
theorem wd_1096 : Jvm.Cond.code yX8_told cX8_told 3 (some .int) ∈ tALL := tALL_in (List.mem_of_getElem? (i := 1128) (by decide +kernel)) (by decide +kernel)
theorem wd_1097 : Jvm.Cond.code yX8_one cX8_one 3 (some .int) ∈ tALL := tALL_in (List.mem_of_getElem? (i := 1120) (by decide +kernel)) (by decide +kernel)
theorem wd_1098 : Jvm.Cond.code yX8_isOf cX8_isOf 2 (some .boolean) ∈ tALL := tALL_in (List.mem_of_getElem? (i := 1152) (by decide +kernel)) (by decide +kernel)
theorem wd_1099 : Jvm.Cond.code yX8_halves cX8_halves 4 (some .int) ∈ tALL := tALL_in (List.mem_of_getElem? (i := 1156) (by decide +kernel)) (by decide +kernel)
theorem wd_1100 : Jvm.Cond.code yX8_mark cX8_mark 5 (some .int) ∈ tALL := tALL_in (List.mem_of_getElem? (i := 1149) (by decide +kernel)) (by decide +kernel)
theorem wd_1101 : Jvm.Cond.code yX8_talk cX8_talk 3 (some .int) ∈ tALL := tALL_in (List.mem_of_getElem? (i := 1167) (by decide +kernel)) (by decide +kernel)
theorem wd_1102 : Jvm.Cond.code yX8_take cX8_take 5 (none) ∈ tALL := tALL_in (List.mem_of_getElem? (i := 1187) (by decide +kernel)) (by decide +kernel)
theorem wd_1103 : Jvm.Cond.code yX8_remember cX8_remember 1 (none) ∈ tALL := tALL_in (List.mem_of_getElem? (i := 1183) (by decide +kernel)) (by decide +kernel)
theorem wd_1104 : Jvm.Cond.code yX8_watchIn cX8_watchIn 6 (none) ∈ tALL := tALL_in (List.mem_of_getElem? (i := 1191) (by decide +kernel)) (by decide +kernel)
theorem wd_1105 : Jvm.Cond.code yX8_watch cX8_watch 3 (some .int) ∈ tALL := tALL_in (List.mem_of_getElem? (i := 1179) (by decide +kernel)) (by decide +kernel)
theorem wd_1106 : Jvm.Cond.code yX8_send cX8_send 3 (some .int) ∈ tALL := tALL_in (List.mem_of_getElem? (i := 1203) (by decide +kernel)) (by decide +kernel)
theorem wd_1107 : Jvm.Cond.code yX8_load cX8_load 2 (some .int) ∈ tALL := tALL_in (List.mem_of_getElem? (i := 1198) (by decide +kernel)) (by decide +kernel)
theorem wd_1108 : Jvm.Cond.code yX8_coffee cX8_coffee 2 (some .int) ∈ tALL := tALL_in (List.mem_of_getElem? (i := 1207) (by decide +kernel)) (by decide +kernel)
theorem wd_1109 : Jvm.Cond.code yX8_undo cX8_undo 3 (some .int) ∈ tALL := tALL_in (List.mem_of_getElem? (i := 1211) (by decide +kernel)) (by decide +kernel)
theorem wd_1110 : Jvm.Cond.code yX8_keep cX8_keep 2 (some .int) ∈ tALL := tALL_in (List.mem_of_getElem? (i := 1215) (by decide +kernel)) (by decide +kernel)
theorem wd_1111 : Jvm.Cond.code yX8_on cX8_on 2 (some .int) ∈ tALL := tALL_in (List.mem_of_getElem? (i := 1220) (by decide +kernel)) (by decide +kernel)
theorem wd_1112 : Jvm.Cond.code yX8_layPairs cX8_layPairs 3 (none) ∈ tALL := tALL_in (List.mem_of_getElem? (i := 1228) (by decide +kernel)) (by decide +kernel)
theorem wd_1113 : Jvm.Cond.code yX8_ways cX8_ways 4 (some .int) ∈ tALL := tALL_in (List.mem_of_getElem? (i := 1232) (by decide +kernel)) (by decide +kernel)
theorem wd_1114 : Jvm.Cond.code yX8_pairOf cX8_pairOf 6 (some .int) ∈ tALL := tALL_in (List.mem_of_getElem? (i := 1240) (by decide +kernel)) (by decide +kernel)
theorem wd_1115 : Jvm.Cond.code yX8_watchBy cX8_watchBy 2 (none) ∈ tALL := tALL_in (List.mem_of_getElem? (i := 1244) (by decide +kernel)) (by decide +kernel)
theorem wd_1116 : Jvm.Cond.code yX8_behind cX8_behind 4 (some .int) ∈ tALL := tALL_in (List.mem_of_getElem? (i := 1236) (by decide +kernel)) (by decide +kernel)
theorem wd_1117 : Jvm.Cond.code yX8_newRow cX8_newRow 3 (none) ∈ tALL := tALL_in (List.mem_of_getElem? (i := 1248) (by decide +kernel)) (by decide +kernel)
theorem wd_1118 : Jvm.Cond.code yX8_best cX8_best 7 (some .int) ∈ tALL := tALL_in (List.mem_of_getElem? (i := 1224) (by decide +kernel)) (by decide +kernel)
theorem wd_1119 : Jvm.Cond.code yX8_isNumber cX8_isNumber 2 (some .boolean) ∈ tALL := tALL_in (List.mem_of_getElem? (i := 1260) (by decide +kernel)) (by decide +kernel)
theorem wd_1120 : Jvm.Cond.code yX8_refusedWatches cX8_refusedWatches 3 (some .int) ∈ tALL := tALL_in (List.mem_of_getElem? (i := 1256) (by decide +kernel)) (by decide +kernel)
theorem wd_1121 : Jvm.Cond.code yX8_through cX8_through 5 (some .int) ∈ tALL := tALL_in (List.mem_of_getElem? (i := 1252) (by decide +kernel)) (by decide +kernel)
theorem wd_1122 : Jvm.Cond.code yX8_when cX8_when 5 (some .int) ∈ tALL := tALL_in (List.mem_of_getElem? (i := 1264) (by decide +kernel)) (by decide +kernel)
theorem wd_1123 : Jvm.Cond.code yX8_refusedStrengths cX8_refusedStrengths 3 (some .int) ∈ tALL := tALL_in (List.mem_of_getElem? (i := 1272) (by decide +kernel)) (by decide +kernel)
theorem wd_1124 : Jvm.Cond.code yX8_howMany cX8_howMany 3 (some .int) ∈ tALL := tALL_in (List.mem_of_getElem? (i := 1279) (by decide +kernel)) (by decide +kernel)
theorem wd_1125 : Jvm.Cond.code yX8_peopleOf cX8_peopleOf 6 (some .int) ∈ tALL := tALL_in (List.mem_of_getElem? (i := 1276) (by decide +kernel)) (by decide +kernel)
theorem wd_1126 : Jvm.Cond.code yX8_isSo cX8_isSo 8 (some .boolean) ∈ tALL := tALL_in (List.mem_of_getElem? (i := 1283) (by decide +kernel)) (by decide +kernel)
theorem wd_1127 : Jvm.Cond.code yX8_bear cX8_bear 9 (some .int) ∈ tALL := tALL_in (List.mem_of_getElem? (i := 1268) (by decide +kernel)) (by decide +kernel)
theorem wd_1128 : Jvm.Cond.code yX8_laySo cX8_laySo 4 (none) ∈ tALL := tALL_in (List.mem_of_getElem? (i := 1291) (by decide +kernel)) (by decide +kernel)
theorem wd_1129 : Jvm.Cond.code yX8_sagged cX8_sagged 3 (some .int) ∈ tALL := tALL_in (List.mem_of_getElem? (i := 1287) (by decide +kernel)) (by decide +kernel)
theorem wd_1130 : Jvm.Cond.code yX8_sure cX8_sure 3 (some .int) ∈ tALL := tALL_in (List.mem_of_getElem? (i := 1295) (by decide +kernel)) (by decide +kernel)
theorem wd_1131 : Jvm.Cond.code yX8_refusedTriples cX8_refusedTriples 4 (some .int) ∈ tALL := tALL_in (List.mem_of_getElem? (i := 1303) (by decide +kernel)) (by decide +kernel)
theorem wd_1132 : Jvm.Cond.code yX8_fits cX8_fits 8 (some .boolean) ∈ tALL := tALL_in (List.mem_of_getElem? (i := 1310) (by decide +kernel)) (by decide +kernel)
theorem wd_1133 : Jvm.Cond.code yX8_lasts cX8_lasts 6 (some .int) ∈ tALL := tALL_in (List.mem_of_getElem? (i := 1299) (by decide +kernel)) (by decide +kernel)
theorem wd_1134 : Jvm.Cond.code yX8_kindsBy cX8_kindsBy 5 (some .int) ∈ tALL := tALL_in (List.mem_of_getElem? (i := 1318) (by decide +kernel)) (by decide +kernel)
theorem wd_1135 : Jvm.Cond.code yX8_kinds cX8_kinds 4 (some .int) ∈ tALL := tALL_in (List.mem_of_getElem? (i := 1314) (by decide +kernel)) (by decide +kernel)
theorem wd_1136 : Jvm.Cond.code yX8_greatestPart cX8_greatestPart 9 (some .int) ∈ tALL := tALL_in (List.mem_of_getElem? (i := 1326) (by decide +kernel)) (by decide +kernel)
theorem wd_1137 : Jvm.Cond.code yX8_test cX8_test 9 (some .int) ∈ tALL := tALL_in (List.mem_of_getElem? (i := 1322) (by decide +kernel)) (by decide +kernel)
theorem wd_1138 : Jvm.Cond.code yX8_layWay cX8_layWay 8 (some .int) ∈ tALL := tALL_in (List.mem_of_getElem? (i := 1334) (by decide +kernel)) (by decide +kernel)
theorem wd_1139 : Jvm.Cond.code yX8_isAhead cX8_isAhead 2 (some .boolean) ∈ tALL := tALL_in (List.mem_of_getElem? (i := 1338) (by decide +kernel)) (by decide +kernel)
theorem wd_1140 : Jvm.Cond.code yX8_pairs cX8_pairs 7 (some .int) ∈ tALL := tALL_in (List.mem_of_getElem? (i := 1330) (by decide +kernel)) (by decide +kernel)
theorem wd_1141 : Jvm.Cond.code yX8_duel cX8_duel 8 (some .int) ∈ tALL := tALL_in (List.mem_of_getElem? (i := 1342) (by decide +kernel)) (by decide +kernel)
theorem wd_1142 : Jvm.Cond.code yX8_divisor cX8_divisor 10 (some .long) ∈ tALL := tALL_in (List.mem_of_getElem? (i := 1362) (by decide +kernel)) (by decide +kernel)
theorem wd_1143 : Jvm.Cond.code yX8_tell cX8_tell 7 (none) ∈ tALL := tALL_in (List.mem_of_getElem? (i := 1359) (by decide +kernel)) (by decide +kernel)
theorem wd_1144 : Jvm.Cond.code yX8_strength cX8_strength 5 (some .int) ∈ tALL := tALL_in (List.mem_of_getElem? (i := 1351) (by decide +kernel)) (by decide +kernel)
theorem wd_1145 : Jvm.Cond.code yX8_weight cX8_weight 2 (some .int) ∈ tALL := tALL_in (List.mem_of_getElem? (i := 1354) (by decide +kernel)) (by decide +kernel)
theorem wd_1146 : Jvm.Cond.code yX8_odds cX8_odds 7 (some .int) ∈ tALL := tALL_in (List.mem_of_getElem? (i := 1346) (by decide +kernel)) (by decide +kernel)
theorem wd_1147 : Jvm.Cond.code yX8_mid cX8_mid 6 (some .int) ∈ tALL := tALL_in (List.mem_of_getElem? (i := 1366) (by decide +kernel)) (by decide +kernel)
theorem wd_1148 : Jvm.Cond.code yX8_lots cX8_lots 8 (some .int) ∈ tALL := tALL_in (List.mem_of_getElem? (i := 1370) (by decide +kernel)) (by decide +kernel)
theorem wd_1149 : Jvm.Cond.code yX8_asked cX8_asked 1 (some .int) ∈ tALL := tALL_in (List.mem_of_getElem? (i := 1381) (by decide +kernel)) (by decide +kernel)
theorem wd_1150 : Jvm.Cond.code yX8_upper cX8_upper 1 (some .long) ∈ tALL := tALL_in (List.mem_of_getElem? (i := 1385) (by decide +kernel)) (by decide +kernel)
theorem wd_1151 : Jvm.Cond.code yX8_lower cX8_lower 1 (some .long) ∈ tALL := tALL_in (List.mem_of_getElem? (i := 1389) (by decide +kernel)) (by decide +kernel)
theorem wd_1152 : Jvm.Cond.code yX8_lovers cX8_lovers 3 (some .int) ∈ tALL := tALL_in (List.mem_of_getElem? (i := 1397) (by decide +kernel)) (by decide +kernel)
theorem wd_1153 : Jvm.Cond.code yX8_there cX8_there 4 (some .int) ∈ tALL := tALL_in (List.mem_of_getElem? (i := 1400) (by decide +kernel)) (by decide +kernel)
theorem wd_1154 : Jvm.Cond.code yX8_count cX8_count 2 (some .int) ∈ tALL := tALL_in (List.mem_of_getElem? (i := 1393) (by decide +kernel)) (by decide +kernel)
theorem wd_1155 : Jvm.Cond.code yX8_finding cX8_finding 1 (some .int) ∈ tALL := tALL_in (List.mem_of_getElem? (i := 1404) (by decide +kernel)) (by decide +kernel)
theorem wd_1156 : Jvm.Cond.code yX8_findings cX8_findings 2 (some .int) ∈ tALL := tALL_in (List.mem_of_getElem? (i := 1408) (by decide +kernel)) (by decide +kernel)
theorem wd_1157 : Jvm.Cond.code yX8_mixAll cX8_mixAll 10 (some .long) ∈ tALL := tALL_in (List.mem_of_getElem? (i := 1418) (by decide +kernel)) (by decide +kernel)
theorem wd_1158 : Jvm.Cond.code yX8_digest cX8_digest 5 (some .long) ∈ tALL := tALL_in (List.mem_of_getElem? (i := 1412) (by decide +kernel)) (by decide +kernel)
theorem ck_X0 : ∀ w ∈ u_ws RX0 TX0 7, w ∈ tALL := ck_of 7 (by decide +kernel)
theorem df_X0 : ∀ X, ∀ j, j < 7 → defaultValue (tyX0 j) = vp_V (([.null, .null, .null, .null, .int 0, .int 0, .int 0] : List Value).map (cv X)) j := by
  intro X j hj
  match j, hj with
  | 0, _ => rfl
  | 1, _ => rfl
  | 2, _ => rfl
  | 3, _ => rfl
  | 4, _ => rfl
  | 5, _ => rfl
  | 6, _ => rfl
  | j + 7, h => exact absurd h (by omega)
theorem ck_X1 : ∀ w ∈ u_ws RX1 TX1 4, w ∈ tALL := ck_of 4 (by decide +kernel)
theorem df_X1 : ∀ X, ∀ j, j < 4 → defaultValue (tyX1 j) = vp_V (([.null, .null, .int 0, .int 0] : List Value).map (cv X)) j := by
  intro X j hj
  match j, hj with
  | 0, _ => rfl
  | 1, _ => rfl
  | 2, _ => rfl
  | 3, _ => rfl
  | j + 4, h => exact absurd h (by omega)
theorem ck_X2 : ∀ w ∈ u_ws RX2 TX2 3, w ∈ tALL := ck_of 3 (by decide +kernel)
theorem df_X2 : ∀ X, ∀ j, j < 3 → defaultValue (tyX2 j) = vp_V (([.null, .null, .int 0] : List Value).map (cv X)) j := by
  intro X j hj
  match j, hj with
  | 0, _ => rfl
  | 1, _ => rfl
  | 2, _ => rfl
  | j + 3, h => exact absurd h (by omega)
theorem ck_X3 : ∀ w ∈ u_ws RX3 TX3 7, w ∈ tALL := ck_of 7 (by decide +kernel)
theorem df_X3 : ∀ X, ∀ j, j < 7 → defaultValue (tyX3 j) = vp_V (([.null, .null, .int 0, .int 0, .int 0, .int 0, .int 0] : List Value).map (cv X)) j := by
  intro X j hj
  match j, hj with
  | 0, _ => rfl
  | 1, _ => rfl
  | 2, _ => rfl
  | 3, _ => rfl
  | 4, _ => rfl
  | 5, _ => rfl
  | 6, _ => rfl
  | j + 7, h => exact absurd h (by omega)
theorem ck_X4 : ∀ w ∈ u_ws RX4 TX4 2, w ∈ tALL := ck_of 2 (by decide +kernel)
theorem df_X4 : ∀ X, ∀ j, j < 2 → defaultValue (tyX4 j) = vp_V (([.null, .int 0] : List Value).map (cv X)) j := by
  intro X j hj
  match j, hj with
  | 0, _ => rfl
  | 1, _ => rfl
  | j + 2, h => exact absurd h (by omega)
theorem ck_X5 : ∀ w ∈ u_ws RX5 TX5 4, w ∈ tALL := ck_of 4 (by decide +kernel)
theorem df_X5 : ∀ X, ∀ j, j < 4 → defaultValue (tyX5 j) = vp_V (([.null, .int 0, .int 0, .int 0] : List Value).map (cv X)) j := by
  intro X j hj
  match j, hj with
  | 0, _ => rfl
  | 1, _ => rfl
  | 2, _ => rfl
  | 3, _ => rfl
  | j + 4, h => exact absurd h (by omega)
theorem ck_X6 : ∀ w ∈ u_ws RX6 TX6 12, w ∈ tALL := ck_of 12 (by decide +kernel)
theorem df_X6 : ∀ X, ∀ j, j < 12 → defaultValue (tyX6 j) = vp_V (([.null, .null, .null, .null, .int 0, .int 0, .int 0, .int 0, .int 0, .int 0, .int 0, .int 0] : List Value).map (cv X)) j := by
  intro X j hj
  match j, hj with
  | 0, _ => rfl
  | 1, _ => rfl
  | 2, _ => rfl
  | 3, _ => rfl
  | 4, _ => rfl
  | 5, _ => rfl
  | 6, _ => rfl
  | 7, _ => rfl
  | 8, _ => rfl
  | 9, _ => rfl
  | 10, _ => rfl
  | 11, _ => rfl
  | j + 12, h => exact absurd h (by omega)
theorem ck_X7 : ∀ w ∈ u_ws RX7 TX7 13, w ∈ tALL := ck_of 13 (by decide +kernel)
theorem df_X7 : ∀ X, ∀ j, j < 13 → defaultValue (tyX7 j) = vp_V (([.null, .null, .null, .null, .null, .null, .null, .null, .null, .int 0, .int 0, .long 0, .long 0] : List Value).map (cv X)) j := by
  intro X j hj
  match j, hj with
  | 0, _ => rfl
  | 1, _ => rfl
  | 2, _ => rfl
  | 3, _ => rfl
  | 4, _ => rfl
  | 5, _ => rfl
  | 6, _ => rfl
  | 7, _ => rfl
  | 8, _ => rfl
  | 9, _ => rfl
  | 10, _ => rfl
  | 11, _ => rfl
  | 12, _ => rfl
  | j + 13, h => exact absurd h (by omega)
theorem ck_X8 : ∀ w ∈ u_ws RX8 TX8 37, w ∈ tALL := ck_of 37 (by decide +kernel)
theorem df_X8 : ∀ X, ∀ j, j < 37 → defaultValue (tyX8 j) = vp_V (([.null, .null, .null, .null, .null, .null, .null, .null, .null, .null, .int 0, .int 0, .int 0, .null, .int 0, .long 0, .long 0, .null, .int 0, .int 0, .int 0, .int 0, .int 0, .int 0, .null, .null, .null, .null, .null, .int 0, .int 0, .int 0, .int 0, .int 0, .null, .null, .null] : List Value).map (cv X)) j := by
  intro X j hj
  match j, hj with
  | 0, _ => rfl
  | 1, _ => rfl
  | 2, _ => rfl
  | 3, _ => rfl
  | 4, _ => rfl
  | 5, _ => rfl
  | 6, _ => rfl
  | 7, _ => rfl
  | 8, _ => rfl
  | 9, _ => rfl
  | 10, _ => rfl
  | 11, _ => rfl
  | 12, _ => rfl
  | 13, _ => rfl
  | 14, _ => rfl
  | 15, _ => rfl
  | 16, _ => rfl
  | 17, _ => rfl
  | 18, _ => rfl
  | 19, _ => rfl
  | 20, _ => rfl
  | 21, _ => rfl
  | 22, _ => rfl
  | 23, _ => rfl
  | 24, _ => rfl
  | 25, _ => rfl
  | 26, _ => rfl
  | 27, _ => rfl
  | 28, _ => rfl
  | 29, _ => rfl
  | 30, _ => rfl
  | 31, _ => rfl
  | 32, _ => rfl
  | 33, _ => rfl
  | 34, _ => rfl
  | 35, _ => rfl
  | 36, _ => rfl
  | j + 37, h => exact absurd h (by omega)
theorem fr_X0_11 : FR RX0 11 0 0 (.array .int) true := ⟨RX0, TX0, 7, tyX0, rfl, ck_X0, tyX0_ok, nmX0, by decide, rfl, rfl, Or.inl wd_4, fun _ => ⟨rfl, wd_4⟩⟩
theorem fr_X0_15 : FR RX0 15 0 1 (.array .int) true := ⟨RX0, TX0, 7, tyX0, rfl, ck_X0, tyX0_ok, nmX0, by decide, rfl, rfl, Or.inl wd_5, fun _ => ⟨rfl, wd_5⟩⟩
theorem fr_X0_18 : FR RX0 18 0 2 (.array .int) true := ⟨RX0, TX0, 7, tyX0, rfl, ck_X0, tyX0_ok, nmX0, by decide, rfl, rfl, Or.inl wd_6, fun _ => ⟨rfl, wd_6⟩⟩
theorem fr_X0_21 : FR RX0 21 0 3 (.array .int) true := ⟨RX0, TX0, 7, tyX0, rfl, ck_X0, tyX0_ok, nmX0, by decide, rfl, rfl, Or.inl wd_7, fun _ => ⟨rfl, wd_7⟩⟩
theorem fr_X0_24 : FR RX0 24 0 4 .int false := ⟨RX0, TX0, 7, tyX0, rfl, ck_X0, tyX0_ok, nmX0, by decide, rfl, rfl, Or.inl wd_8, fun h => by cases h⟩
theorem fr_X0_28 : FR RX0 28 0 5 .int false := ⟨RX0, TX0, 7, tyX0, rfl, ck_X0, tyX0_ok, nmX0, by decide, rfl, rfl, Or.inl wd_9, fun h => by cases h⟩
theorem fr_X0_31 : FR RX0 31 0 6 .int false := ⟨RX0, TX0, 7, tyX0, rfl, ck_X0, tyX0_ok, nmX0, by decide, rfl, rfl, Or.inl wd_10, fun h => by cases h⟩
theorem fr_X1_11 : FR RX1 11 1 0 (.array .int) true := ⟨RX1, TX1, 4, tyX1, rfl, ck_X1, tyX1_ok, nmX1, by decide, rfl, rfl, Or.inl wd_29, fun _ => ⟨rfl, wd_29⟩⟩
theorem fr_X1_17 : FR RX1 17 1 1 (.array .int) true := ⟨RX1, TX1, 4, tyX1, rfl, ck_X1, tyX1_ok, nmX1, by decide, rfl, rfl, Or.inl wd_30, fun _ => ⟨rfl, wd_30⟩⟩
theorem fr_X1_20 : FR RX1 20 1 2 .int false := ⟨RX1, TX1, 4, tyX1, rfl, ck_X1, tyX1_ok, nmX1, by decide, rfl, rfl, Or.inl wd_31, fun h => by cases h⟩
theorem fr_X1_24 : FR RX1 24 1 3 .int false := ⟨RX1, TX1, 4, tyX1, rfl, ck_X1, tyX1_ok, nmX1, by decide, rfl, rfl, Or.inl wd_32, fun h => by cases h⟩
theorem fr_X1_33 : FR RX1 33 0 5 .int false := ⟨RX0, TX0, 7, tyX0, rfl, ck_X0, tyX0_ok, nmX0, by decide, rfl, rfl, Or.inr ⟨_, wd_34⟩, fun h => by cases h⟩
theorem fr_X1_52 : FG RX1 52 0 0 := ⟨RX0, TX0, 7, rfl, ck_X0, by decide, Or.inr ⟨_, wd_45⟩⟩
theorem fr_X1_62 : FG RX1 62 0 3 := ⟨RX0, TX0, 7, rfl, ck_X0, by decide, Or.inr ⟨_, wd_48⟩⟩
theorem fr_X1_82 : FG RX1 82 0 1 := ⟨RX0, TX0, 7, rfl, ck_X0, by decide, Or.inr ⟨_, wd_63⟩⟩
theorem fr_X1_85 : FG RX1 85 0 2 := ⟨RX0, TX0, 7, rfl, ck_X0, by decide, Or.inr ⟨_, wd_64⟩⟩
theorem fr_X2_11 : FR RX2 11 2 0 (.array .int) true := ⟨RX2, TX2, 3, tyX2, rfl, ck_X2, tyX2_ok, nmX2, by decide, rfl, rfl, Or.inl wd_67, fun _ => ⟨rfl, wd_67⟩⟩
theorem fr_X2_17 : FR RX2 17 2 1 (.array .int) true := ⟨RX2, TX2, 3, tyX2, rfl, ck_X2, tyX2_ok, nmX2, by decide, rfl, rfl, Or.inl wd_68, fun _ => ⟨rfl, wd_68⟩⟩
theorem fr_X2_20 : FR RX2 20 2 2 .int false := ⟨RX2, TX2, 3, tyX2, rfl, ck_X2, tyX2_ok, nmX2, by decide, rfl, rfl, Or.inl wd_69, fun h => by cases h⟩
theorem fr_X2_30 : FR RX2 30 0 4 .int false := ⟨RX0, TX0, 7, tyX0, rfl, ck_X0, tyX0_ok, nmX0, by decide, rfl, rfl, Or.inr ⟨_, wd_71⟩, fun h => by cases h⟩
theorem fr_X3_10 : FR RX3 10 3 0 (.object "BridgeAwake$Hold") true := ⟨RX3, TX3, 7, tyX3, rfl, ck_X3, tyX3_ok, nmX3, by decide, rfl, rfl, Or.inl wd_84, fun _ => ⟨rfl, wd_84⟩⟩
theorem fr_X3_16 : FR RX3 16 3 1 (.array .int) true := ⟨RX3, TX3, 7, tyX3, rfl, ck_X3, tyX3_ok, nmX3, by decide, rfl, rfl, Or.inl wd_85, fun _ => ⟨rfl, wd_85⟩⟩
theorem fr_X3_20 : FR RX3 20 3 2 .int false := ⟨RX3, TX3, 7, tyX3, rfl, ck_X3, tyX3_ok, nmX3, by decide, rfl, rfl, Or.inl wd_86, fun h => by cases h⟩
theorem fr_X3_24 : FR RX3 24 3 3 .int false := ⟨RX3, TX3, 7, tyX3, rfl, ck_X3, tyX3_ok, nmX3, by decide, rfl, rfl, Or.inl wd_87, fun h => by cases h⟩
theorem fr_X3_27 : FR RX3 27 3 4 .int false := ⟨RX3, TX3, 7, tyX3, rfl, ck_X3, tyX3_ok, nmX3, by decide, rfl, rfl, Or.inl wd_88, fun h => by cases h⟩
theorem fr_X3_30 : FR RX3 30 3 5 .int false := ⟨RX3, TX3, 7, tyX3, rfl, ck_X3, tyX3_ok, nmX3, by decide, rfl, rfl, Or.inl wd_89, fun h => by cases h⟩
theorem fr_X3_33 : FR RX3 33 3 6 .boolean false := ⟨RX3, TX3, 7, tyX3, rfl, ck_X3, tyX3_ok, nmX3, by decide, rfl, rfl, Or.inl wd_90, fun h => by cases h⟩
theorem fr_X3_41 : FR RX3 41 0 6 .int false := ⟨RX0, TX0, 7, tyX0, rfl, ck_X0, tyX0_ok, nmX0, by decide, rfl, rfl, Or.inr ⟨_, wd_94⟩, fun h => by cases h⟩
theorem fr_X3_56 : FR RX3 56 1 2 .int false := ⟨RX1, TX1, 4, tyX1, rfl, ck_X1, tyX1_ok, nmX1, by decide, rfl, rfl, Or.inr ⟨_, wd_105⟩, fun h => by cases h⟩
theorem fr_X4_12 : FR RX4 12 4 0 (.object "BridgeAwake$Folk") true := ⟨RX4, TX4, 2, tyX4, rfl, ck_X4, tyX4_ok, nmX4, by decide, rfl, rfl, Or.inl wd_126, fun _ => ⟨rfl, wd_126⟩⟩
theorem fr_X4_18 : FR RX4 18 4 1 .int false := ⟨RX4, TX4, 2, tyX4, rfl, ck_X4, tyX4_ok, nmX4, by decide, rfl, rfl, Or.inl wd_127, fun h => by cases h⟩
theorem fr_X4_49 : FR RX4 49 0 4 .int false := ⟨RX0, TX0, 7, tyX0, rfl, ck_X0, tyX0_ok, nmX0, by decide, rfl, rfl, Or.inr ⟨_, wd_138⟩, fun h => by cases h⟩
theorem fr_X4_52 : FR RX4 52 5 2 .int false := ⟨RX5, TX5, 4, tyX5, rfl, ck_X5, tyX5_ok, nmX5, by decide, rfl, rfl, Or.inr ⟨_, wd_139⟩, fun h => by cases h⟩
theorem fr_X4_57 : FR RX4 57 0 5 .int false := ⟨RX0, TX0, 7, tyX0, rfl, ck_X0, tyX0_ok, nmX0, by decide, rfl, rfl, Or.inr ⟨_, wd_155⟩, fun h => by cases h⟩
theorem fr_X4_60 : FR RX4 60 0 6 .int false := ⟨RX0, TX0, 7, tyX0, rfl, ck_X0, tyX0_ok, nmX0, by decide, rfl, rfl, Or.inr ⟨_, wd_156⟩, fun h => by cases h⟩
theorem fr_X5_7 : FR RX5 7 5 2 .int false := ⟨RX5, TX5, 4, tyX5, rfl, ck_X5, tyX5_ok, nmX5, by decide, rfl, rfl, Or.inl wd_168, fun h => by cases h⟩
theorem fr_X5_13 : FR RX5 13 5 3 .boolean false := ⟨RX5, TX5, 4, tyX5, rfl, ck_X5, tyX5_ok, nmX5, by decide, rfl, rfl, Or.inl wd_169, fun h => by cases h⟩
theorem fr_X5_23 : FR RX5 23 5 0 (.array .int) true := ⟨RX5, TX5, 4, tyX5, rfl, ck_X5, tyX5_ok, nmX5, by decide, rfl, rfl, Or.inl wd_171, fun _ => ⟨rfl, wd_171⟩⟩
theorem fr_X5_27 : FR RX5 27 5 1 .int true := ⟨RX5, TX5, 4, tyX5, rfl, ck_X5, tyX5_ok, nmX5, by decide, rfl, rfl, Or.inl wd_172, fun _ => ⟨rfl, wd_172⟩⟩
theorem fr_X6_11 : FR RX6 11 6 0 (.array (.object "BridgeAwake$Hold")) true := ⟨RX6, TX6, 12, tyX6, rfl, ck_X6, tyX6_ok, nmX6, by decide, rfl, rfl, Or.inl wd_179, fun _ => ⟨rfl, wd_179⟩⟩
theorem fr_X6_17 : FR RX6 17 6 1 (.array .int) true := ⟨RX6, TX6, 12, tyX6, rfl, ck_X6, tyX6_ok, nmX6, by decide, rfl, rfl, Or.inl wd_180, fun _ => ⟨rfl, wd_180⟩⟩
theorem fr_X6_21 : FR RX6 21 6 2 (.array .int) true := ⟨RX6, TX6, 12, tyX6, rfl, ck_X6, tyX6_ok, nmX6, by decide, rfl, rfl, Or.inl wd_181, fun _ => ⟨rfl, wd_181⟩⟩
theorem fr_X6_24 : FR RX6 24 6 3 (.array .int) true := ⟨RX6, TX6, 12, tyX6, rfl, ck_X6, tyX6_ok, nmX6, by decide, rfl, rfl, Or.inl wd_182, fun _ => ⟨rfl, wd_182⟩⟩
theorem fr_X6_27 : FR RX6 27 6 4 .int false := ⟨RX6, TX6, 12, tyX6, rfl, ck_X6, tyX6_ok, nmX6, by decide, rfl, rfl, Or.inl wd_183, fun h => by cases h⟩
theorem fr_X6_31 : FR RX6 31 6 5 .boolean false := ⟨RX6, TX6, 12, tyX6, rfl, ck_X6, tyX6_ok, nmX6, by decide, rfl, rfl, Or.inl wd_184, fun h => by cases h⟩
theorem fr_X6_35 : FR RX6 35 6 6 .int false := ⟨RX6, TX6, 12, tyX6, rfl, ck_X6, tyX6_ok, nmX6, by decide, rfl, rfl, Or.inl wd_185, fun h => by cases h⟩
theorem fr_X6_38 : FR RX6 38 6 7 .int false := ⟨RX6, TX6, 12, tyX6, rfl, ck_X6, tyX6_ok, nmX6, by decide, rfl, rfl, Or.inl wd_186, fun h => by cases h⟩
theorem fr_X6_41 : FR RX6 41 6 8 .int false := ⟨RX6, TX6, 12, tyX6, rfl, ck_X6, tyX6_ok, nmX6, by decide, rfl, rfl, Or.inl wd_187, fun h => by cases h⟩
theorem fr_X6_44 : FR RX6 44 6 9 .int false := ⟨RX6, TX6, 12, tyX6, rfl, ck_X6, tyX6_ok, nmX6, by decide, rfl, rfl, Or.inl wd_188, fun h => by cases h⟩
theorem fr_X6_47 : FR RX6 47 6 10 .int false := ⟨RX6, TX6, 12, tyX6, rfl, ck_X6, tyX6_ok, nmX6, by decide, rfl, rfl, Or.inl wd_189, fun h => by cases h⟩
theorem fr_X6_50 : FR RX6 50 6 11 .int false := ⟨RX6, TX6, 12, tyX6, rfl, ck_X6, tyX6_ok, nmX6, by decide, rfl, rfl, Or.inl wd_190, fun h => by cases h⟩
theorem fr_X6_71 : FR RX6 71 1 2 .int false := ⟨RX1, TX1, 4, tyX1, rfl, ck_X1, tyX1_ok, nmX1, by decide, rfl, rfl, Or.inr ⟨_, wd_201⟩, fun h => by cases h⟩
theorem fr_X6_78 : FR RX6 78 0 4 .int false := ⟨RX0, TX0, 7, tyX0, rfl, ck_X0, tyX0_ok, nmX0, by decide, rfl, rfl, Or.inr ⟨_, wd_202⟩, fun h => by cases h⟩
theorem fr_X6_99 : FR RX6 99 5 2 .int false := ⟨RX5, TX5, 4, tyX5, rfl, ck_X5, tyX5_ok, nmX5, by decide, rfl, rfl, Or.inr ⟨_, wd_211⟩, fun h => by cases h⟩
theorem fr_X7_11 : FR RX7 11 7 0 (.array (.object "BridgeAwake$Row")) true := ⟨RX7, TX7, 13, tyX7, rfl, ck_X7, tyX7_ok, nmX7, by decide, rfl, rfl, Or.inl wd_231, fun _ => ⟨rfl, wd_231⟩⟩
theorem fr_X7_15 : FR RX7 15 7 1 (.array (.object "BridgeAwake$Row")) true := ⟨RX7, TX7, 13, tyX7, rfl, ck_X7, tyX7_ok, nmX7, by decide, rfl, rfl, Or.inl wd_232, fun _ => ⟨rfl, wd_232⟩⟩
theorem fr_X7_20 : FR RX7 20 7 2 (.array (.object "BridgeAwake$Night")) true := ⟨RX7, TX7, 13, tyX7, rfl, ck_X7, tyX7_ok, nmX7, by decide, rfl, rfl, Or.inl wd_234, fun _ => ⟨rfl, wd_234⟩⟩
theorem fr_X7_27 : FR RX7 27 7 3 (.object "BridgeAwake$Folk") true := ⟨RX7, TX7, 13, tyX7, rfl, ck_X7, tyX7_ok, nmX7, by decide, rfl, rfl, Or.inl wd_237, fun _ => ⟨rfl, wd_237⟩⟩
theorem fr_X7_34 : FR RX7 34 7 4 (.object "BridgeAwake$Reader") true := ⟨RX7, TX7, 13, tyX7, rfl, ck_X7, tyX7_ok, nmX7, by decide, rfl, rfl, Or.inl wd_242, fun _ => ⟨rfl, wd_242⟩⟩
theorem fr_X7_39 : FR RX7 39 7 5 (.object "BridgeAwake$Night") true := ⟨RX7, TX7, 13, tyX7, rfl, ck_X7, tyX7_ok, nmX7, by decide, rfl, rfl, Or.inl wd_246, fun _ => ⟨rfl, wd_246⟩⟩
theorem fr_X7_46 : FR RX7 46 7 6 (.object "BridgeAwake$Search") true := ⟨RX7, TX7, 13, tyX7, rfl, ck_X7, tyX7_ok, nmX7, by decide, rfl, rfl, Or.inl wd_251, fun _ => ⟨rfl, wd_251⟩⟩
theorem fr_X7_53 : FR RX7 53 7 7 (.object "BridgeAwake$Matching") true := ⟨RX7, TX7, 13, tyX7, rfl, ck_X7, tyX7_ok, nmX7, by decide, rfl, rfl, Or.inl wd_256, fun _ => ⟨rfl, wd_256⟩⟩
theorem fr_X7_57 : FR RX7 57 7 8 (.array .int) true := ⟨RX7, TX7, 13, tyX7, rfl, ck_X7, tyX7_ok, nmX7, by decide, rfl, rfl, Or.inl wd_257, fun _ => ⟨rfl, wd_257⟩⟩
theorem fr_X7_61 : FR RX7 61 7 9 .int false := ⟨RX7, TX7, 13, tyX7, rfl, ck_X7, tyX7_ok, nmX7, by decide, rfl, rfl, Or.inl wd_258, fun h => by cases h⟩
theorem fr_X7_65 : FR RX7 65 7 10 .int false := ⟨RX7, TX7, 13, tyX7, rfl, ck_X7, tyX7_ok, nmX7, by decide, rfl, rfl, Or.inl wd_259, fun h => by cases h⟩
theorem fr_X7_68 : FR RX7 68 7 11 .long false := ⟨RX7, TX7, 13, tyX7, rfl, ck_X7, tyX7_ok, nmX7, by decide, rfl, rfl, Or.inl wd_260, fun h => by cases h⟩
theorem fr_X7_72 : FR RX7 72 7 12 .long false := ⟨RX7, TX7, 13, tyX7, rfl, ck_X7, tyX7_ok, nmX7, by decide, rfl, rfl, Or.inl wd_261, fun h => by cases h⟩
theorem fr_X7_104 : FR RX7 104 5 3 .boolean false := ⟨RX5, TX5, 4, tyX5, rfl, ck_X5, tyX5_ok, nmX5, by decide, rfl, rfl, Or.inr ⟨_, wd_284⟩, fun h => by cases h⟩
theorem fr_X7_112 : FG RX7 112 5 0 := ⟨RX5, TX5, 4, rfl, ck_X5, by decide, Or.inr ⟨_, wd_288⟩⟩
theorem fr_X7_121 : FR RX7 121 5 2 .int false := ⟨RX5, TX5, 4, tyX5, rfl, ck_X5, tyX5_ok, nmX5, by decide, rfl, rfl, Or.inr ⟨_, wd_293⟩, fun h => by cases h⟩
theorem fr_X7_135 : FG RX7 135 4 0 := ⟨RX4, TX4, 2, rfl, ck_X4, by decide, Or.inr ⟨_, wd_302⟩⟩
theorem fr_X7_143 : FR RX7 143 0 4 .int false := ⟨RX0, TX0, 7, tyX0, rfl, ck_X0, tyX0_ok, nmX0, by decide, rfl, rfl, Or.inr ⟨_, wd_307⟩, fun h => by cases h⟩
theorem fr_X7_142 : FR RX7 142 3 6 .boolean false := ⟨RX3, TX3, 7, tyX3, rfl, ck_X3, tyX3_ok, nmX3, by decide, rfl, rfl, Or.inr ⟨_, wd_308⟩, fun h => by cases h⟩
theorem fr_X7_150 : FG RX7 150 0 0 := ⟨RX0, TX0, 7, rfl, ck_X0, by decide, Or.inr ⟨_, wd_313⟩⟩
theorem fr_X7_156 : FG RX7 156 3 0 := ⟨RX3, TX3, 7, rfl, ck_X3, by decide, Or.inr ⟨_, wd_315⟩⟩
theorem fr_X7_166 : FG RX7 166 1 0 := ⟨RX1, TX1, 4, rfl, ck_X1, by decide, Or.inr ⟨_, wd_317⟩⟩
theorem fr_X7_173 : FG RX7 173 1 1 := ⟨RX1, TX1, 4, rfl, ck_X1, by decide, Or.inr ⟨_, wd_321⟩⟩
theorem fr_X7_207 : FR RX7 207 3 3 .int false := ⟨RX3, TX3, 7, tyX3, rfl, ck_X3, tyX3_ok, nmX3, by decide, rfl, rfl, Or.inr ⟨_, wd_338⟩, fun h => by cases h⟩
theorem fr_X7_214 : FR RX7 214 3 2 .int false := ⟨RX3, TX3, 7, tyX3, rfl, ck_X3, tyX3_ok, nmX3, by decide, rfl, rfl, Or.inr ⟨_, wd_340⟩, fun h => by cases h⟩
theorem fr_X7_234 : FG RX7 234 6 2 := ⟨RX6, TX6, 12, rfl, ck_X6, by decide, Or.inr ⟨_, wd_354⟩⟩
theorem fr_X7_244 : FR RX7 244 1 2 .int false := ⟨RX1, TX1, 4, tyX1, rfl, ck_X1, tyX1_ok, nmX1, by decide, rfl, rfl, Or.inr ⟨_, wd_359⟩, fun h => by cases h⟩
theorem fr_X7_261 : FR RX7 261 6 7 .int false := ⟨RX6, TX6, 12, tyX6, rfl, ck_X6, tyX6_ok, nmX6, by decide, rfl, rfl, Or.inr ⟨_, wd_368⟩, fun h => by cases h⟩
theorem fr_X7_264 : FR RX7 264 6 11 .int false := ⟨RX6, TX6, 12, tyX6, rfl, ck_X6, tyX6_ok, nmX6, by decide, rfl, rfl, Or.inr ⟨_, wd_369⟩, fun h => by cases h⟩
theorem fr_X7_276 : FR RX7 276 6 8 .int false := ⟨RX6, TX6, 12, tyX6, rfl, ck_X6, tyX6_ok, nmX6, by decide, rfl, rfl, Or.inr ⟨_, wd_374⟩, fun h => by cases h⟩
theorem fr_X7_282 : FR RX7 282 6 10 .int false := ⟨RX6, TX6, 12, tyX6, rfl, ck_X6, tyX6_ok, nmX6, by decide, rfl, rfl, Or.inr ⟨_, wd_376⟩, fun h => by cases h⟩
theorem fr_X7_285 : FR RX7 285 6 9 .int false := ⟨RX6, TX6, 12, tyX6, rfl, ck_X6, tyX6_ok, nmX6, by decide, rfl, rfl, Or.inr ⟨_, wd_377⟩, fun h => by cases h⟩
theorem fr_X7_291 : FG RX7 291 0 1 := ⟨RX0, TX0, 7, rfl, ck_X0, by decide, Or.inr ⟨_, wd_381⟩⟩
theorem fr_X7_310 : FG RX7 310 2 1 := ⟨RX2, TX2, 3, rfl, ck_X2, by decide, Or.inr ⟨_, wd_393⟩⟩
theorem fr_X7_336 : FR RX7 336 1 3 .int false := ⟨RX1, TX1, 4, tyX1, rfl, ck_X1, tyX1_ok, nmX1, by decide, rfl, rfl, Or.inr ⟨_, wd_410⟩, fun h => by cases h⟩
theorem fr_X7_339 : FR RX7 339 3 4 .int false := ⟨RX3, TX3, 7, tyX3, rfl, ck_X3, tyX3_ok, nmX3, by decide, rfl, rfl, Or.inr ⟨_, wd_411⟩, fun h => by cases h⟩
theorem fr_X7_342 : FR RX7 342 3 5 .int false := ⟨RX3, TX3, 7, tyX3, rfl, ck_X3, tyX3_ok, nmX3, by decide, rfl, rfl, Or.inr ⟨_, wd_412⟩, fun h => by cases h⟩
theorem fr_X7_383 : FG RX7 383 0 2 := ⟨RX0, TX0, 7, rfl, ck_X0, by decide, Or.inr ⟨_, wd_441⟩⟩
theorem fr_X7_386 : FG RX7 386 0 3 := ⟨RX0, TX0, 7, rfl, ck_X0, by decide, Or.inr ⟨_, wd_442⟩⟩
theorem fr_X8_7 : FR RX8 7 8 0 (.array .int) true := ⟨RX8, TX8, 37, tyX8, rfl, ck_X8, tyX8_ok, nmX8, by decide, rfl, rfl, Or.inl wd_453, fun _ => ⟨rfl, wd_453⟩⟩
theorem fr_X8_13 : FR RX8 13 8 1 (.array .int) true := ⟨RX8, TX8, 37, tyX8, rfl, ck_X8, tyX8_ok, nmX8, by decide, rfl, rfl, Or.inl wd_454, fun _ => ⟨rfl, wd_454⟩⟩
theorem fr_X8_16 : FR RX8 16 8 2 (.array .int) true := ⟨RX8, TX8, 37, tyX8, rfl, ck_X8, tyX8_ok, nmX8, by decide, rfl, rfl, Or.inl wd_455, fun _ => ⟨rfl, wd_455⟩⟩
theorem fr_X8_19 : FR RX8 19 8 3 (.array .int) true := ⟨RX8, TX8, 37, tyX8, rfl, ck_X8, tyX8_ok, nmX8, by decide, rfl, rfl, Or.inl wd_456, fun _ => ⟨rfl, wd_456⟩⟩
theorem fr_X8_22 : FR RX8 22 8 4 (.array .int) true := ⟨RX8, TX8, 37, tyX8, rfl, ck_X8, tyX8_ok, nmX8, by decide, rfl, rfl, Or.inl wd_457, fun _ => ⟨rfl, wd_457⟩⟩
theorem fr_X8_25 : FR RX8 25 8 5 (.array .int) true := ⟨RX8, TX8, 37, tyX8, rfl, ck_X8, tyX8_ok, nmX8, by decide, rfl, rfl, Or.inl wd_458, fun _ => ⟨rfl, wd_458⟩⟩
theorem fr_X8_28 : FR RX8 28 8 6 (.array .int) true := ⟨RX8, TX8, 37, tyX8, rfl, ck_X8, tyX8_ok, nmX8, by decide, rfl, rfl, Or.inl wd_459, fun _ => ⟨rfl, wd_459⟩⟩
theorem fr_X8_31 : FR RX8 31 8 7 (.array .int) true := ⟨RX8, TX8, 37, tyX8, rfl, ck_X8, tyX8_ok, nmX8, by decide, rfl, rfl, Or.inl wd_460, fun _ => ⟨rfl, wd_460⟩⟩
theorem fr_X8_34 : FR RX8 34 8 8 (.array .int) true := ⟨RX8, TX8, 37, tyX8, rfl, ck_X8, tyX8_ok, nmX8, by decide, rfl, rfl, Or.inl wd_461, fun _ => ⟨rfl, wd_461⟩⟩
theorem fr_X8_37 : FR RX8 37 8 9 (.array .int) true := ⟨RX8, TX8, 37, tyX8, rfl, ck_X8, tyX8_ok, nmX8, by decide, rfl, rfl, Or.inl wd_462, fun _ => ⟨rfl, wd_462⟩⟩
theorem fr_X8_40 : FR RX8 40 8 13 (.array .int) true := ⟨RX8, TX8, 37, tyX8, rfl, ck_X8, tyX8_ok, nmX8, by decide, rfl, rfl, Or.inl wd_463, fun _ => ⟨rfl, wd_463⟩⟩
theorem fr_X8_43 : FR RX8 43 8 16 .long false := ⟨RX8, TX8, 37, tyX8, rfl, ck_X8, tyX8_ok, nmX8, by decide, rfl, rfl, Or.inl wd_464, fun h => by cases h⟩
theorem fr_X8_47 : FR RX8 47 8 17 (.array .int) true := ⟨RX8, TX8, 37, tyX8, rfl, ck_X8, tyX8_ok, nmX8, by decide, rfl, rfl, Or.inl wd_465, fun _ => ⟨rfl, wd_465⟩⟩
theorem fr_X8_50 : FR RX8 50 8 24 (.array .int) true := ⟨RX8, TX8, 37, tyX8, rfl, ck_X8, tyX8_ok, nmX8, by decide, rfl, rfl, Or.inl wd_466, fun _ => ⟨rfl, wd_466⟩⟩
theorem fr_X8_53 : FR RX8 53 8 25 (.array .int) true := ⟨RX8, TX8, 37, tyX8, rfl, ck_X8, tyX8_ok, nmX8, by decide, rfl, rfl, Or.inl wd_467, fun _ => ⟨rfl, wd_467⟩⟩
theorem fr_X8_56 : FR RX8 56 8 26 (.array .int) true := ⟨RX8, TX8, 37, tyX8, rfl, ck_X8, tyX8_ok, nmX8, by decide, rfl, rfl, Or.inl wd_468, fun _ => ⟨rfl, wd_468⟩⟩
theorem fr_X8_59 : FR RX8 59 8 27 (.array .int) true := ⟨RX8, TX8, 37, tyX8, rfl, ck_X8, tyX8_ok, nmX8, by decide, rfl, rfl, Or.inl wd_469, fun _ => ⟨rfl, wd_469⟩⟩
theorem fr_X8_62 : FR RX8 62 8 28 (.array .int) true := ⟨RX8, TX8, 37, tyX8, rfl, ck_X8, tyX8_ok, nmX8, by decide, rfl, rfl, Or.inl wd_470, fun _ => ⟨rfl, wd_470⟩⟩
theorem fr_X8_65 : FR RX8 65 8 34 (.array .int) true := ⟨RX8, TX8, 37, tyX8, rfl, ck_X8, tyX8_ok, nmX8, by decide, rfl, rfl, Or.inl wd_471, fun _ => ⟨rfl, wd_471⟩⟩
theorem fr_X8_68 : FR RX8 68 8 35 (.array .int) true := ⟨RX8, TX8, 37, tyX8, rfl, ck_X8, tyX8_ok, nmX8, by decide, rfl, rfl, Or.inl wd_472, fun _ => ⟨rfl, wd_472⟩⟩
theorem fr_X8_71 : FR RX8 71 8 36 (.array .int) true := ⟨RX8, TX8, 37, tyX8, rfl, ck_X8, tyX8_ok, nmX8, by decide, rfl, rfl, Or.inl wd_473, fun _ => ⟨rfl, wd_473⟩⟩
theorem fr_X8_74 : FR RX8 74 8 12 .int false := ⟨RX8, TX8, 37, tyX8, rfl, ck_X8, tyX8_ok, nmX8, by decide, rfl, rfl, Or.inl wd_474, fun h => by cases h⟩
theorem fr_X8_98 : FR RX8 98 8 14 .int false := ⟨RX8, TX8, 37, tyX8, rfl, ck_X8, tyX8_ok, nmX8, by decide, rfl, rfl, Or.inl wd_488, fun h => by cases h⟩
theorem fr_X8_104 : FR RX8 104 8 18 .int false := ⟨RX8, TX8, 37, tyX8, rfl, ck_X8, tyX8_ok, nmX8, by decide, rfl, rfl, Or.inl wd_491, fun h => by cases h⟩
theorem fr_X8_107 : FR RX8 107 8 20 .int false := ⟨RX8, TX8, 37, tyX8, rfl, ck_X8, tyX8_ok, nmX8, by decide, rfl, rfl, Or.inl wd_492, fun h => by cases h⟩
theorem fr_X8_114 : FR RX8 114 8 19 .int false := ⟨RX8, TX8, 37, tyX8, rfl, ck_X8, tyX8_ok, nmX8, by decide, rfl, rfl, Or.inl wd_496, fun h => by cases h⟩
theorem fr_X8_128 : FR RX8 128 8 22 .int false := ⟨RX8, TX8, 37, tyX8, rfl, ck_X8, tyX8_ok, nmX8, by decide, rfl, rfl, Or.inl wd_505, fun h => by cases h⟩
theorem fr_X8_131 : FR RX8 131 8 23 .int false := ⟨RX8, TX8, 37, tyX8, rfl, ck_X8, tyX8_ok, nmX8, by decide, rfl, rfl, Or.inl wd_506, fun h => by cases h⟩
theorem fr_X8_134 : FR RX8 134 8 21 .int false := ⟨RX8, TX8, 37, tyX8, rfl, ck_X8, tyX8_ok, nmX8, by decide, rfl, rfl, Or.inl wd_507, fun h => by cases h⟩
theorem fr_X8_156 : FR RX8 156 8 10 .int false := ⟨RX8, TX8, 37, tyX8, rfl, ck_X8, tyX8_ok, nmX8, by decide, rfl, rfl, Or.inl wd_525, fun h => by cases h⟩
theorem fr_X8_159 : FR RX8 159 8 11 .int false := ⟨RX8, TX8, 37, tyX8, rfl, ck_X8, tyX8_ok, nmX8, by decide, rfl, rfl, Or.inl wd_526, fun h => by cases h⟩
theorem fr_X8_224 : FR RX8 224 8 29 .int false := ⟨RX8, TX8, 37, tyX8, rfl, ck_X8, tyX8_ok, nmX8, by decide, rfl, rfl, Or.inl wd_577, fun h => by cases h⟩
theorem fr_X8_265 : FR RX8 265 8 30 .int false := ⟨RX8, TX8, 37, tyX8, rfl, ck_X8, tyX8_ok, nmX8, by decide, rfl, rfl, Or.inl wd_613, fun h => by cases h⟩
theorem fr_X8_268 : FR RX8 268 8 31 .int false := ⟨RX8, TX8, 37, tyX8, rfl, ck_X8, tyX8_ok, nmX8, by decide, rfl, rfl, Or.inl wd_614, fun h => by cases h⟩
theorem fr_X8_271 : FR RX8 271 8 32 .int false := ⟨RX8, TX8, 37, tyX8, rfl, ck_X8, tyX8_ok, nmX8, by decide, rfl, rfl, Or.inl wd_615, fun h => by cases h⟩
theorem fr_X8_274 : FR RX8 274 8 33 .int false := ⟨RX8, TX8, 37, tyX8, rfl, ck_X8, tyX8_ok, nmX8, by decide, rfl, rfl, Or.inl wd_616, fun h => by cases h⟩
theorem fr_X8_280 : FR RX8 280 8 15 .long false := ⟨RX8, TX8, 37, tyX8, rfl, ck_X8, tyX8_ok, nmX8, by decide, rfl, rfl, Or.inl wd_620, fun h => by cases h⟩
theorem lk_X0_34 : LKs RX0 34 yJ7_fill_53178 2 := ⟨⟨wd_12, by decide, by decide, by decide +kernel⟩, Or.inl wd_11, wd_13⟩
theorem lk_X0_40 : LKv RX0 40 yX0_isPair 2 0 := ⟨⟨wd_15, by decide, by decide, by decide +kernel⟩, Or.inl wd_14, wd_16, wd_17, _, rfl, rfl⟩
theorem lk_X0_44 : LKv RX0 44 yX0_has 1 0 := ⟨⟨wd_15, by decide, by decide, by decide +kernel⟩, Or.inl wd_18, wd_19, wd_20, _, rfl, rfl⟩
theorem lk_X0_48 : LKs RX0 48 yX0_isOfKind 2 := ⟨⟨wd_15, by decide, by decide, by decide +kernel⟩, Or.inl wd_21, wd_22⟩
theorem lk_X0_51 : LKs RX0 51 yX0_tells 5 := ⟨⟨wd_15, by decide, by decide, by decide +kernel⟩, Or.inl wd_23, wd_24⟩
theorem lk_X0_55 : LKs RX0 55 yJ9_max_7cf53 2 := ⟨⟨wd_26, by decide, by decide, by decide +kernel⟩, Or.inl wd_25, wd_27⟩
theorem lk_X1_27 : LKs RX1 27 yJ7_fill_53178 2 := ⟨⟨wd_12, by decide, by decide, by decide +kernel⟩, Or.inl wd_33, wd_13⟩
theorem lk_X1_34 : LKv RX1 34 yX1_listen 1 1 := ⟨⟨wd_36, by decide, by decide, by decide +kernel⟩, Or.inl wd_35, wd_37, wd_38, _, rfl, rfl⟩
theorem lk_X1_38 : LKs RX1 38 yJ9_floorMod_7cf53 2 := ⟨⟨wd_26, by decide, by decide, by decide +kernel⟩, Or.inl wd_39, wd_40⟩
theorem lk_X1_44 : LKv RX1 44 yX0_isPair 2 0 := ⟨⟨wd_15, by decide, by decide, by decide +kernel⟩, Or.inl wd_41, wd_16, wd_17, _, rfl, rfl⟩
theorem lk_X1_48 : LKv RX1 48 yX1_pairMeans 3 1 := ⟨⟨wd_36, by decide, by decide, by decide +kernel⟩, Or.inl wd_42, wd_43, wd_44, _, rfl, rfl⟩
theorem lk_X1_55 : LKs RX1 55 yJ9_max_7cf53 2 := ⟨⟨wd_26, by decide, by decide, by decide +kernel⟩, Or.inl wd_46, wd_27⟩
theorem lk_X1_58 : LKv RX1 58 yX0_has 1 0 := ⟨⟨wd_15, by decide, by decide, by decide +kernel⟩, Or.inl wd_47, wd_19, wd_20, _, rfl, rfl⟩
theorem lk_X1_65 : LKv RX1 65 yX1_pairTells 3 1 := ⟨⟨wd_36, by decide, by decide, by decide +kernel⟩, Or.inl wd_49, wd_50, wd_51, _, rfl, rfl⟩
theorem lk_X1_68 : LKv RX1 68 yX1_strengthWith 1 1 := ⟨⟨wd_36, by decide, by decide, by decide +kernel⟩, Or.inl wd_52, wd_53, wd_54, _, rfl, rfl⟩
theorem lk_X1_72 : LKv RX1 72 yX1_behind 3 1 := ⟨⟨wd_36, by decide, by decide, by decide +kernel⟩, Or.inl wd_55, wd_56, wd_57, _, rfl, rfl⟩
theorem lk_X1_75 : LKs RX1 75 yJ9_min_7cf53 2 := ⟨⟨wd_26, by decide, by decide, by decide +kernel⟩, Or.inl wd_58, wd_59⟩
theorem lk_X1_78 : LKv RX1 78 yX1_hour 0 1 := ⟨⟨wd_36, by decide, by decide, by decide +kernel⟩, Or.inl wd_60, wd_61, wd_62, _, rfl, rfl⟩
theorem lk_X1_88 : LKs RX1 88 yX0_tells 5 := ⟨⟨wd_15, by decide, by decide, by decide +kernel⟩, Or.inl wd_65, wd_24⟩
theorem lk_X2_24 : LKs RX2 24 yJ7_fill_53178 2 := ⟨⟨wd_12, by decide, by decide, by decide +kernel⟩, Or.inl wd_70, wd_13⟩
theorem lk_X2_33 : LKs RX2 33 yX2_pairFrom 5 := ⟨⟨wd_73, by decide, by decide, by decide +kernel⟩, Or.inl wd_72, wd_74⟩
theorem lk_X2_37 : LKv RX2 37 yX2_noteWay 2 2 := ⟨⟨wd_73, by decide, by decide, by decide +kernel⟩, Or.inl wd_75, wd_76, wd_77, _, rfl, rfl⟩
theorem lk_X2_41 : LKv RX2 41 yX1_pairTells 3 1 := ⟨⟨wd_36, by decide, by decide, by decide +kernel⟩, Or.inl wd_78, wd_50, wd_51, _, rfl, rfl⟩
theorem lk_X3_9 : LKi RX3 9 yX1_init 0 := ⟨⟨wd_36, by decide, by decide, by decide +kernel⟩, Or.inr ⟨_, wd_82⟩, wd_83, rfl⟩
theorem lk_X3_37 : LKv RX3 37 yX1_begin 1 1 := ⟨⟨wd_36, by decide, by decide, by decide +kernel⟩, Or.inl wd_91, wd_92, wd_93, _, rfl, rfl⟩
theorem lk_X3_44 : LKv RX3 44 yX1_become 1 1 := ⟨⟨wd_36, by decide, by decide, by decide +kernel⟩, Or.inl wd_95, wd_96, wd_97, _, rfl, rfl⟩
theorem lk_X3_48 : LKv RX3 48 yX3_note 1 3 := ⟨⟨wd_99, by decide, by decide, by decide +kernel⟩, Or.inl wd_98, wd_100, wd_101, _, rfl, rfl⟩
theorem lk_X3_52 : LKv RX3 52 yX1_passWatch 3 1 := ⟨⟨wd_36, by decide, by decide, by decide +kernel⟩, Or.inl wd_102, wd_103, wd_104, _, rfl, rfl⟩
theorem lk_X3_59 : LKv RX3 59 yX1_drink 2 1 := ⟨⟨wd_36, by decide, by decide, by decide +kernel⟩, Or.inl wd_106, wd_107, wd_108, _, rfl, rfl⟩
theorem lk_X3_63 : LKv RX3 63 yX3_begin 1 3 := ⟨⟨wd_99, by decide, by decide, by decide +kernel⟩, Or.inl wd_109, wd_110, wd_111, _, rfl, rfl⟩
theorem lk_X3_72 : LKv RX3 72 yX3_doWatch 3 3 := ⟨⟨wd_99, by decide, by decide, by decide +kernel⟩, Or.inl wd_112, wd_113, wd_114, _, rfl, rfl⟩
theorem lk_X3_68 : LKv RX3 68 yX3_doLoad 1 3 := ⟨⟨wd_99, by decide, by decide, by decide +kernel⟩, Or.inl wd_115, wd_116, wd_117, _, rfl, rfl⟩
theorem lk_X3_64 : LKv RX3 64 yX3_doCoffee 2 3 := ⟨⟨wd_99, by decide, by decide, by decide +kernel⟩, Or.inl wd_118, wd_119, wd_120, _, rfl, rfl⟩
theorem lk_X4_11 : LKi RX4 11 yX0_init 0 := ⟨⟨wd_15, by decide, by decide, by decide +kernel⟩, Or.inr ⟨_, wd_124⟩, wd_125, rfl⟩
theorem lk_X4_22 : LKv RX4 22 yX0_clear 0 0 := ⟨⟨wd_15, by decide, by decide, by decide +kernel⟩, Or.inl wd_128, wd_129, wd_130, _, rfl, rfl⟩
theorem lk_X4_25 : LKv RX4 25 yX4_skipBlanks 1 4 := ⟨⟨wd_132, by decide, by decide, by decide +kernel⟩, Or.inl wd_131, wd_133, wd_134, _, rfl, rfl⟩
theorem lk_X4_29 : LKv RX4 29 yX4_readHead 1 4 := ⟨⟨wd_132, by decide, by decide, by decide +kernel⟩, Or.inl wd_135, wd_136, wd_137, _, rfl, rfl⟩
theorem lk_X4_33 : LKv RX4 33 yX5_holds 1 5 := ⟨⟨wd_141, by decide, by decide, by decide +kernel⟩, Or.inl wd_140, wd_142, wd_143, _, rfl, rfl⟩
theorem lk_X4_39 : LKv RX4 39 yX5_get 1 5 := ⟨⟨wd_141, by decide, by decide, by decide +kernel⟩, Or.inl wd_144, wd_145, wd_146, _, rfl, rfl⟩
theorem lk_X4_46 : LKv RX4 46 yX4_readOne 1 4 := ⟨⟨wd_132, by decide, by decide, by decide +kernel⟩, Or.inl wd_147, wd_148, wd_149, _, rfl, rfl⟩
theorem lk_X4_43 : LKv RX4 43 yX4_readQuarrel 1 4 := ⟨⟨wd_132, by decide, by decide, by decide +kernel⟩, Or.inl wd_150, wd_151, wd_152, _, rfl, rfl⟩
theorem lk_X4_53 : LKs RX4 53 yX4_figure 2 := ⟨⟨wd_132, by decide, by decide, by decide +kernel⟩, Or.inl wd_153, wd_154⟩
theorem lk_X4_63 : LKs RX4 63 yX4_kindOf 1 := ⟨⟨wd_132, by decide, by decide, by decide +kernel⟩, Or.inl wd_157, wd_158⟩
theorem lk_X4_66 : LKv RX4 66 yX0_add 3 0 := ⟨⟨wd_15, by decide, by decide, by decide +kernel⟩, Or.inl wd_159, wd_160, wd_161, _, rfl, rfl⟩
theorem lk_X4_70 : LKv RX4 70 yX0_has 1 0 := ⟨⟨wd_15, by decide, by decide, by decide +kernel⟩, Or.inl wd_162, wd_19, wd_20, _, rfl, rfl⟩
theorem lk_X4_73 : LKv RX4 73 yX0_isPair 2 0 := ⟨⟨wd_15, by decide, by decide, by decide +kernel⟩, Or.inl wd_163, wd_16, wd_17, _, rfl, rfl⟩
theorem lk_X4_77 : LKv RX4 77 yX0_letQuarrel 2 0 := ⟨⟨wd_15, by decide, by decide, by decide +kernel⟩, Or.inl wd_164, wd_165, wd_166, _, rfl, rfl⟩
theorem lk_X5_17 : LKs RX5 17 yJ9_max_7cf53 2 := ⟨⟨wd_26, by decide, by decide, by decide +kernel⟩, Or.inl wd_170, wd_27⟩
theorem lk_X5_30 : LKs RX5 30 yJ9_min_7cf53 2 := ⟨⟨wd_26, by decide, by decide, by decide +kernel⟩, Or.inl wd_173, wd_59⟩
theorem lk_X5_33 : LKs RX5 33 yJ7_fill_53178 2 := ⟨⟨wd_12, by decide, by decide, by decide +kernel⟩, Or.inl wd_174, wd_13⟩
theorem lk_X5_39 : LKv RX5 39 yX5_get 1 5 := ⟨⟨wd_141, by decide, by decide, by decide +kernel⟩, Or.inl wd_175, wd_145, wd_146, _, rfl, rfl⟩
theorem lk_X5_43 : LKv RX5 43 yX5_holds 1 5 := ⟨⟨wd_141, by decide, by decide, by decide +kernel⟩, Or.inl wd_176, wd_142, wd_143, _, rfl, rfl⟩
theorem lk_X6_53 : LKi RX6 53 yX1_init 0 := ⟨⟨wd_36, by decide, by decide, by decide +kernel⟩, Or.inr ⟨_, wd_191⟩, wd_83, rfl⟩
theorem lk_X6_54 : LKv RX6 54 yX1_become 1 1 := ⟨⟨wd_36, by decide, by decide, by decide +kernel⟩, Or.inl wd_192, wd_96, wd_97, _, rfl, rfl⟩
theorem lk_X6_58 : LKv RX6 58 yX6_beginAside 1 6 := ⟨⟨wd_194, by decide, by decide, by decide +kernel⟩, Or.inl wd_193, wd_195, wd_196, _, rfl, rfl⟩
theorem lk_X6_62 : LKs RX6 62 yJ9_min_7cf53 2 := ⟨⟨wd_26, by decide, by decide, by decide +kernel⟩, Or.inl wd_197, wd_59⟩
theorem lk_X6_68 : LKs RX6 68 yJ9_max_7cf53 2 := ⟨⟨wd_26, by decide, by decide, by decide +kernel⟩, Or.inl wd_198, wd_27⟩
theorem lk_X6_74 : LKs RX6 74 yX6_seekStrongest 3 := ⟨⟨wd_194, by decide, by decide, by decide +kernel⟩, Or.inl wd_199, wd_200⟩
theorem lk_X6_91 : LKv RX6 91 yX1_behind 3 1 := ⟨⟨wd_36, by decide, by decide, by decide +kernel⟩, Or.inl wd_203, wd_56, wd_57, _, rfl, rfl⟩
theorem lk_X6_95 : LKv RX6 95 yX6_noteStrength 1 6 := ⟨⟨wd_194, by decide, by decide, by decide +kernel⟩, Or.inl wd_204, wd_205, wd_206, _, rfl, rfl⟩
theorem lk_X6_83 : LKv RX6 83 yX6_copyDeeper 1 6 := ⟨⟨wd_194, by decide, by decide, by decide +kernel⟩, Or.inl wd_207, wd_208, wd_209, _, rfl, rfl⟩
theorem lk_X6_87 : LKv RX6 87 yX1_passWatch 3 1 := ⟨⟨wd_36, by decide, by decide, by decide +kernel⟩, Or.inl wd_210, wd_103, wd_104, _, rfl, rfl⟩
theorem lk_X6_106 : LKv RX6 106 yX0_everybody 0 0 := ⟨⟨wd_15, by decide, by decide, by decide +kernel⟩, Or.inl wd_212, wd_213, wd_214, _, rfl, rfl⟩
theorem lk_X6_110 : LKs RX6 110 yX6_seekWays 4 := ⟨⟨wd_194, by decide, by decide, by decide +kernel⟩, Or.inl wd_215, wd_216⟩
theorem lk_X6_102 : LKv RX6 102 yX5_get 1 5 := ⟨⟨wd_141, by decide, by decide, by decide +kernel⟩, Or.inl wd_217, wd_145, wd_146, _, rfl, rfl⟩
theorem lk_X6_114 : LKv RX6 114 yX6_suits 2 6 := ⟨⟨wd_194, by decide, by decide, by decide +kernel⟩, Or.inl wd_218, wd_219, wd_220, _, rfl, rfl⟩
theorem lk_X6_118 : LKv RX6 118 yX6_noteWay 1 6 := ⟨⟨wd_194, by decide, by decide, by decide +kernel⟩, Or.inl wd_221, wd_222, wd_223, _, rfl, rfl⟩
theorem lk_X6_121 : LKs RX6 121 yJ6_bitCount_0f7a4 1 := ⟨⟨wd_225, by decide, by decide, by decide +kernel⟩, Or.inl wd_224, wd_226⟩
theorem lk_X6_126 : LKs RX6 126 yX6_playTurn 3 := ⟨⟨wd_194, by decide, by decide, by decide +kernel⟩, Or.inl wd_227, wd_228⟩
theorem lk_X7_26 : LKi RX7 26 yX0_init 0 := ⟨⟨wd_15, by decide, by decide, by decide +kernel⟩, Or.inr ⟨_, wd_236⟩, wd_125, rfl⟩
theorem lk_X7_33 : LKi RX7 33 yX4_init 0 := ⟨⟨wd_132, by decide, by decide, by decide +kernel⟩, Or.inr ⟨_, wd_240⟩, wd_241, rfl⟩
theorem lk_X7_38 : LKi RX7 38 yX3_init 0 := ⟨⟨wd_99, by decide, by decide, by decide +kernel⟩, Or.inr ⟨_, wd_244⟩, wd_245, rfl⟩
theorem lk_X7_45 : LKi RX7 45 yX6_init 0 := ⟨⟨wd_194, by decide, by decide, by decide +kernel⟩, Or.inl wd_249, wd_250, rfl⟩
theorem lk_X7_52 : LKi RX7 52 yX2_init 0 := ⟨⟨wd_73, by decide, by decide, by decide +kernel⟩, Or.inr ⟨_, wd_254⟩, wd_255, rfl⟩
theorem lk_X7_75 : LKi RX7 75 yX5_init 2 := ⟨⟨wd_141, by decide, by decide, by decide +kernel⟩, Or.inl wd_263, wd_264, rfl⟩
theorem lk_X7_78 : LKs RX7 78 yX7_isRow 1 := ⟨⟨wd_266, by decide, by decide, by decide +kernel⟩, Or.inl wd_265, wd_267⟩
theorem lk_X7_86 : LKv RX7 86 yX5_begin 1 5 := ⟨⟨wd_141, by decide, by decide, by decide +kernel⟩, Or.inl wd_268, wd_269, wd_270, _, rfl, rfl⟩
theorem lk_X7_82 : LKv RX7 82 yX7_found 1 7 := ⟨⟨wd_266, by decide, by decide, by decide +kernel⟩, Or.inl wd_271, wd_272, wd_273, _, rfl, rfl⟩
theorem lk_X7_90 : LKv RX7 90 yX7_refusePlace 2 7 := ⟨⟨wd_266, by decide, by decide, by decide +kernel⟩, Or.inl wd_274, wd_275, wd_276, _, rfl, rfl⟩
theorem lk_X7_94 : LKv RX7 94 yX5_swap 2 5 := ⟨⟨wd_141, by decide, by decide, by decide +kernel⟩, Or.inl wd_277, wd_278, wd_279, _, rfl, rfl⟩
theorem lk_X7_98 : LKv RX7 98 yX7_tellAsked 1 7 := ⟨⟨wd_266, by decide, by decide, by decide +kernel⟩, Or.inl wd_280, wd_281, wd_282, _, rfl, rfl⟩
theorem lk_X7_101 : LKv RX7 101 yX5_get 1 5 := ⟨⟨wd_141, by decide, by decide, by decide +kernel⟩, Or.inl wd_283, wd_145, wd_146, _, rfl, rfl⟩
theorem lk_X7_108 : LKv RX7 108 yX5_holdsSpan 2 5 := ⟨⟨wd_141, by decide, by decide, by decide +kernel⟩, Or.inl wd_285, wd_286, wd_287, _, rfl, rfl⟩
theorem lk_X7_124 : LKv RX7 124 yX5_sum 0 5 := ⟨⟨wd_141, by decide, by decide, by decide +kernel⟩, Or.inl wd_294, wd_295, wd_296, _, rfl, rfl⟩
theorem lk_X7_128 : LKs RX7 128 yX7_isText 1 := ⟨⟨wd_266, by decide, by decide, by decide +kernel⟩, Or.inl wd_297, wd_298⟩
theorem lk_X7_131 : LKv RX7 131 yX4_read 1 4 := ⟨⟨wd_132, by decide, by decide, by decide +kernel⟩, Or.inl wd_299, wd_300, wd_301, _, rfl, rfl⟩
theorem lk_X7_136 : LKv RX7 136 yX0_become 1 0 := ⟨⟨wd_15, by decide, by decide, by decide +kernel⟩, Or.inl wd_303, wd_304, wd_305, _, rfl, rfl⟩
theorem lk_X7_140 : LKv RX7 140 yX3_begin 1 3 := ⟨⟨wd_99, by decide, by decide, by decide +kernel⟩, Or.inl wd_306, wd_110, wd_111, _, rfl, rfl⟩
theorem lk_X7_144 : LKv RX7 144 yX0_has 1 0 := ⟨⟨wd_15, by decide, by decide, by decide +kernel⟩, Or.inl wd_309, wd_19, wd_20, _, rfl, rfl⟩
theorem lk_X7_147 : LKv RX7 147 yX7_fact 2 7 := ⟨⟨wd_266, by decide, by decide, by decide +kernel⟩, Or.inl wd_310, wd_311, wd_312, _, rfl, rfl⟩
theorem lk_X7_153 : LKs RX7 153 yX0_isOfKind 2 := ⟨⟨wd_15, by decide, by decide, by decide +kernel⟩, Or.inl wd_314, wd_22⟩
theorem lk_X7_160 : LKv RX7 160 yX1_hour 0 1 := ⟨⟨wd_36, by decide, by decide, by decide +kernel⟩, Or.inl wd_316, wd_61, wd_62, _, rfl, rfl⟩
theorem lk_X7_169 : LKv RX7 169 yX0_tellsAs 4 0 := ⟨⟨wd_15, by decide, by decide, by decide +kernel⟩, Or.inl wd_318, wd_319, wd_320, _, rfl, rfl⟩
theorem lk_X7_176 : LKs RX7 176 yJ9_max_7cf53 2 := ⟨⟨wd_26, by decide, by decide, by decide +kernel⟩, Or.inl wd_322, wd_27⟩
theorem lk_X7_181 : LKv RX7 181 yX7_preachedPairs 1 7 := ⟨⟨wd_266, by decide, by decide, by decide +kernel⟩, Or.inl wd_323, wd_324, wd_325, _, rfl, rfl⟩
theorem lk_X7_184 : LKv RX7 184 yX0_isPair 2 0 := ⟨⟨wd_15, by decide, by decide, by decide +kernel⟩, Or.inl wd_326, wd_16, wd_17, _, rfl, rfl⟩
theorem lk_X7_187 : LKv RX7 187 yX1_pairTells 3 1 := ⟨⟨wd_36, by decide, by decide, by decide +kernel⟩, Or.inl wd_327, wd_50, wd_51, _, rfl, rfl⟩
theorem lk_X7_191 : LKv RX7 191 yX3_hasRoom 1 3 := ⟨⟨wd_99, by decide, by decide, by decide +kernel⟩, Or.inl wd_328, wd_329, wd_330, _, rfl, rfl⟩
theorem lk_X7_194 : LKv RX7 194 yX3_doWatch 3 3 := ⟨⟨wd_99, by decide, by decide, by decide +kernel⟩, Or.inl wd_331, wd_113, wd_114, _, rfl, rfl⟩
theorem lk_X7_197 : LKs RX7 197 yX7_isStrength 1 := ⟨⟨wd_266, by decide, by decide, by decide +kernel⟩, Or.inl wd_332, wd_333⟩
theorem lk_X7_200 : LKv RX7 200 yX0_isNobody 0 0 := ⟨⟨wd_15, by decide, by decide, by decide +kernel⟩, Or.inl wd_334, wd_335, wd_336, _, rfl, rfl⟩
theorem lk_X7_204 : LKv RX7 204 yX3_doLoad 1 3 := ⟨⟨wd_99, by decide, by decide, by decide +kernel⟩, Or.inl wd_337, wd_116, wd_117, _, rfl, rfl⟩
theorem lk_X7_210 : LKv RX7 210 yX3_doCoffee 2 3 := ⟨⟨wd_99, by decide, by decide, by decide +kernel⟩, Or.inl wd_339, wd_119, wd_120, _, rfl, rfl⟩
theorem lk_X7_217 : LKv RX7 217 yX3_goBackTo 2 3 := ⟨⟨wd_99, by decide, by decide, by decide +kernel⟩, Or.inl wd_341, wd_342, wd_343, _, rfl, rfl⟩
theorem lk_X7_221 : LKs RX7 221 yX7_isKeptPlace 1 := ⟨⟨wd_266, by decide, by decide, by decide +kernel⟩, Or.inl wd_344, wd_345⟩
theorem lk_X7_224 : LKv RX7 224 yX3_become 1 3 := ⟨⟨wd_99, by decide, by decide, by decide +kernel⟩, Or.inl wd_346, wd_347, wd_348, _, rfl, rfl⟩
theorem lk_X7_227 : LKs RX7 227 yX7_isTurns 1 := ⟨⟨wd_266, by decide, by decide, by decide +kernel⟩, Or.inl wd_349, wd_350⟩
theorem lk_X7_230 : LKv RX7 230 yX6_strongest 3 6 := ⟨⟨wd_194, by decide, by decide, by decide +kernel⟩, Or.inl wd_351, wd_352, wd_353, _, rfl, rfl⟩
theorem lk_X7_237 : LKv RX7 237 yX7_refuseWatches 1 7 := ⟨⟨wd_266, by decide, by decide, by decide +kernel⟩, Or.inl wd_355, wd_356, wd_357, _, rfl, rfl⟩
theorem lk_X7_240 : LKv RX7 240 yX6_beginAside 1 6 := ⟨⟨wd_194, by decide, by decide, by decide +kernel⟩, Or.inl wd_358, wd_195, wd_196, _, rfl, rfl⟩
theorem lk_X7_247 : LKv RX7 247 yX1_passWatch 3 1 := ⟨⟨wd_36, by decide, by decide, by decide +kernel⟩, Or.inl wd_360, wd_103, wd_104, _, rfl, rfl⟩
theorem lk_X7_251 : LKs RX7 251 yJ9_min_7cf53 2 := ⟨⟨wd_26, by decide, by decide, by decide +kernel⟩, Or.inl wd_361, wd_59⟩
theorem lk_X7_254 : LKv RX7 254 yX7_refuseStrengths 1 7 := ⟨⟨wd_266, by decide, by decide, by decide +kernel⟩, Or.inl wd_362, wd_363, wd_364, _, rfl, rfl⟩
theorem lk_X7_257 : LKv RX7 257 yX6_waysFor 4 6 := ⟨⟨wd_194, by decide, by decide, by decide +kernel⟩, Or.inl wd_365, wd_366, wd_367, _, rfl, rfl⟩
theorem lk_X7_267 : LKs RX7 267 yJ6_bitCount_0f7a4 1 := ⟨⟨wd_225, by decide, by decide, by decide +kernel⟩, Or.inl wd_370, wd_226⟩
theorem lk_X7_272 : LKv RX7 272 yX7_tellShare 2 7 := ⟨⟨wd_266, by decide, by decide, by decide +kernel⟩, Or.inl wd_371, wd_372, wd_373, _, rfl, rfl⟩
theorem lk_X7_279 : LKv RX7 279 yX0_everybody 0 0 := ⟨⟨wd_15, by decide, by decide, by decide +kernel⟩, Or.inl wd_375, wd_213, wd_214, _, rfl, rfl⟩
theorem lk_X7_288 : LKv RX7 288 yX7_refuseTriples 2 7 := ⟨⟨wd_266, by decide, by decide, by decide +kernel⟩, Or.inl wd_378, wd_379, wd_380, _, rfl, rfl⟩
theorem lk_X7_294 : LKs RX7 294 yX7_agrees 4 := ⟨⟨wd_266, by decide, by decide, by decide +kernel⟩, Or.inl wd_382, wd_383⟩
theorem lk_X7_298 : LKv RX7 298 yX7_possibleKinds 2 7 := ⟨⟨wd_266, by decide, by decide, by decide +kernel⟩, Or.inl wd_384, wd_385, wd_386, _, rfl, rfl⟩
theorem lk_X7_302 : LKv RX7 302 yX7_greatestPartAlike 3 7 := ⟨⟨wd_266, by decide, by decide, by decide +kernel⟩, Or.inl wd_387, wd_388, wd_389, _, rfl, rfl⟩
theorem lk_X7_306 : LKv RX7 306 yX2_pairAll 2 2 := ⟨⟨wd_73, by decide, by decide, by decide +kernel⟩, Or.inl wd_390, wd_391, wd_392, _, rfl, rfl⟩
theorem lk_X7_313 : LKv RX7 313 yX6_byTurns 3 6 := ⟨⟨wd_194, by decide, by decide, by decide +kernel⟩, Or.inl wd_394, wd_395, wd_396, _, rfl, rfl⟩
theorem lk_X7_316 : LKs RX7 316 yX7_isPart 1 := ⟨⟨wd_266, by decide, by decide, by decide +kernel⟩, Or.inl wd_397, wd_398⟩
theorem lk_X7_319 : LKv RX7 319 yX1_behindHalfAsleep 4 1 := ⟨⟨wd_36, by decide, by decide, by decide +kernel⟩, Or.inl wd_400, wd_401, wd_402, _, rfl, rfl⟩
theorem lk_X7_323 : LKs RX7 323 yX7_sleepWeight 2 := ⟨⟨wd_266, by decide, by decide, by decide +kernel⟩, Or.inl wd_403, wd_404⟩
theorem lk_X7_332 : LKv RX7 332 yX7_doByLot 1 7 := ⟨⟨wd_266, by decide, by decide, by decide +kernel⟩, Or.inl wd_407, wd_408, wd_409, _, rfl, rfl⟩
theorem lk_X7_345 : LKv RX7 345 yX0_lovers 0 0 := ⟨⟨wd_15, by decide, by decide, by decide +kernel⟩, Or.inl wd_413, wd_414, wd_415, _, rfl, rfl⟩
theorem lk_X7_348 : LKs RX7 348 yX7_howManyThere 1 := ⟨⟨wd_266, by decide, by decide, by decide +kernel⟩, Or.inl wd_416, wd_417⟩
theorem lk_X7_352 : LKv RX7 352 yX7_howManyKept 0 7 := ⟨⟨wd_266, by decide, by decide, by decide +kernel⟩, Or.inl wd_418, wd_419, wd_420, _, rfl, rfl⟩
theorem lk_X7_362 : LKs RX7 362 yX7_addPlaces 2 := ⟨⟨wd_266, by decide, by decide, by decide +kernel⟩, Or.inl wd_422, wd_423⟩
theorem lk_X7_359 : LKv RX7 359 yX7_count 1 7 := ⟨⟨wd_266, by decide, by decide, by decide +kernel⟩, Or.inl wd_425, wd_426, wd_427, _, rfl, rfl⟩
theorem lk_X7_366 : LKv RX7 366 yX5_holds 1 5 := ⟨⟨wd_141, by decide, by decide, by decide +kernel⟩, Or.inl wd_428, wd_142, wd_143, _, rfl, rfl⟩
theorem lk_X7_369 : LKv RX7 369 yX0_isWatch 1 0 := ⟨⟨wd_15, by decide, by decide, by decide +kernel⟩, Or.inl wd_429, wd_430, wd_431, _, rfl, rfl⟩
theorem lk_X7_372 : LKv RX7 372 yX5_isWithin 2 5 := ⟨⟨wd_141, by decide, by decide, by decide +kernel⟩, Or.inl wd_432, wd_433, wd_434, _, rfl, rfl⟩
theorem lk_X7_375 : LKs RX7 375 yX7_commonMeasure 2 := ⟨⟨wd_266, by decide, by decide, by decide +kernel⟩, Or.inl wd_435, wd_436⟩
theorem lk_X7_379 : LKs RX7 379 yJ9_max_f86c9 2 := ⟨⟨wd_26, by decide, by decide, by decide +kernel⟩, Or.inl wd_437, wd_438⟩
theorem lk_X7_381 : LKs RX7 381 yJ9_min_f86c9 2 := ⟨⟨wd_26, by decide, by decide, by decide +kernel⟩, Or.inl wd_439, wd_440⟩
theorem lk_X7_389 : LKv RX7 389 yX1_pairMeans 3 1 := ⟨⟨wd_36, by decide, by decide, by decide +kernel⟩, Or.inl wd_443, wd_43, wd_44, _, rfl, rfl⟩
theorem lk_X7_392 : LKs RX7 392 yX0_tells 5 := ⟨⟨wd_15, by decide, by decide, by decide +kernel⟩, Or.inl wd_444, wd_24⟩
theorem lk_X7_396 : LKv RX7 396 yX7_toldAs 3 7 := ⟨⟨wd_266, by decide, by decide, by decide +kernel⟩, Or.inl wd_445, wd_446, wd_447, _, rfl, rfl⟩
theorem lk_X8_80 : LKs RX8 80 yX8_in 3 := ⟨⟨wd_477, by decide, by decide, by decide +kernel⟩, Or.inl wd_476, wd_478⟩
theorem lk_X8_86 : LKs RX8 86 yX8_isRow 1 := ⟨⟨wd_477, by decide, by decide, by decide +kernel⟩, Or.inl wd_480, wd_481⟩
theorem lk_X8_90 : LKv RX8 90 yX8_refuse 1 8 := ⟨⟨wd_477, by decide, by decide, by decide +kernel⟩, Or.inl wd_482, wd_483, wd_484, _, rfl, rfl⟩
theorem lk_X8_94 : LKv RX8 94 yX8_refusedPlace 2 8 := ⟨⟨wd_477, by decide, by decide, by decide +kernel⟩, Or.inl wd_485, wd_486, wd_487, _, rfl, rfl⟩
theorem lk_X8_101 : LKs RX8 101 yX8_isText 1 := ⟨⟨wd_477, by decide, by decide, by decide +kernel⟩, Or.inl wd_489, wd_490⟩
theorem lk_X8_110 : LKv RX8 110 yX8_sign 0 8 := ⟨⟨wd_477, by decide, by decide, by decide +kernel⟩, Or.inl wd_493, wd_494, wd_495, _, rfl, rfl⟩
theorem lk_X8_121 : LKv RX8 121 yX8_want 2 8 := ⟨⟨wd_477, by decide, by decide, by decide +kernel⟩, Or.inl wd_499, wd_500, wd_501, _, rfl, rfl⟩
theorem lk_X8_125 : LKv RX8 125 yX8_figure 0 8 := ⟨⟨wd_477, by decide, by decide, by decide +kernel⟩, Or.inl wd_502, wd_503, wd_504, _, rfl, rfl⟩
theorem lk_X8_137 : LKv RX8 137 yX8_blanks 0 8 := ⟨⟨wd_477, by decide, by decide, by decide +kernel⟩, Or.inl wd_508, wd_509, wd_510, _, rfl, rfl⟩
theorem lk_X8_140 : LKv RX8 140 yX8_readFirst 0 8 := ⟨⟨wd_477, by decide, by decide, by decide +kernel⟩, Or.inl wd_511, wd_512, wd_513, _, rfl, rfl⟩
theorem lk_X8_143 : LKs RX8 143 yX8_kindOf 1 := ⟨⟨wd_477, by decide, by decide, by decide +kernel⟩, Or.inl wd_514, wd_515⟩
theorem lk_X8_150 : LKv RX8 150 yX8_readQuarrel 0 8 := ⟨⟨wd_477, by decide, by decide, by decide +kernel⟩, Or.inl wd_516, wd_517, wd_518, _, rfl, rfl⟩
theorem lk_X8_146 : LKv RX8 146 yX8_readOne 1 8 := ⟨⟨wd_477, by decide, by decide, by decide +kernel⟩, Or.inl wd_519, wd_520, wd_521, _, rfl, rfl⟩
theorem lk_X8_153 : LKv RX8 153 yX8_read 1 8 := ⟨⟨wd_477, by decide, by decide, by decide +kernel⟩, Or.inl wd_522, wd_523, wd_524, _, rfl, rfl⟩
theorem lk_X8_162 : LKs RX8 162 yX8_most 2 := ⟨⟨wd_477, by decide, by decide, by decide +kernel⟩, Or.inl wd_527, wd_528⟩
theorem lk_X8_165 : LKs RX8 165 yX8_talker 3 := ⟨⟨wd_477, by decide, by decide, by decide +kernel⟩, Or.inl wd_529, wd_530⟩
theorem lk_X8_169 : LKv RX8 169 yX8_hourIn 1 8 := ⟨⟨wd_477, by decide, by decide, by decide +kernel⟩, Or.inl wd_531, wd_532, wd_533, _, rfl, rfl⟩
theorem lk_X8_172 : LKs RX8 172 yX8_tells 5 := ⟨⟨wd_477, by decide, by decide, by decide +kernel⟩, Or.inl wd_534, wd_535⟩
theorem lk_X8_176 : LKv RX8 176 yX8_tellsIn 2 8 := ⟨⟨wd_477, by decide, by decide, by decide +kernel⟩, Or.inl wd_536, wd_537, wd_538, _, rfl, rfl⟩
theorem lk_X8_179 : LKs RX8 179 yX8_has 2 := ⟨⟨wd_477, by decide, by decide, by decide +kernel⟩, Or.inl wd_539, wd_540⟩
theorem lk_X8_183 : LKv RX8 183 yX8_bothIn 3 8 := ⟨⟨wd_477, by decide, by decide, by decide +kernel⟩, Or.inl wd_541, wd_542, wd_543, _, rfl, rfl⟩
theorem lk_X8_186 : LKv RX8 186 yX8_isOne 1 8 := ⟨⟨wd_477, by decide, by decide, by decide +kernel⟩, Or.inl wd_544, wd_545, wd_546, _, rfl, rfl⟩
theorem lk_X8_189 : LKv RX8 189 yX8_told 2 8 := ⟨⟨wd_477, by decide, by decide, by decide +kernel⟩, Or.inl wd_547, wd_548, wd_549, _, rfl, rfl⟩
theorem lk_X8_192 : LKs RX8 192 yX8_isOf 2 := ⟨⟨wd_477, by decide, by decide, by decide +kernel⟩, Or.inl wd_550, wd_551⟩
theorem lk_X8_195 : LKv RX8 195 yX8_halves 1 8 := ⟨⟨wd_477, by decide, by decide, by decide +kernel⟩, Or.inl wd_552, wd_553, wd_554, _, rfl, rfl⟩
theorem lk_X8_198 : LKv RX8 198 yX8_isPair 2 8 := ⟨⟨wd_477, by decide, by decide, by decide +kernel⟩, Or.inl wd_555, wd_556, wd_557, _, rfl, rfl⟩
theorem lk_X8_201 : LKv RX8 201 yX8_talkIn 3 8 := ⟨⟨wd_477, by decide, by decide, by decide +kernel⟩, Or.inl wd_558, wd_559, wd_560, _, rfl, rfl⟩
theorem lk_X8_204 : LKv RX8 204 yX8_take 3 8 := ⟨⟨wd_477, by decide, by decide, by decide +kernel⟩, Or.inl wd_561, wd_562, wd_563, _, rfl, rfl⟩
theorem lk_X8_208 : LKs RX8 208 yX8_least 2 := ⟨⟨wd_477, by decide, by decide, by decide +kernel⟩, Or.inl wd_564, wd_565⟩
theorem lk_X8_211 : LKv RX8 211 yX8_remember 0 8 := ⟨⟨wd_477, by decide, by decide, by decide +kernel⟩, Or.inl wd_566, wd_567, wd_568, _, rfl, rfl⟩
theorem lk_X8_214 : LKv RX8 214 yX8_watchIn 3 8 := ⟨⟨wd_477, by decide, by decide, by decide +kernel⟩, Or.inl wd_569, wd_570, wd_571, _, rfl, rfl⟩
theorem lk_X8_219 : LKv RX8 219 yX8_send 1 8 := ⟨⟨wd_477, by decide, by decide, by decide +kernel⟩, Or.inl wd_573, wd_574, wd_575, _, rfl, rfl⟩
theorem lk_X8_227 : LKv RX8 227 yX8_pairOf 3 8 := ⟨⟨wd_477, by decide, by decide, by decide +kernel⟩, Or.inl wd_578, wd_579, wd_580, _, rfl, rfl⟩
theorem lk_X8_230 : LKv RX8 230 yX8_watchBy 1 8 := ⟨⟨wd_477, by decide, by decide, by decide +kernel⟩, Or.inl wd_581, wd_582, wd_583, _, rfl, rfl⟩
theorem lk_X8_233 : LKv RX8 233 yX8_layPairs 0 8 := ⟨⟨wd_477, by decide, by decide, by decide +kernel⟩, Or.inl wd_584, wd_585, wd_586, _, rfl, rfl⟩
theorem lk_X8_242 : LKv RX8 242 yX8_newRow 2 8 := ⟨⟨wd_477, by decide, by decide, by decide +kernel⟩, Or.inl wd_587, wd_588, wd_589, _, rfl, rfl⟩
theorem lk_X8_236 : LKv RX8 236 yX8_ways 1 8 := ⟨⟨wd_477, by decide, by decide, by decide +kernel⟩, Or.inl wd_590, wd_591, wd_592, _, rfl, rfl⟩
theorem lk_X8_239 : LKv RX8 239 yX8_behind 2 8 := ⟨⟨wd_477, by decide, by decide, by decide +kernel⟩, Or.inl wd_593, wd_594, wd_595, _, rfl, rfl⟩
theorem lk_X8_246 : LKv RX8 246 yX8_isNumber 1 8 := ⟨⟨wd_477, by decide, by decide, by decide +kernel⟩, Or.inl wd_596, wd_597, wd_598, _, rfl, rfl⟩
theorem lk_X8_249 : LKv RX8 249 yX8_refusedWatches 1 8 := ⟨⟨wd_477, by decide, by decide, by decide +kernel⟩, Or.inl wd_599, wd_600, wd_601, _, rfl, rfl⟩
theorem lk_X8_252 : LKv RX8 252 yX8_refusedStrengths 1 8 := ⟨⟨wd_477, by decide, by decide, by decide +kernel⟩, Or.inl wd_602, wd_603, wd_604, _, rfl, rfl⟩
theorem lk_X8_255 : LKv RX8 255 yX8_peopleOf 2 8 := ⟨⟨wd_477, by decide, by decide, by decide +kernel⟩, Or.inl wd_605, wd_606, wd_607, _, rfl, rfl⟩
theorem lk_X8_258 : LKs RX8 258 yX8_howMany 1 := ⟨⟨wd_477, by decide, by decide, by decide +kernel⟩, Or.inl wd_608, wd_609⟩
theorem lk_X8_261 : LKv RX8 261 yX8_isSo 3 8 := ⟨⟨wd_477, by decide, by decide, by decide +kernel⟩, Or.inl wd_610, wd_611, wd_612, _, rfl, rfl⟩
theorem lk_X8_277 : LKv RX8 277 yX8_laySo 1 8 := ⟨⟨wd_477, by decide, by decide, by decide +kernel⟩, Or.inl wd_617, wd_618, wd_619, _, rfl, rfl⟩
theorem lk_X8_289 : LKv RX8 289 yX8_refusedTriples 1 8 := ⟨⟨wd_477, by decide, by decide, by decide +kernel⟩, Or.inl wd_624, wd_625, wd_626, _, rfl, rfl⟩
theorem lk_X8_292 : LKv RX8 292 yX8_fits 4 8 := ⟨⟨wd_477, by decide, by decide, by decide +kernel⟩, Or.inl wd_627, wd_628, wd_629, _, rfl, rfl⟩
theorem lk_X8_296 : LKv RX8 296 yX8_kindsBy 2 8 := ⟨⟨wd_477, by decide, by decide, by decide +kernel⟩, Or.inl wd_630, wd_631, wd_632, _, rfl, rfl⟩
theorem lk_X8_299 : LKv RX8 299 yX8_greatestPart 3 8 := ⟨⟨wd_477, by decide, by decide, by decide +kernel⟩, Or.inl wd_633, wd_634, wd_635, _, rfl, rfl⟩
theorem lk_X8_302 : LKv RX8 302 yX8_layWay 1 8 := ⟨⟨wd_477, by decide, by decide, by decide +kernel⟩, Or.inl wd_636, wd_637, wd_638, _, rfl, rfl⟩
theorem lk_X8_305 : LKv RX8 305 yX8_isAhead 0 8 := ⟨⟨wd_477, by decide, by decide, by decide +kernel⟩, Or.inl wd_639, wd_640, wd_641, _, rfl, rfl⟩
theorem lk_X8_309 : LKs RX8 309 yX8_divisor 2 := ⟨⟨wd_477, by decide, by decide, by decide +kernel⟩, Or.inl wd_642, wd_643⟩
theorem lk_X8_323 : LKv RX8 323 yX8_tell 2 8 := ⟨⟨wd_477, by decide, by decide, by decide +kernel⟩, Or.inl wd_646, wd_647, wd_648, _, rfl, rfl⟩
theorem lk_X8_315 : LKv RX8 315 yX8_strength 3 8 := ⟨⟨wd_477, by decide, by decide, by decide +kernel⟩, Or.inl wd_649, wd_650, wd_651, _, rfl, rfl⟩
theorem lk_X8_318 : LKs RX8 318 yX8_weight 2 := ⟨⟨wd_477, by decide, by decide, by decide +kernel⟩, Or.inl wd_652, wd_653⟩
theorem lk_X8_341 : LKv RX8 341 yX8_lovers 0 8 := ⟨⟨wd_477, by decide, by decide, by decide +kernel⟩, Or.inl wd_661, wd_662, wd_663, _, rfl, rfl⟩
theorem lk_X8_344 : LKs RX8 344 yX8_there 2 := ⟨⟨wd_477, by decide, by decide, by decide +kernel⟩, Or.inl wd_664, wd_665⟩
theorem lk_X8_355 : LKs RX8 355 yX8_mixAll 5 := ⟨⟨wd_477, by decide, by decide, by decide +kernel⟩, Or.inl wd_668, wd_669⟩
theorem lk_X8_352 : LKv RX8 352 yX8_count 1 8 := ⟨⟨wd_477, by decide, by decide, by decide +kernel⟩, Or.inl wd_670, wd_671, wd_672, _, rfl, rfl⟩
theorem lk_L_9 : LKi RL 9 yX7_init 0 := ⟨⟨wd_266, by decide, by decide, by decide +kernel⟩, Or.inl wd_678, wd_679, rfl⟩
theorem lk_L_12 : LKi RL 12 yX8_init 0 := ⟨⟨wd_477, by decide, by decide, by decide +kernel⟩, Or.inl wd_682, wd_683, rfl⟩
theorem lk_L_13 : LKv RL 13 yX7_row 2 7 := ⟨⟨wd_266, by decide, by decide, by decide +kernel⟩, Or.inl wd_684, wd_685, wd_686, _, rfl, rfl⟩
theorem lk_L_17 : LKv RL 17 yX8_row 2 8 := ⟨⟨wd_477, by decide, by decide, by decide +kernel⟩, Or.inl wd_687, wd_688, wd_689, _, rfl, rfl⟩
theorem lk_L_18 : LKv RL 18 yX7_lay 3 7 := ⟨⟨wd_266, by decide, by decide, by decide +kernel⟩, Or.inl wd_690, wd_691, wd_692, _, rfl, rfl⟩
theorem lk_L_22 : LKv RL 22 yX8_lay 3 8 := ⟨⟨wd_477, by decide, by decide, by decide +kernel⟩, Or.inl wd_693, wd_694, wd_695, _, rfl, rfl⟩
theorem lk_L_23 : LKv RL 23 yX7_at 2 7 := ⟨⟨wd_266, by decide, by decide, by decide +kernel⟩, Or.inl wd_696, wd_697, wd_698, _, rfl, rfl⟩
theorem lk_L_26 : LKv RL 26 yX8_at 2 8 := ⟨⟨wd_477, by decide, by decide, by decide +kernel⟩, Or.inl wd_699, wd_700, wd_701, _, rfl, rfl⟩
theorem lk_L_27 : LKv RL 27 yX7_tear 1 7 := ⟨⟨wd_266, by decide, by decide, by decide +kernel⟩, Or.inl wd_702, wd_703, wd_704, _, rfl, rfl⟩
theorem lk_L_31 : LKv RL 31 yX8_tear 1 8 := ⟨⟨wd_477, by decide, by decide, by decide +kernel⟩, Or.inl wd_705, wd_706, wd_707, _, rfl, rfl⟩
theorem lk_L_32 : LKv RL 32 yX7_copy 5 7 := ⟨⟨wd_266, by decide, by decide, by decide +kernel⟩, Or.inl wd_708, wd_709, wd_710, _, rfl, rfl⟩
theorem lk_L_36 : LKv RL 36 yX8_copy 5 8 := ⟨⟨wd_477, by decide, by decide, by decide +kernel⟩, Or.inl wd_711, wd_712, wd_713, _, rfl, rfl⟩
theorem lk_L_37 : LKv RL 37 yX7_mean 1 7 := ⟨⟨wd_266, by decide, by decide, by decide +kernel⟩, Or.inl wd_714, wd_715, wd_716, _, rfl, rfl⟩
theorem lk_L_40 : LKv RL 40 yX8_mean 1 8 := ⟨⟨wd_477, by decide, by decide, by decide +kernel⟩, Or.inl wd_717, wd_718, wd_719, _, rfl, rfl⟩
theorem lk_L_41 : LKv RL 41 yX7_text 2 7 := ⟨⟨wd_266, by decide, by decide, by decide +kernel⟩, Or.inl wd_720, wd_721, wd_722, _, rfl, rfl⟩
theorem lk_L_44 : LKv RL 44 yX8_text 2 8 := ⟨⟨wd_477, by decide, by decide, by decide +kernel⟩, Or.inl wd_723, wd_724, wd_725, _, rfl, rfl⟩
theorem lk_L_45 : LKv RL 45 yX7_put 3 7 := ⟨⟨wd_266, by decide, by decide, by decide +kernel⟩, Or.inl wd_726, wd_727, wd_728, _, rfl, rfl⟩
theorem lk_L_48 : LKv RL 48 yX8_put 3 8 := ⟨⟨wd_477, by decide, by decide, by decide +kernel⟩, Or.inl wd_729, wd_730, wd_731, _, rfl, rfl⟩
theorem lk_L_49 : LKv RL 49 yX7_fault 1 7 := ⟨⟨wd_266, by decide, by decide, by decide +kernel⟩, Or.inl wd_732, wd_733, wd_734, _, rfl, rfl⟩
theorem lk_L_52 : LKv RL 52 yX8_fault 1 8 := ⟨⟨wd_477, by decide, by decide, by decide +kernel⟩, Or.inl wd_735, wd_736, wd_737, _, rfl, rfl⟩
theorem lk_L_53 : LKv RL 53 yX7_bridge 1 7 := ⟨⟨wd_266, by decide, by decide, by decide +kernel⟩, Or.inl wd_738, wd_739, wd_740, _, rfl, rfl⟩
theorem lk_L_56 : LKv RL 56 yX8_bridge 1 8 := ⟨⟨wd_477, by decide, by decide, by decide +kernel⟩, Or.inl wd_741, wd_742, wd_743, _, rfl, rfl⟩
theorem lk_L_57 : LKv RL 57 yX7_one 2 7 := ⟨⟨wd_266, by decide, by decide, by decide +kernel⟩, Or.inl wd_744, wd_745, wd_746, _, rfl, rfl⟩
theorem lk_L_60 : LKv RL 60 yX8_one 2 8 := ⟨⟨wd_477, by decide, by decide, by decide +kernel⟩, Or.inl wd_747, wd_748, wd_749, _, rfl, rfl⟩
theorem lk_L_61 : LKv RL 61 yX7_mark 2 7 := ⟨⟨wd_266, by decide, by decide, by decide +kernel⟩, Or.inl wd_750, wd_751, wd_752, _, rfl, rfl⟩
theorem lk_L_64 : LKv RL 64 yX8_mark 2 8 := ⟨⟨wd_477, by decide, by decide, by decide +kernel⟩, Or.inl wd_753, wd_754, wd_755, _, rfl, rfl⟩
theorem lk_L_65 : LKv RL 65 yX7_talk 2 7 := ⟨⟨wd_266, by decide, by decide, by decide +kernel⟩, Or.inl wd_756, wd_757, wd_758, _, rfl, rfl⟩
theorem lk_L_68 : LKv RL 68 yX8_talk 2 8 := ⟨⟨wd_477, by decide, by decide, by decide +kernel⟩, Or.inl wd_759, wd_760, wd_761, _, rfl, rfl⟩
theorem lk_L_69 : LKv RL 69 yX7_watch 2 7 := ⟨⟨wd_266, by decide, by decide, by decide +kernel⟩, Or.inl wd_762, wd_763, wd_764, _, rfl, rfl⟩
theorem lk_L_72 : LKv RL 72 yX8_watch 2 8 := ⟨⟨wd_477, by decide, by decide, by decide +kernel⟩, Or.inl wd_765, wd_766, wd_767, _, rfl, rfl⟩
theorem lk_L_73 : LKv RL 73 yX7_load 1 7 := ⟨⟨wd_266, by decide, by decide, by decide +kernel⟩, Or.inl wd_768, wd_769, wd_770, _, rfl, rfl⟩
theorem lk_L_76 : LKv RL 76 yX8_load 1 8 := ⟨⟨wd_477, by decide, by decide, by decide +kernel⟩, Or.inl wd_771, wd_772, wd_773, _, rfl, rfl⟩
theorem lk_L_77 : LKv RL 77 yX7_coffee 1 7 := ⟨⟨wd_266, by decide, by decide, by decide +kernel⟩, Or.inl wd_774, wd_775, wd_776, _, rfl, rfl⟩
theorem lk_L_80 : LKv RL 80 yX8_coffee 1 8 := ⟨⟨wd_477, by decide, by decide, by decide +kernel⟩, Or.inl wd_777, wd_778, wd_779, _, rfl, rfl⟩
theorem lk_L_81 : LKv RL 81 yX7_undo 1 7 := ⟨⟨wd_266, by decide, by decide, by decide +kernel⟩, Or.inl wd_780, wd_781, wd_782, _, rfl, rfl⟩
theorem lk_L_84 : LKv RL 84 yX8_undo 1 8 := ⟨⟨wd_477, by decide, by decide, by decide +kernel⟩, Or.inl wd_783, wd_784, wd_785, _, rfl, rfl⟩
theorem lk_L_85 : LKv RL 85 yX7_keep 1 7 := ⟨⟨wd_266, by decide, by decide, by decide +kernel⟩, Or.inl wd_786, wd_787, wd_788, _, rfl, rfl⟩
theorem lk_L_88 : LKv RL 88 yX8_keep 1 8 := ⟨⟨wd_477, by decide, by decide, by decide +kernel⟩, Or.inl wd_789, wd_790, wd_791, _, rfl, rfl⟩
theorem lk_L_89 : LKv RL 89 yX7_on 1 7 := ⟨⟨wd_266, by decide, by decide, by decide +kernel⟩, Or.inl wd_792, wd_793, wd_794, _, rfl, rfl⟩
theorem lk_L_92 : LKv RL 92 yX8_on 1 8 := ⟨⟨wd_477, by decide, by decide, by decide +kernel⟩, Or.inl wd_795, wd_796, wd_797, _, rfl, rfl⟩
theorem lk_L_93 : LKv RL 93 yX7_best 2 7 := ⟨⟨wd_266, by decide, by decide, by decide +kernel⟩, Or.inl wd_798, wd_799, wd_800, _, rfl, rfl⟩
theorem lk_L_96 : LKv RL 96 yX8_best 2 8 := ⟨⟨wd_477, by decide, by decide, by decide +kernel⟩, Or.inl wd_801, wd_802, wd_803, _, rfl, rfl⟩
theorem lk_L_97 : LKv RL 97 yX7_through 1 7 := ⟨⟨wd_266, by decide, by decide, by decide +kernel⟩, Or.inl wd_804, wd_805, wd_806, _, rfl, rfl⟩
theorem lk_L_100 : LKv RL 100 yX8_through 1 8 := ⟨⟨wd_477, by decide, by decide, by decide +kernel⟩, Or.inl wd_807, wd_808, wd_809, _, rfl, rfl⟩
theorem lk_L_101 : LKv RL 101 yX7_when 2 7 := ⟨⟨wd_266, by decide, by decide, by decide +kernel⟩, Or.inl wd_810, wd_811, wd_812, _, rfl, rfl⟩
theorem lk_L_104 : LKv RL 104 yX8_when 2 8 := ⟨⟨wd_477, by decide, by decide, by decide +kernel⟩, Or.inl wd_813, wd_814, wd_815, _, rfl, rfl⟩
theorem lk_L_105 : LKv RL 105 yX7_bear 1 7 := ⟨⟨wd_266, by decide, by decide, by decide +kernel⟩, Or.inl wd_816, wd_817, wd_818, _, rfl, rfl⟩
theorem lk_L_108 : LKv RL 108 yX8_bear 1 8 := ⟨⟨wd_477, by decide, by decide, by decide +kernel⟩, Or.inl wd_819, wd_820, wd_821, _, rfl, rfl⟩
theorem lk_L_109 : LKv RL 109 yX7_sagged 1 7 := ⟨⟨wd_266, by decide, by decide, by decide +kernel⟩, Or.inl wd_822, wd_823, wd_824, _, rfl, rfl⟩
theorem lk_L_112 : LKv RL 112 yX8_sagged 1 8 := ⟨⟨wd_477, by decide, by decide, by decide +kernel⟩, Or.inl wd_825, wd_826, wd_827, _, rfl, rfl⟩
theorem lk_L_113 : LKv RL 113 yX7_sure 1 7 := ⟨⟨wd_266, by decide, by decide, by decide +kernel⟩, Or.inl wd_828, wd_829, wd_830, _, rfl, rfl⟩
theorem lk_L_116 : LKv RL 116 yX8_sure 1 8 := ⟨⟨wd_477, by decide, by decide, by decide +kernel⟩, Or.inl wd_831, wd_832, wd_833, _, rfl, rfl⟩
theorem lk_L_117 : LKv RL 117 yX7_lasts 2 7 := ⟨⟨wd_266, by decide, by decide, by decide +kernel⟩, Or.inl wd_834, wd_835, wd_836, _, rfl, rfl⟩
theorem lk_L_120 : LKv RL 120 yX8_lasts 2 8 := ⟨⟨wd_477, by decide, by decide, by decide +kernel⟩, Or.inl wd_837, wd_838, wd_839, _, rfl, rfl⟩
theorem lk_L_121 : LKv RL 121 yX7_kinds 2 7 := ⟨⟨wd_266, by decide, by decide, by decide +kernel⟩, Or.inl wd_840, wd_841, wd_842, _, rfl, rfl⟩
theorem lk_L_124 : LKv RL 124 yX8_kinds 2 8 := ⟨⟨wd_477, by decide, by decide, by decide +kernel⟩, Or.inl wd_843, wd_844, wd_845, _, rfl, rfl⟩
theorem lk_L_125 : LKv RL 125 yX7_test 2 7 := ⟨⟨wd_266, by decide, by decide, by decide +kernel⟩, Or.inl wd_846, wd_847, wd_848, _, rfl, rfl⟩
theorem lk_L_128 : LKv RL 128 yX8_test 2 8 := ⟨⟨wd_477, by decide, by decide, by decide +kernel⟩, Or.inl wd_849, wd_850, wd_851, _, rfl, rfl⟩
theorem lk_L_129 : LKv RL 129 yX7_pairs 1 7 := ⟨⟨wd_266, by decide, by decide, by decide +kernel⟩, Or.inl wd_852, wd_853, wd_854, _, rfl, rfl⟩
theorem lk_L_132 : LKv RL 132 yX8_pairs 1 8 := ⟨⟨wd_477, by decide, by decide, by decide +kernel⟩, Or.inl wd_855, wd_856, wd_857, _, rfl, rfl⟩
theorem lk_L_133 : LKv RL 133 yX7_duel 1 7 := ⟨⟨wd_266, by decide, by decide, by decide +kernel⟩, Or.inl wd_858, wd_859, wd_860, _, rfl, rfl⟩
theorem lk_L_136 : LKv RL 136 yX8_duel 1 8 := ⟨⟨wd_477, by decide, by decide, by decide +kernel⟩, Or.inl wd_861, wd_862, wd_863, _, rfl, rfl⟩
theorem lk_L_137 : LKv RL 137 yX7_odds 4 7 := ⟨⟨wd_266, by decide, by decide, by decide +kernel⟩, Or.inl wd_864, wd_865, wd_866, _, rfl, rfl⟩
theorem lk_L_141 : LKv RL 141 yX8_odds 4 8 := ⟨⟨wd_477, by decide, by decide, by decide +kernel⟩, Or.inl wd_867, wd_868, wd_869, _, rfl, rfl⟩
theorem lk_L_142 : LKv RL 142 yX7_mid 3 7 := ⟨⟨wd_266, by decide, by decide, by decide +kernel⟩, Or.inl wd_870, wd_871, wd_872, _, rfl, rfl⟩
theorem lk_L_145 : LKv RL 145 yX8_mid 3 8 := ⟨⟨wd_477, by decide, by decide, by decide +kernel⟩, Or.inl wd_873, wd_874, wd_875, _, rfl, rfl⟩
theorem lk_L_146 : LKv RL 146 yX7_lots 2 7 := ⟨⟨wd_266, by decide, by decide, by decide +kernel⟩, Or.inl wd_876, wd_877, wd_878, _, rfl, rfl⟩
theorem lk_L_149 : LKv RL 149 yX8_lots 2 8 := ⟨⟨wd_477, by decide, by decide, by decide +kernel⟩, Or.inl wd_879, wd_880, wd_881, _, rfl, rfl⟩
theorem lk_L_150 : LKv RL 150 yX7_asked 0 7 := ⟨⟨wd_266, by decide, by decide, by decide +kernel⟩, Or.inl wd_882, wd_883, wd_884, _, rfl, rfl⟩
theorem lk_L_154 : LKv RL 154 yX8_asked 0 8 := ⟨⟨wd_477, by decide, by decide, by decide +kernel⟩, Or.inl wd_885, wd_886, wd_887, _, rfl, rfl⟩
theorem lk_L_155 : LKv RL 155 yX7_upper 0 7 := ⟨⟨wd_266, by decide, by decide, by decide +kernel⟩, Or.inl wd_888, wd_889, wd_890, _, rfl, rfl⟩
theorem lk_L_159 : LKv RL 159 yX8_upper 0 8 := ⟨⟨wd_477, by decide, by decide, by decide +kernel⟩, Or.inl wd_891, wd_892, wd_893, _, rfl, rfl⟩
theorem lk_L_160 : LKv RL 160 yX7_lower 0 7 := ⟨⟨wd_266, by decide, by decide, by decide +kernel⟩, Or.inl wd_894, wd_895, wd_896, _, rfl, rfl⟩
theorem lk_L_163 : LKv RL 163 yX8_lower 0 8 := ⟨⟨wd_477, by decide, by decide, by decide +kernel⟩, Or.inl wd_897, wd_898, wd_899, _, rfl, rfl⟩
theorem lk_L_164 : LKv RL 164 yX7_count 1 7 := ⟨⟨wd_266, by decide, by decide, by decide +kernel⟩, Or.inl wd_900, wd_426, wd_427, _, rfl, rfl⟩
theorem lk_L_167 : LKv RL 167 yX8_count 1 8 := ⟨⟨wd_477, by decide, by decide, by decide +kernel⟩, Or.inl wd_901, wd_671, wd_672, _, rfl, rfl⟩
theorem lk_L_168 : LKv RL 168 yX7_finding 0 7 := ⟨⟨wd_266, by decide, by decide, by decide +kernel⟩, Or.inl wd_902, wd_903, wd_904, _, rfl, rfl⟩
theorem lk_L_171 : LKv RL 171 yX8_finding 0 8 := ⟨⟨wd_477, by decide, by decide, by decide +kernel⟩, Or.inl wd_905, wd_906, wd_907, _, rfl, rfl⟩
theorem lk_L_172 : LKv RL 172 yX7_findings 1 7 := ⟨⟨wd_266, by decide, by decide, by decide +kernel⟩, Or.inl wd_908, wd_909, wd_910, _, rfl, rfl⟩
theorem lk_L_175 : LKv RL 175 yX8_findings 1 8 := ⟨⟨wd_477, by decide, by decide, by decide +kernel⟩, Or.inl wd_911, wd_912, wd_913, _, rfl, rfl⟩
theorem lk_L_176 : LKv RL 176 yX7_digest 0 7 := ⟨⟨wd_266, by decide, by decide, by decide +kernel⟩, Or.inl wd_914, wd_915, wd_916, _, rfl, rfl⟩
theorem lk_L_179 : LKv RL 179 yX8_digest 0 8 := ⟨⟨wd_477, by decide, by decide, by decide +kernel⟩, Or.inl wd_917, wd_918, wd_919, _, rfl, rfl⟩
