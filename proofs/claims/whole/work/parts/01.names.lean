-- ===== PART A: goes FIRST, ahead of the names: the tables' words, and 'selects' of the private methods out of them =====
/-- a private method of a class that the tables say can be made, by its rows of tables_1 -/
def lw_okq (q : MethodName × Nat) : Prop := (q.1.cls ≠ "java/lang/invoke/MethodHandle" ∧ q.1.cls ≠ "java/lang/invoke/VarHandle") ∧ Cond.instantiable q.1.cls q.2 ∈ tables_1 ∧ Cond.privateMethod q.1 ∈ tables_1 ∧ Cond.instanceMethod q.1 ∈ tables_1
theorem lw_p0 : lw_okq (⟨"BridgeAwake", "found", "(I)I"⟩, 13) := ⟨⟨by decide +kernel, by decide +kernel⟩, List.mem_of_getElem? (i := 15) (by decide +kernel), List.mem_of_getElem? (i := 288) (by decide +kernel), List.mem_of_getElem? (i := 289) (by decide +kernel)⟩
theorem lw_p1 : lw_okq (⟨"BridgeAwake", "refusePlace", "(LBridgeAwake$Row;I)I"⟩, 13) := ⟨⟨by decide +kernel, by decide +kernel⟩, List.mem_of_getElem? (i := 15) (by decide +kernel), List.mem_of_getElem? (i := 306) (by decide +kernel), List.mem_of_getElem? (i := 307) (by decide +kernel)⟩
theorem lw_p2 : lw_okq (⟨"BridgeAwake", "tellAsked", "(I)I"⟩, 13) := ⟨⟨by decide +kernel, by decide +kernel⟩, List.mem_of_getElem? (i := 15) (by decide +kernel), List.mem_of_getElem? (i := 323) (by decide +kernel), List.mem_of_getElem? (i := 324) (by decide +kernel)⟩
theorem lw_p3 : lw_okq (⟨"BridgeAwake$Reader", "skipBlanks", "(LBridgeAwake$Row;)V"⟩, 2) := ⟨⟨by decide +kernel, by decide +kernel⟩, List.mem_of_getElem? (i := 72) (by decide +kernel), List.mem_of_getElem? (i := 379) (by decide +kernel), List.mem_of_getElem? (i := 380) (by decide +kernel)⟩
theorem lw_p4 : lw_okq (⟨"BridgeAwake$Reader", "readHead", "(LBridgeAwake$Row;)I"⟩, 2) := ⟨⟨by decide +kernel, by decide +kernel⟩, List.mem_of_getElem? (i := 72) (by decide +kernel), List.mem_of_getElem? (i := 384) (by decide +kernel), List.mem_of_getElem? (i := 385) (by decide +kernel)⟩
theorem lw_p5 : lw_okq (⟨"BridgeAwake$Reader", "readQuarrel", "(LBridgeAwake$Row;)I"⟩, 2) := ⟨⟨by decide +kernel, by decide +kernel⟩, List.mem_of_getElem? (i := 72) (by decide +kernel), List.mem_of_getElem? (i := 392) (by decide +kernel), List.mem_of_getElem? (i := 393) (by decide +kernel)⟩
theorem lw_p6 : lw_okq (⟨"BridgeAwake$Reader", "readOne", "(LBridgeAwake$Row;)I"⟩, 2) := ⟨⟨by decide +kernel, by decide +kernel⟩, List.mem_of_getElem? (i := 72) (by decide +kernel), List.mem_of_getElem? (i := 410) (by decide +kernel), List.mem_of_getElem? (i := 411) (by decide +kernel)⟩
theorem lw_p7 : lw_okq (⟨"BridgeAwake$Hold", "listen", "(LBridgeAwake$Folk;)V"⟩, 4) := ⟨⟨by decide +kernel, by decide +kernel⟩, List.mem_of_getElem? (i := 93) (by decide +kernel), List.mem_of_getElem? (i := 438) (by decide +kernel), List.mem_of_getElem? (i := 439) (by decide +kernel)⟩
theorem lw_p8 : lw_okq (⟨"BridgeAwake", "fact", "(II)I"⟩, 13) := ⟨⟨by decide +kernel, by decide +kernel⟩, List.mem_of_getElem? (i := 15) (by decide +kernel), List.mem_of_getElem? (i := 458) (by decide +kernel), List.mem_of_getElem? (i := 459) (by decide +kernel)⟩
theorem lw_p9 : lw_okq (⟨"BridgeAwake", "preachedPairs", "(I)I"⟩, 13) := ⟨⟨by decide +kernel, by decide +kernel⟩, List.mem_of_getElem? (i := 15) (by decide +kernel), List.mem_of_getElem? (i := 476) (by decide +kernel), List.mem_of_getElem? (i := 477) (by decide +kernel)⟩
theorem lw_p10 : lw_okq (⟨"BridgeAwake$Night", "note", "(I)V"⟩, 7) := ⟨⟨by decide +kernel, by decide +kernel⟩, List.mem_of_getElem? (i := 87) (by decide +kernel), List.mem_of_getElem? (i := 509) (by decide +kernel), List.mem_of_getElem? (i := 510) (by decide +kernel)⟩
theorem lw_p11 : lw_okq (⟨"BridgeAwake$Hold", "strengthWith", "(I)I"⟩, 4) := ⟨⟨by decide +kernel, by decide +kernel⟩, List.mem_of_getElem? (i := 93) (by decide +kernel), List.mem_of_getElem? (i := 518) (by decide +kernel), List.mem_of_getElem? (i := 519) (by decide +kernel)⟩
theorem lw_p12 : lw_okq (⟨"BridgeAwake$Search", "copyDeeper", "(I)LBridgeAwake$Hold;"⟩, 12) := ⟨⟨by decide +kernel, by decide +kernel⟩, List.mem_of_getElem? (i := 146) (by decide +kernel), List.mem_of_getElem? (i := 602) (by decide +kernel), List.mem_of_getElem? (i := 603) (by decide +kernel)⟩
theorem lw_p13 : lw_okq (⟨"BridgeAwake$Search", "noteStrength", "(I)V"⟩, 12) := ⟨⟨by decide +kernel, by decide +kernel⟩, List.mem_of_getElem? (i := 146) (by decide +kernel), List.mem_of_getElem? (i := 611) (by decide +kernel), List.mem_of_getElem? (i := 612) (by decide +kernel)⟩
theorem lw_p14 : lw_okq (⟨"BridgeAwake", "refuseWatches", "(I)I"⟩, 13) := ⟨⟨by decide +kernel, by decide +kernel⟩, List.mem_of_getElem? (i := 15) (by decide +kernel), List.mem_of_getElem? (i := 619) (by decide +kernel), List.mem_of_getElem? (i := 620) (by decide +kernel)⟩
theorem lw_p15 : lw_okq (⟨"BridgeAwake", "refuseStrengths", "(I)I"⟩, 13) := ⟨⟨by decide +kernel, by decide +kernel⟩, List.mem_of_getElem? (i := 15) (by decide +kernel), List.mem_of_getElem? (i := 638) (by decide +kernel), List.mem_of_getElem? (i := 639) (by decide +kernel)⟩
def lw_privs_1 : List (MethodName × Nat) := [(⟨"BridgeAwake", "found", "(I)I"⟩, 13), (⟨"BridgeAwake", "refusePlace", "(LBridgeAwake$Row;I)I"⟩, 13), (⟨"BridgeAwake", "tellAsked", "(I)I"⟩, 13), (⟨"BridgeAwake$Reader", "skipBlanks", "(LBridgeAwake$Row;)V"⟩, 2), (⟨"BridgeAwake$Reader", "readHead", "(LBridgeAwake$Row;)I"⟩, 2), (⟨"BridgeAwake$Reader", "readQuarrel", "(LBridgeAwake$Row;)I"⟩, 2), (⟨"BridgeAwake$Reader", "readOne", "(LBridgeAwake$Row;)I"⟩, 2), (⟨"BridgeAwake$Hold", "listen", "(LBridgeAwake$Folk;)V"⟩, 4), (⟨"BridgeAwake", "fact", "(II)I"⟩, 13), (⟨"BridgeAwake", "preachedPairs", "(I)I"⟩, 13), (⟨"BridgeAwake$Night", "note", "(I)V"⟩, 7), (⟨"BridgeAwake$Hold", "strengthWith", "(I)I"⟩, 4), (⟨"BridgeAwake$Search", "copyDeeper", "(I)LBridgeAwake$Hold;"⟩, 12), (⟨"BridgeAwake$Search", "noteStrength", "(I)V"⟩, 12), (⟨"BridgeAwake", "refuseWatches", "(I)I"⟩, 13), (⟨"BridgeAwake", "refuseStrengths", "(I)I"⟩, 13)]
theorem lw_r1 : ∀ q ∈ lw_privs_1, lw_okq q := List.forall_mem_cons.mpr ⟨lw_p0, List.forall_mem_cons.mpr ⟨lw_p1, List.forall_mem_cons.mpr ⟨lw_p2, List.forall_mem_cons.mpr ⟨lw_p3, List.forall_mem_cons.mpr ⟨lw_p4, List.forall_mem_cons.mpr ⟨lw_p5, List.forall_mem_cons.mpr ⟨lw_p6, List.forall_mem_cons.mpr ⟨lw_p7, List.forall_mem_cons.mpr ⟨lw_p8, List.forall_mem_cons.mpr ⟨lw_p9, List.forall_mem_cons.mpr ⟨lw_p10, List.forall_mem_cons.mpr ⟨lw_p11, List.forall_mem_cons.mpr ⟨lw_p12, List.forall_mem_cons.mpr ⟨lw_p13, List.forall_mem_cons.mpr ⟨lw_p14, List.forall_mem_cons.mpr ⟨lw_p15, fun _ h => absurd h List.not_mem_nil⟩⟩⟩⟩⟩⟩⟩⟩⟩⟩⟩⟩⟩⟩⟩⟩
theorem lw_p16 : lw_okq (⟨"BridgeAwake$Search", "suits", "(II)Z"⟩, 12) := ⟨⟨by decide +kernel, by decide +kernel⟩, List.mem_of_getElem? (i := 146) (by decide +kernel), List.mem_of_getElem? (i := 654) (by decide +kernel), List.mem_of_getElem? (i := 655) (by decide +kernel)⟩
theorem lw_p17 : lw_okq (⟨"BridgeAwake$Search", "noteWay", "(I)V"⟩, 12) := ⟨⟨by decide +kernel, by decide +kernel⟩, List.mem_of_getElem? (i := 146) (by decide +kernel), List.mem_of_getElem? (i := 658) (by decide +kernel), List.mem_of_getElem? (i := 659) (by decide +kernel)⟩
theorem lw_p18 : lw_okq (⟨"BridgeAwake", "tellShare", "(JJ)I"⟩, 13) := ⟨⟨by decide +kernel, by decide +kernel⟩, List.mem_of_getElem? (i := 15) (by decide +kernel), List.mem_of_getElem? (i := 673) (by decide +kernel), List.mem_of_getElem? (i := 674) (by decide +kernel)⟩
theorem lw_p19 : lw_okq (⟨"BridgeAwake", "refuseTriples", "(II)I"⟩, 13) := ⟨⟨by decide +kernel, by decide +kernel⟩, List.mem_of_getElem? (i := 15) (by decide +kernel), List.mem_of_getElem? (i := 695) (by decide +kernel), List.mem_of_getElem? (i := 696) (by decide +kernel)⟩
theorem lw_p20 : lw_okq (⟨"BridgeAwake", "possibleKinds", "(ILBridgeAwake$Row;)I"⟩, 13) := ⟨⟨by decide +kernel, by decide +kernel⟩, List.mem_of_getElem? (i := 15) (by decide +kernel), List.mem_of_getElem? (i := 711) (by decide +kernel), List.mem_of_getElem? (i := 712) (by decide +kernel)⟩
theorem lw_p21 : lw_okq (⟨"BridgeAwake", "greatestPartAlike", "(III)I"⟩, 13) := ⟨⟨by decide +kernel, by decide +kernel⟩, List.mem_of_getElem? (i := 15) (by decide +kernel), List.mem_of_getElem? (i := 719) (by decide +kernel), List.mem_of_getElem? (i := 720) (by decide +kernel)⟩
theorem lw_p22 : lw_okq (⟨"BridgeAwake", "toldAs", "(III)I"⟩, 13) := ⟨⟨by decide +kernel, by decide +kernel⟩, List.mem_of_getElem? (i := 15) (by decide +kernel), List.mem_of_getElem? (i := 723) (by decide +kernel), List.mem_of_getElem? (i := 724) (by decide +kernel)⟩
theorem lw_p23 : lw_okq (⟨"BridgeAwake$Matching", "noteWay", "(LBridgeAwake$Folk;LBridgeAwake$Hold;)V"⟩, 3) := ⟨⟨by decide +kernel, by decide +kernel⟩, List.mem_of_getElem? (i := 198) (by decide +kernel), List.mem_of_getElem? (i := 739) (by decide +kernel), List.mem_of_getElem? (i := 740) (by decide +kernel)⟩
theorem lw_p24 : lw_okq (⟨"BridgeAwake", "doByLot", "(J)V"⟩, 13) := ⟨⟨by decide +kernel, by decide +kernel⟩, List.mem_of_getElem? (i := 15) (by decide +kernel), List.mem_of_getElem? (i := 781) (by decide +kernel), List.mem_of_getElem? (i := 782) (by decide +kernel)⟩
theorem lw_p25 : lw_okq (⟨"BridgeAwake", "howManyKept", "()I"⟩, 13) := ⟨⟨by decide +kernel, by decide +kernel⟩, List.mem_of_getElem? (i := 15) (by decide +kernel), List.mem_of_getElem? (i := 813) (by decide +kernel), List.mem_of_getElem? (i := 814) (by decide +kernel)⟩
theorem lw_p26 : lw_okq (⟨"BridgeAwakeModel", "refuse", "(I)I"⟩, 37) := ⟨⟨by decide +kernel, by decide +kernel⟩, List.mem_of_getElem? (i := 835) (by decide +kernel), List.mem_of_getElem? (i := 964) (by decide +kernel), List.mem_of_getElem? (i := 965) (by decide +kernel)⟩
theorem lw_p27 : lw_okq (⟨"BridgeAwakeModel", "refusedPlace", "(II)I"⟩, 37) := ⟨⟨by decide +kernel, by decide +kernel⟩, List.mem_of_getElem? (i := 835) (by decide +kernel), List.mem_of_getElem? (i := 972) (by decide +kernel), List.mem_of_getElem? (i := 973) (by decide +kernel)⟩
theorem lw_p28 : lw_okq (⟨"BridgeAwakeModel", "read", "(I)I"⟩, 37) := ⟨⟨by decide +kernel, by decide +kernel⟩, List.mem_of_getElem? (i := 835) (by decide +kernel), List.mem_of_getElem? (i := 1008) (by decide +kernel), List.mem_of_getElem? (i := 1009) (by decide +kernel)⟩
theorem lw_p29 : lw_okq (⟨"BridgeAwakeModel", "blanks", "()V"⟩, 37) := ⟨⟨by decide +kernel, by decide +kernel⟩, List.mem_of_getElem? (i := 835) (by decide +kernel), List.mem_of_getElem? (i := 1012) (by decide +kernel), List.mem_of_getElem? (i := 1013) (by decide +kernel)⟩
theorem lw_p30 : lw_okq (⟨"BridgeAwakeModel", "sign", "()I"⟩, 37) := ⟨⟨by decide +kernel, by decide +kernel⟩, List.mem_of_getElem? (i := 835) (by decide +kernel), List.mem_of_getElem? (i := 1016) (by decide +kernel), List.mem_of_getElem? (i := 1017) (by decide +kernel)⟩
theorem lw_p31 : lw_okq (⟨"BridgeAwakeModel", "readFirst", "()V"⟩, 37) := ⟨⟨by decide +kernel, by decide +kernel⟩, List.mem_of_getElem? (i := 835) (by decide +kernel), List.mem_of_getElem? (i := 1020) (by decide +kernel), List.mem_of_getElem? (i := 1021) (by decide +kernel)⟩
def lw_privs_2 : List (MethodName × Nat) := [(⟨"BridgeAwake$Search", "suits", "(II)Z"⟩, 12), (⟨"BridgeAwake$Search", "noteWay", "(I)V"⟩, 12), (⟨"BridgeAwake", "tellShare", "(JJ)I"⟩, 13), (⟨"BridgeAwake", "refuseTriples", "(II)I"⟩, 13), (⟨"BridgeAwake", "possibleKinds", "(ILBridgeAwake$Row;)I"⟩, 13), (⟨"BridgeAwake", "greatestPartAlike", "(III)I"⟩, 13), (⟨"BridgeAwake", "toldAs", "(III)I"⟩, 13), (⟨"BridgeAwake$Matching", "noteWay", "(LBridgeAwake$Folk;LBridgeAwake$Hold;)V"⟩, 3), (⟨"BridgeAwake", "doByLot", "(J)V"⟩, 13), (⟨"BridgeAwake", "howManyKept", "()I"⟩, 13), (⟨"BridgeAwakeModel", "refuse", "(I)I"⟩, 37), (⟨"BridgeAwakeModel", "refusedPlace", "(II)I"⟩, 37), (⟨"BridgeAwakeModel", "read", "(I)I"⟩, 37), (⟨"BridgeAwakeModel", "blanks", "()V"⟩, 37), (⟨"BridgeAwakeModel", "sign", "()I"⟩, 37), (⟨"BridgeAwakeModel", "readFirst", "()V"⟩, 37)]
theorem lw_r2 : ∀ q ∈ lw_privs_2, lw_okq q := List.forall_mem_cons.mpr ⟨lw_p16, List.forall_mem_cons.mpr ⟨lw_p17, List.forall_mem_cons.mpr ⟨lw_p18, List.forall_mem_cons.mpr ⟨lw_p19, List.forall_mem_cons.mpr ⟨lw_p20, List.forall_mem_cons.mpr ⟨lw_p21, List.forall_mem_cons.mpr ⟨lw_p22, List.forall_mem_cons.mpr ⟨lw_p23, List.forall_mem_cons.mpr ⟨lw_p24, List.forall_mem_cons.mpr ⟨lw_p25, List.forall_mem_cons.mpr ⟨lw_p26, List.forall_mem_cons.mpr ⟨lw_p27, List.forall_mem_cons.mpr ⟨lw_p28, List.forall_mem_cons.mpr ⟨lw_p29, List.forall_mem_cons.mpr ⟨lw_p30, List.forall_mem_cons.mpr ⟨lw_p31, fun _ h => absurd h List.not_mem_nil⟩⟩⟩⟩⟩⟩⟩⟩⟩⟩⟩⟩⟩⟩⟩⟩
theorem lw_p32 : lw_okq (⟨"BridgeAwakeModel", "want", "(ZI)Z"⟩, 37) := ⟨⟨by decide +kernel, by decide +kernel⟩, List.mem_of_getElem? (i := 835) (by decide +kernel), List.mem_of_getElem? (i := 1024) (by decide +kernel), List.mem_of_getElem? (i := 1025) (by decide +kernel)⟩
theorem lw_p33 : lw_okq (⟨"BridgeAwakeModel", "figure", "()I"⟩, 37) := ⟨⟨by decide +kernel, by decide +kernel⟩, List.mem_of_getElem? (i := 835) (by decide +kernel), List.mem_of_getElem? (i := 1028) (by decide +kernel), List.mem_of_getElem? (i := 1029) (by decide +kernel)⟩
theorem lw_p34 : lw_okq (⟨"BridgeAwakeModel", "readOne", "(I)V"⟩, 37) := ⟨⟨by decide +kernel, by decide +kernel⟩, List.mem_of_getElem? (i := 835) (by decide +kernel), List.mem_of_getElem? (i := 1037) (by decide +kernel), List.mem_of_getElem? (i := 1038) (by decide +kernel)⟩
theorem lw_p35 : lw_okq (⟨"BridgeAwakeModel", "readQuarrel", "()V"⟩, 37) := ⟨⟨by decide +kernel, by decide +kernel⟩, List.mem_of_getElem? (i := 835) (by decide +kernel), List.mem_of_getElem? (i := 1041) (by decide +kernel), List.mem_of_getElem? (i := 1042) (by decide +kernel)⟩
theorem lw_p36 : lw_okq (⟨"BridgeAwakeModel", "isOne", "(I)Z"⟩, 37) := ⟨⟨by decide +kernel, by decide +kernel⟩, List.mem_of_getElem? (i := 835) (by decide +kernel), List.mem_of_getElem? (i := 1053) (by decide +kernel), List.mem_of_getElem? (i := 1054) (by decide +kernel)⟩
theorem lw_p37 : lw_okq (⟨"BridgeAwakeModel", "told", "(II)I"⟩, 37) := ⟨⟨by decide +kernel, by decide +kernel⟩, List.mem_of_getElem? (i := 835) (by decide +kernel), List.mem_of_getElem? (i := 1057) (by decide +kernel), List.mem_of_getElem? (i := 1058) (by decide +kernel)⟩
theorem lw_p38 : lw_okq (⟨"BridgeAwakeModel", "tellsIn", "(II)I"⟩, 37) := ⟨⟨by decide +kernel, by decide +kernel⟩, List.mem_of_getElem? (i := 835) (by decide +kernel), List.mem_of_getElem? (i := 1061) (by decide +kernel), List.mem_of_getElem? (i := 1062) (by decide +kernel)⟩
theorem lw_p39 : lw_okq (⟨"BridgeAwakeModel", "hourIn", "(I)I"⟩, 37) := ⟨⟨by decide +kernel, by decide +kernel⟩, List.mem_of_getElem? (i := 835) (by decide +kernel), List.mem_of_getElem? (i := 1065) (by decide +kernel), List.mem_of_getElem? (i := 1066) (by decide +kernel)⟩
theorem lw_p40 : lw_okq (⟨"BridgeAwakeModel", "halves", "(I)I"⟩, 37) := ⟨⟨by decide +kernel, by decide +kernel⟩, List.mem_of_getElem? (i := 835) (by decide +kernel), List.mem_of_getElem? (i := 1085) (by decide +kernel), List.mem_of_getElem? (i := 1086) (by decide +kernel)⟩
theorem lw_p41 : lw_okq (⟨"BridgeAwakeModel", "bothIn", "(III)I"⟩, 37) := ⟨⟨by decide +kernel, by decide +kernel⟩, List.mem_of_getElem? (i := 835) (by decide +kernel), List.mem_of_getElem? (i := 1089) (by decide +kernel), List.mem_of_getElem? (i := 1090) (by decide +kernel)⟩
theorem lw_p42 : lw_okq (⟨"BridgeAwakeModel", "isPair", "(II)Z"⟩, 37) := ⟨⟨by decide +kernel, by decide +kernel⟩, List.mem_of_getElem? (i := 835) (by decide +kernel), List.mem_of_getElem? (i := 1100) (by decide +kernel), List.mem_of_getElem? (i := 1101) (by decide +kernel)⟩
theorem lw_p43 : lw_okq (⟨"BridgeAwakeModel", "talkIn", "(III)I"⟩, 37) := ⟨⟨by decide +kernel, by decide +kernel⟩, List.mem_of_getElem? (i := 835) (by decide +kernel), List.mem_of_getElem? (i := 1104) (by decide +kernel), List.mem_of_getElem? (i := 1105) (by decide +kernel)⟩
theorem lw_p44 : lw_okq (⟨"BridgeAwakeModel", "remember", "()V"⟩, 37) := ⟨⟨by decide +kernel, by decide +kernel⟩, List.mem_of_getElem? (i := 835) (by decide +kernel), List.mem_of_getElem? (i := 1112) (by decide +kernel), List.mem_of_getElem? (i := 1113) (by decide +kernel)⟩
theorem lw_p45 : lw_okq (⟨"BridgeAwakeModel", "take", "(III)V"⟩, 37) := ⟨⟨by decide +kernel, by decide +kernel⟩, List.mem_of_getElem? (i := 835) (by decide +kernel), List.mem_of_getElem? (i := 1116) (by decide +kernel), List.mem_of_getElem? (i := 1117) (by decide +kernel)⟩
theorem lw_p46 : lw_okq (⟨"BridgeAwakeModel", "watchIn", "(III)V"⟩, 37) := ⟨⟨by decide +kernel, by decide +kernel⟩, List.mem_of_getElem? (i := 835) (by decide +kernel), List.mem_of_getElem? (i := 1120) (by decide +kernel), List.mem_of_getElem? (i := 1121) (by decide +kernel)⟩
theorem lw_p47 : lw_okq (⟨"BridgeAwakeModel", "send", "(I)I"⟩, 37) := ⟨⟨by decide +kernel, by decide +kernel⟩, List.mem_of_getElem? (i := 835) (by decide +kernel), List.mem_of_getElem? (i := 1132) (by decide +kernel), List.mem_of_getElem? (i := 1133) (by decide +kernel)⟩
def lw_privs_3 : List (MethodName × Nat) := [(⟨"BridgeAwakeModel", "want", "(ZI)Z"⟩, 37), (⟨"BridgeAwakeModel", "figure", "()I"⟩, 37), (⟨"BridgeAwakeModel", "readOne", "(I)V"⟩, 37), (⟨"BridgeAwakeModel", "readQuarrel", "()V"⟩, 37), (⟨"BridgeAwakeModel", "isOne", "(I)Z"⟩, 37), (⟨"BridgeAwakeModel", "told", "(II)I"⟩, 37), (⟨"BridgeAwakeModel", "tellsIn", "(II)I"⟩, 37), (⟨"BridgeAwakeModel", "hourIn", "(I)I"⟩, 37), (⟨"BridgeAwakeModel", "halves", "(I)I"⟩, 37), (⟨"BridgeAwakeModel", "bothIn", "(III)I"⟩, 37), (⟨"BridgeAwakeModel", "isPair", "(II)Z"⟩, 37), (⟨"BridgeAwakeModel", "talkIn", "(III)I"⟩, 37), (⟨"BridgeAwakeModel", "remember", "()V"⟩, 37), (⟨"BridgeAwakeModel", "take", "(III)V"⟩, 37), (⟨"BridgeAwakeModel", "watchIn", "(III)V"⟩, 37), (⟨"BridgeAwakeModel", "send", "(I)I"⟩, 37)]
theorem lw_r3 : ∀ q ∈ lw_privs_3, lw_okq q := List.forall_mem_cons.mpr ⟨lw_p32, List.forall_mem_cons.mpr ⟨lw_p33, List.forall_mem_cons.mpr ⟨lw_p34, List.forall_mem_cons.mpr ⟨lw_p35, List.forall_mem_cons.mpr ⟨lw_p36, List.forall_mem_cons.mpr ⟨lw_p37, List.forall_mem_cons.mpr ⟨lw_p38, List.forall_mem_cons.mpr ⟨lw_p39, List.forall_mem_cons.mpr ⟨lw_p40, List.forall_mem_cons.mpr ⟨lw_p41, List.forall_mem_cons.mpr ⟨lw_p42, List.forall_mem_cons.mpr ⟨lw_p43, List.forall_mem_cons.mpr ⟨lw_p44, List.forall_mem_cons.mpr ⟨lw_p45, List.forall_mem_cons.mpr ⟨lw_p46, List.forall_mem_cons.mpr ⟨lw_p47, fun _ h => absurd h List.not_mem_nil⟩⟩⟩⟩⟩⟩⟩⟩⟩⟩⟩⟩⟩⟩⟩⟩
theorem lw_p48 : lw_okq (⟨"BridgeAwakeModel", "layPairs", "()V"⟩, 37) := ⟨⟨by decide +kernel, by decide +kernel⟩, List.mem_of_getElem? (i := 835) (by decide +kernel), List.mem_of_getElem? (i := 1157) (by decide +kernel), List.mem_of_getElem? (i := 1158) (by decide +kernel)⟩
theorem lw_p49 : lw_okq (⟨"BridgeAwakeModel", "ways", "(I)I"⟩, 37) := ⟨⟨by decide +kernel, by decide +kernel⟩, List.mem_of_getElem? (i := 835) (by decide +kernel), List.mem_of_getElem? (i := 1161) (by decide +kernel), List.mem_of_getElem? (i := 1162) (by decide +kernel)⟩
theorem lw_p50 : lw_okq (⟨"BridgeAwakeModel", "behind", "(II)I"⟩, 37) := ⟨⟨by decide +kernel, by decide +kernel⟩, List.mem_of_getElem? (i := 835) (by decide +kernel), List.mem_of_getElem? (i := 1165) (by decide +kernel), List.mem_of_getElem? (i := 1166) (by decide +kernel)⟩
theorem lw_p51 : lw_okq (⟨"BridgeAwakeModel", "pairOf", "(III)I"⟩, 37) := ⟨⟨by decide +kernel, by decide +kernel⟩, List.mem_of_getElem? (i := 835) (by decide +kernel), List.mem_of_getElem? (i := 1169) (by decide +kernel), List.mem_of_getElem? (i := 1170) (by decide +kernel)⟩
theorem lw_p52 : lw_okq (⟨"BridgeAwakeModel", "watchBy", "(I)V"⟩, 37) := ⟨⟨by decide +kernel, by decide +kernel⟩, List.mem_of_getElem? (i := 835) (by decide +kernel), List.mem_of_getElem? (i := 1173) (by decide +kernel), List.mem_of_getElem? (i := 1174) (by decide +kernel)⟩
theorem lw_p53 : lw_okq (⟨"BridgeAwakeModel", "newRow", "(II)V"⟩, 37) := ⟨⟨by decide +kernel, by decide +kernel⟩, List.mem_of_getElem? (i := 835) (by decide +kernel), List.mem_of_getElem? (i := 1177) (by decide +kernel), List.mem_of_getElem? (i := 1178) (by decide +kernel)⟩
theorem lw_p54 : lw_okq (⟨"BridgeAwakeModel", "refusedWatches", "(I)I"⟩, 37) := ⟨⟨by decide +kernel, by decide +kernel⟩, List.mem_of_getElem? (i := 835) (by decide +kernel), List.mem_of_getElem? (i := 1185) (by decide +kernel), List.mem_of_getElem? (i := 1186) (by decide +kernel)⟩
theorem lw_p55 : lw_okq (⟨"BridgeAwakeModel", "isNumber", "(I)Z"⟩, 37) := ⟨⟨by decide +kernel, by decide +kernel⟩, List.mem_of_getElem? (i := 835) (by decide +kernel), List.mem_of_getElem? (i := 1189) (by decide +kernel), List.mem_of_getElem? (i := 1190) (by decide +kernel)⟩
theorem lw_p56 : lw_okq (⟨"BridgeAwakeModel", "refusedStrengths", "(I)I"⟩, 37) := ⟨⟨by decide +kernel, by decide +kernel⟩, List.mem_of_getElem? (i := 835) (by decide +kernel), List.mem_of_getElem? (i := 1201) (by decide +kernel), List.mem_of_getElem? (i := 1202) (by decide +kernel)⟩
theorem lw_p57 : lw_okq (⟨"BridgeAwakeModel", "peopleOf", "(II)I"⟩, 37) := ⟨⟨by decide +kernel, by decide +kernel⟩, List.mem_of_getElem? (i := 835) (by decide +kernel), List.mem_of_getElem? (i := 1205) (by decide +kernel), List.mem_of_getElem? (i := 1206) (by decide +kernel)⟩
theorem lw_p58 : lw_okq (⟨"BridgeAwakeModel", "isSo", "(IIZ)Z"⟩, 37) := ⟨⟨by decide +kernel, by decide +kernel⟩, List.mem_of_getElem? (i := 835) (by decide +kernel), List.mem_of_getElem? (i := 1212) (by decide +kernel), List.mem_of_getElem? (i := 1213) (by decide +kernel)⟩
theorem lw_p59 : lw_okq (⟨"BridgeAwakeModel", "laySo", "(I)V"⟩, 37) := ⟨⟨by decide +kernel, by decide +kernel⟩, List.mem_of_getElem? (i := 835) (by decide +kernel), List.mem_of_getElem? (i := 1220) (by decide +kernel), List.mem_of_getElem? (i := 1221) (by decide +kernel)⟩
theorem lw_p60 : lw_okq (⟨"BridgeAwakeModel", "refusedTriples", "(I)I"⟩, 37) := ⟨⟨by decide +kernel, by decide +kernel⟩, List.mem_of_getElem? (i := 835) (by decide +kernel), List.mem_of_getElem? (i := 1232) (by decide +kernel), List.mem_of_getElem? (i := 1233) (by decide +kernel)⟩
theorem lw_p61 : lw_okq (⟨"BridgeAwakeModel", "fits", "(IIII)Z"⟩, 37) := ⟨⟨by decide +kernel, by decide +kernel⟩, List.mem_of_getElem? (i := 835) (by decide +kernel), List.mem_of_getElem? (i := 1239) (by decide +kernel), List.mem_of_getElem? (i := 1240) (by decide +kernel)⟩
theorem lw_p62 : lw_okq (⟨"BridgeAwakeModel", "kindsBy", "(II)I"⟩, 37) := ⟨⟨by decide +kernel, by decide +kernel⟩, List.mem_of_getElem? (i := 835) (by decide +kernel), List.mem_of_getElem? (i := 1247) (by decide +kernel), List.mem_of_getElem? (i := 1248) (by decide +kernel)⟩
theorem lw_p63 : lw_okq (⟨"BridgeAwakeModel", "greatestPart", "(III)I"⟩, 37) := ⟨⟨by decide +kernel, by decide +kernel⟩, List.mem_of_getElem? (i := 835) (by decide +kernel), List.mem_of_getElem? (i := 1255) (by decide +kernel), List.mem_of_getElem? (i := 1256) (by decide +kernel)⟩
def lw_privs_4 : List (MethodName × Nat) := [(⟨"BridgeAwakeModel", "layPairs", "()V"⟩, 37), (⟨"BridgeAwakeModel", "ways", "(I)I"⟩, 37), (⟨"BridgeAwakeModel", "behind", "(II)I"⟩, 37), (⟨"BridgeAwakeModel", "pairOf", "(III)I"⟩, 37), (⟨"BridgeAwakeModel", "watchBy", "(I)V"⟩, 37), (⟨"BridgeAwakeModel", "newRow", "(II)V"⟩, 37), (⟨"BridgeAwakeModel", "refusedWatches", "(I)I"⟩, 37), (⟨"BridgeAwakeModel", "isNumber", "(I)Z"⟩, 37), (⟨"BridgeAwakeModel", "refusedStrengths", "(I)I"⟩, 37), (⟨"BridgeAwakeModel", "peopleOf", "(II)I"⟩, 37), (⟨"BridgeAwakeModel", "isSo", "(IIZ)Z"⟩, 37), (⟨"BridgeAwakeModel", "laySo", "(I)V"⟩, 37), (⟨"BridgeAwakeModel", "refusedTriples", "(I)I"⟩, 37), (⟨"BridgeAwakeModel", "fits", "(IIII)Z"⟩, 37), (⟨"BridgeAwakeModel", "kindsBy", "(II)I"⟩, 37), (⟨"BridgeAwakeModel", "greatestPart", "(III)I"⟩, 37)]
theorem lw_r4 : ∀ q ∈ lw_privs_4, lw_okq q := List.forall_mem_cons.mpr ⟨lw_p48, List.forall_mem_cons.mpr ⟨lw_p49, List.forall_mem_cons.mpr ⟨lw_p50, List.forall_mem_cons.mpr ⟨lw_p51, List.forall_mem_cons.mpr ⟨lw_p52, List.forall_mem_cons.mpr ⟨lw_p53, List.forall_mem_cons.mpr ⟨lw_p54, List.forall_mem_cons.mpr ⟨lw_p55, List.forall_mem_cons.mpr ⟨lw_p56, List.forall_mem_cons.mpr ⟨lw_p57, List.forall_mem_cons.mpr ⟨lw_p58, List.forall_mem_cons.mpr ⟨lw_p59, List.forall_mem_cons.mpr ⟨lw_p60, List.forall_mem_cons.mpr ⟨lw_p61, List.forall_mem_cons.mpr ⟨lw_p62, List.forall_mem_cons.mpr ⟨lw_p63, fun _ h => absurd h List.not_mem_nil⟩⟩⟩⟩⟩⟩⟩⟩⟩⟩⟩⟩⟩⟩⟩⟩
theorem lw_p64 : lw_okq (⟨"BridgeAwakeModel", "layWay", "(I)I"⟩, 37) := ⟨⟨by decide +kernel, by decide +kernel⟩, List.mem_of_getElem? (i := 835) (by decide +kernel), List.mem_of_getElem? (i := 1263) (by decide +kernel), List.mem_of_getElem? (i := 1264) (by decide +kernel)⟩
theorem lw_p65 : lw_okq (⟨"BridgeAwakeModel", "isAhead", "()Z"⟩, 37) := ⟨⟨by decide +kernel, by decide +kernel⟩, List.mem_of_getElem? (i := 835) (by decide +kernel), List.mem_of_getElem? (i := 1267) (by decide +kernel), List.mem_of_getElem? (i := 1268) (by decide +kernel)⟩
theorem lw_p66 : lw_okq (⟨"BridgeAwakeModel", "strength", "(III)I"⟩, 37) := ⟨⟨by decide +kernel, by decide +kernel⟩, List.mem_of_getElem? (i := 835) (by decide +kernel), List.mem_of_getElem? (i := 1280) (by decide +kernel), List.mem_of_getElem? (i := 1281) (by decide +kernel)⟩
theorem lw_p67 : lw_okq (⟨"BridgeAwakeModel", "tell", "(JJ)V"⟩, 37) := ⟨⟨by decide +kernel, by decide +kernel⟩, List.mem_of_getElem? (i := 835) (by decide +kernel), List.mem_of_getElem? (i := 1288) (by decide +kernel), List.mem_of_getElem? (i := 1289) (by decide +kernel)⟩
theorem lw_p68 : lw_okq (⟨"BridgeAwakeModel", "lovers", "()I"⟩, 37) := ⟨⟨by decide +kernel, by decide +kernel⟩, List.mem_of_getElem? (i := 835) (by decide +kernel), List.mem_of_getElem? (i := 1326) (by decide +kernel), List.mem_of_getElem? (i := 1327) (by decide +kernel)⟩
def lw_privs_5 : List (MethodName × Nat) := [(⟨"BridgeAwakeModel", "layWay", "(I)I"⟩, 37), (⟨"BridgeAwakeModel", "isAhead", "()Z"⟩, 37), (⟨"BridgeAwakeModel", "strength", "(III)I"⟩, 37), (⟨"BridgeAwakeModel", "tell", "(JJ)V"⟩, 37), (⟨"BridgeAwakeModel", "lovers", "()I"⟩, 37)]
theorem lw_r5 : ∀ q ∈ lw_privs_5, lw_okq q := List.forall_mem_cons.mpr ⟨lw_p64, List.forall_mem_cons.mpr ⟨lw_p65, List.forall_mem_cons.mpr ⟨lw_p66, List.forall_mem_cons.mpr ⟨lw_p67, List.forall_mem_cons.mpr ⟨lw_p68, fun _ h => absurd h List.not_mem_nil⟩⟩⟩⟩⟩
def lw_privs : List (MethodName × Nat) := lw_privs_1 ++ (lw_privs_2 ++ (lw_privs_3 ++ (lw_privs_4 ++ (lw_privs_5))))
def lw_tbl : List Cond := k2_sels lw_privs ++ tables_1
theorem lw_privs_ok : ∀ q ∈ lw_privs, lw_okq q := by
  show ∀ q ∈ lw_privs_1 ++ (lw_privs_2 ++ (lw_privs_3 ++ (lw_privs_4 ++ (lw_privs_5)))), lw_okq q
  exact List.forall_mem_append.mpr ⟨lw_r1, List.forall_mem_append.mpr ⟨lw_r2, List.forall_mem_append.mpr ⟨lw_r3, List.forall_mem_append.mpr ⟨lw_r4, lw_r5⟩⟩⟩⟩
-- ===== end of PART A; then your names; then what follows =====
/-! ===== BEGIN printed: names, fields, word lists, decode rows ===== -/
def RX0 : String := "BridgeAwake$Folk"
def TX0 : u_T := fun k => match k with
  | 0 => ("BridgeAwake$Folk", "kinds", "[I", true)
  | 1 => ("BridgeAwake$Folk", "lively", "[I", true)
  | 2 => ("BridgeAwake$Folk", "lasting", "[I", true)
  | 3 => ("BridgeAwake$Folk", "quarrels", "[I", true)
  | 4 => ("BridgeAwake$Folk", "size", "I", false)
  | 5 => ("BridgeAwake$Folk", "strength", "I", false)
  | _ => ("BridgeAwake$Folk", "coffee", "I", false)
def tyX0 : Nat → FieldType := fun k => match k with
  | 0 => .array .int
  | 1 => .array .int
  | 2 => .array .int
  | 3 => .array .int
  | 4 => .int
  | 5 => .int
  | _ => .int
abbrev wsX00 : List Cond := u_ws RX0 TX0 7
theorem nmX0 : ∀ a, a < 7 → ∀ b, b < 7 → a ≠ b → (TX0 a).2.1 ≠ (TX0 b).2.1 := by decide +kernel
theorem tyX0_ok : ∀ k, k < 7 → parseFieldDescriptor (TX0 k).2.2.1 = some (tyX0 k) := by decide +kernel
abbrev cX0_init : ByteArray := prog_2_method_1_code
def yX0_init : MethodName := ⟨RX0, "<init>", "()V"⟩
abbrev cX0_clear : ByteArray := prog_2_method_2_code
def yX0_clear : MethodName := ⟨RX0, "clear", "()V"⟩
abbrev cX0_become : ByteArray := prog_2_method_3_code
def yX0_become : MethodName := ⟨RX0, "become", "(LBridgeAwake$Folk;)V"⟩
abbrev cX0_add : ByteArray := prog_2_method_4_code
def yX0_add : MethodName := ⟨RX0, "add", "(III)V"⟩
abbrev cX0_letQuarrel : ByteArray := prog_2_method_5_code
def yX0_letQuarrel : MethodName := ⟨RX0, "letQuarrel", "(II)V"⟩
abbrev cX0_isNobody : ByteArray := prog_2_method_6_code
def yX0_isNobody : MethodName := ⟨RX0, "isNobody", "()Z"⟩
abbrev cX0_has : ByteArray := prog_2_method_7_code
def yX0_has : MethodName := ⟨RX0, "has", "(I)Z"⟩
abbrev cX0_isPair : ByteArray := prog_2_method_8_code
def yX0_isPair : MethodName := ⟨RX0, "isPair", "(II)Z"⟩
abbrev cX0_isWatch : ByteArray := prog_2_method_9_code
def yX0_isWatch : MethodName := ⟨RX0, "isWatch", "(I)Z"⟩
abbrev cX0_everybody : ByteArray := prog_2_method_10_code
def yX0_everybody : MethodName := ⟨RX0, "everybody", "()I"⟩
abbrev cX0_lovers : ByteArray := prog_2_method_11_code
def yX0_lovers : MethodName := ⟨RX0, "lovers", "()I"⟩
abbrev cX0_tellsAs : ByteArray := prog_2_method_12_code
def yX0_tellsAs : MethodName := ⟨RX0, "tellsAs", "(IIII)I"⟩
abbrev cX0_isOfKind : ByteArray := prog_2_method_13_code
def yX0_isOfKind : MethodName := ⟨RX0, "isOfKind", "(II)Z"⟩
abbrev cX0_tells : ByteArray := prog_2_method_14_code
def yX0_tells : MethodName := ⟨RX0, "tells", "(IIIII)I"⟩
def RX1 : String := "BridgeAwake$Hold"
def TX1 : u_T := fun k => match k with
  | 0 => ("BridgeAwake$Hold", "ups", "[I", true)
  | 1 => ("BridgeAwake$Hold", "told", "[I", true)
  | 2 => ("BridgeAwake$Hold", "strength", "I", false)
  | _ => ("BridgeAwake$Hold", "hours", "I", false)
def tyX1 : Nat → FieldType := fun k => match k with
  | 0 => .array .int
  | 1 => .array .int
  | 2 => .int
  | _ => .int
abbrev wsX10 : List Cond := u_ws RX1 TX1 4
theorem nmX1 : ∀ a, a < 4 → ∀ b, b < 4 → a ≠ b → (TX1 a).2.1 ≠ (TX1 b).2.1 := by decide +kernel
theorem tyX1_ok : ∀ k, k < 4 → parseFieldDescriptor (TX1 k).2.2.1 = some (tyX1 k) := by decide +kernel
abbrev cX1_init : ByteArray := prog_3_method_1_code
def yX1_init : MethodName := ⟨RX1, "<init>", "()V"⟩
abbrev cX1_begin : ByteArray := prog_3_method_2_code
def yX1_begin : MethodName := ⟨RX1, "begin", "(LBridgeAwake$Folk;)V"⟩
abbrev cX1_become : ByteArray := prog_3_method_3_code
def yX1_become : MethodName := ⟨RX1, "become", "(LBridgeAwake$Hold;)V"⟩
abbrev cX1_hour : ByteArray := prog_3_method_4_code
def yX1_hour : MethodName := ⟨RX1, "hour", "()I"⟩
abbrev cX1_pairTells : ByteArray := prog_3_method_5_code
def yX1_pairTells : MethodName := ⟨RX1, "pairTells", "(LBridgeAwake$Folk;II)I"⟩
abbrev cX1_pairMeans : ByteArray := prog_3_method_6_code
def yX1_pairMeans : MethodName := ⟨RX1, "pairMeans", "(LBridgeAwake$Folk;II)I"⟩
abbrev cX1_behind : ByteArray := prog_3_method_7_code
def yX1_behind : MethodName := ⟨RX1, "behind", "(LBridgeAwake$Folk;II)I"⟩
abbrev cX1_behindHalfAsleep : ByteArray := prog_3_method_8_code
def yX1_behindHalfAsleep : MethodName := ⟨RX1, "behindHalfAsleep", "(LBridgeAwake$Folk;III)I"⟩
abbrev cX1_strengthWith : ByteArray := prog_3_method_9_code
def yX1_strengthWith : MethodName := ⟨RX1, "strengthWith", "(I)I"⟩
abbrev cX1_passWatch : ByteArray := prog_3_method_10_code
def yX1_passWatch : MethodName := ⟨RX1, "passWatch", "(LBridgeAwake$Folk;II)V"⟩
abbrev cX1_drink : ByteArray := prog_3_method_11_code
def yX1_drink : MethodName := ⟨RX1, "drink", "(LBridgeAwake$Folk;I)V"⟩
abbrev cX1_listen : ByteArray := prog_3_method_12_code
def yX1_listen : MethodName := ⟨RX1, "listen", "(LBridgeAwake$Folk;)V"⟩
def RX2 : String := "BridgeAwake$Matching"
def TX2 : u_T := fun k => match k with
  | 0 => ("BridgeAwake$Matching", "partners", "[I", true)
  | 1 => ("BridgeAwake$Matching", "bestPartners", "[I", true)
  | _ => ("BridgeAwake$Matching", "most", "I", false)
def tyX2 : Nat → FieldType := fun k => match k with
  | 0 => .array .int
  | 1 => .array .int
  | _ => .int
abbrev wsX20 : List Cond := u_ws RX2 TX2 3
theorem nmX2 : ∀ a, a < 3 → ∀ b, b < 3 → a ≠ b → (TX2 a).2.1 ≠ (TX2 b).2.1 := by decide +kernel
theorem tyX2_ok : ∀ k, k < 3 → parseFieldDescriptor (TX2 k).2.2.1 = some (tyX2 k) := by decide +kernel
abbrev cX2_init : ByteArray := prog_4_method_1_code
def yX2_init : MethodName := ⟨RX2, "<init>", "()V"⟩
abbrev cX2_pairAll : ByteArray := prog_4_method_2_code
def yX2_pairAll : MethodName := ⟨RX2, "pairAll", "(LBridgeAwake$Folk;LBridgeAwake$Hold;)I"⟩
abbrev cX2_pairFrom : ByteArray := prog_4_method_3_code
def yX2_pairFrom : MethodName := ⟨RX2, "pairFrom", "(LBridgeAwake$Matching;LBridgeAwake$Folk;LBridgeAwake$Hold;IZ)V"⟩
abbrev cX2_noteWay : ByteArray := prog_4_method_4_code
def yX2_noteWay : MethodName := ⟨RX2, "noteWay", "(LBridgeAwake$Folk;LBridgeAwake$Hold;)V"⟩
def RX3 : String := "BridgeAwake$Night"
def TX3 : u_T := fun k => match k with
  | 0 => ("BridgeAwake$Night", "hold", "LBridgeAwake$Hold;", true)
  | 1 => ("BridgeAwake$Night", "deeds", "[I", true)
  | 2 => ("BridgeAwake$Night", "done", "I", false)
  | 3 => ("BridgeAwake$Night", "coffee", "I", false)
  | 4 => ("BridgeAwake$Night", "crossed", "I", false)
  | 5 => ("BridgeAwake$Night", "fell", "I", false)
  | _ => ("BridgeAwake$Night", "there", "Z", false)
def tyX3 : Nat → FieldType := fun k => match k with
  | 0 => .object "BridgeAwake$Hold"
  | 1 => .array .int
  | 2 => .int
  | 3 => .int
  | 4 => .int
  | 5 => .int
  | _ => .boolean
abbrev wsX30 : List Cond := u_ws RX3 TX3 7
theorem nmX3 : ∀ a, a < 7 → ∀ b, b < 7 → a ≠ b → (TX3 a).2.1 ≠ (TX3 b).2.1 := by decide +kernel
theorem tyX3_ok : ∀ k, k < 7 → parseFieldDescriptor (TX3 k).2.2.1 = some (tyX3 k) := by decide +kernel
abbrev cX3_init : ByteArray := prog_5_method_1_code
def yX3_init : MethodName := ⟨RX3, "<init>", "()V"⟩
abbrev cX3_begin : ByteArray := prog_5_method_2_code
def yX3_begin : MethodName := ⟨RX3, "begin", "(LBridgeAwake$Folk;)V"⟩
abbrev cX3_become : ByteArray := prog_5_method_3_code
def yX3_become : MethodName := ⟨RX3, "become", "(LBridgeAwake$Night;)V"⟩
abbrev cX3_hasRoom : ByteArray := prog_5_method_4_code
def yX3_hasRoom : MethodName := ⟨RX3, "hasRoom", "(I)Z"⟩
abbrev cX3_doWatch : ByteArray := prog_5_method_5_code
def yX3_doWatch : MethodName := ⟨RX3, "doWatch", "(LBridgeAwake$Folk;II)I"⟩
abbrev cX3_doLoad : ByteArray := prog_5_method_6_code
def yX3_doLoad : MethodName := ⟨RX3, "doLoad", "(I)I"⟩
abbrev cX3_doCoffee : ByteArray := prog_5_method_7_code
def yX3_doCoffee : MethodName := ⟨RX3, "doCoffee", "(LBridgeAwake$Folk;I)I"⟩
abbrev cX3_goBackTo : ByteArray := prog_5_method_8_code
def yX3_goBackTo : MethodName := ⟨RX3, "goBackTo", "(LBridgeAwake$Folk;I)V"⟩
abbrev cX3_note : ByteArray := prog_5_method_9_code
def yX3_note : MethodName := ⟨RX3, "note", "(I)V"⟩
def RX4 : String := "BridgeAwake$Reader"
def TX4 : u_T := fun k => match k with
  | 0 => ("BridgeAwake$Reader", "folk", "LBridgeAwake$Folk;", true)
  | _ => ("BridgeAwake$Reader", "place", "I", false)
def tyX4 : Nat → FieldType := fun k => match k with
  | 0 => .object "BridgeAwake$Folk"
  | _ => .int
abbrev wsX40 : List Cond := u_ws RX4 TX4 2
theorem nmX4 : ∀ a, a < 2 → ∀ b, b < 2 → a ≠ b → (TX4 a).2.1 ≠ (TX4 b).2.1 := by decide +kernel
theorem tyX4_ok : ∀ k, k < 2 → parseFieldDescriptor (TX4 k).2.2.1 = some (tyX4 k) := by decide +kernel
abbrev cX4_init : ByteArray := prog_6_method_1_code
def yX4_init : MethodName := ⟨RX4, "<init>", "()V"⟩
abbrev cX4_read : ByteArray := prog_6_method_2_code
def yX4_read : MethodName := ⟨RX4, "read", "(LBridgeAwake$Row;)I"⟩
abbrev cX4_skipBlanks : ByteArray := prog_6_method_3_code
def yX4_skipBlanks : MethodName := ⟨RX4, "skipBlanks", "(LBridgeAwake$Row;)V"⟩
abbrev cX4_readHead : ByteArray := prog_6_method_4_code
def yX4_readHead : MethodName := ⟨RX4, "readHead", "(LBridgeAwake$Row;)I"⟩
abbrev cX4_readOne : ByteArray := prog_6_method_5_code
def yX4_readOne : MethodName := ⟨RX4, "readOne", "(LBridgeAwake$Row;)I"⟩
abbrev cX4_readQuarrel : ByteArray := prog_6_method_6_code
def yX4_readQuarrel : MethodName := ⟨RX4, "readQuarrel", "(LBridgeAwake$Row;)I"⟩
abbrev cX4_figure : ByteArray := prog_6_method_7_code
def yX4_figure : MethodName := ⟨RX4, "figure", "(LBridgeAwake$Row;I)I"⟩
abbrev cX4_kindOf : ByteArray := prog_6_method_8_code
def yX4_kindOf : MethodName := ⟨RX4, "kindOf", "(I)I"⟩
def RX5 : String := "BridgeAwake$Row"
def TX5 : u_T := fun k => match k with
  | 0 => ("BridgeAwake$Row", "places", "[I", true)
  | 1 => ("BridgeAwake$Row", "blank", "I", true)
  | 2 => ("BridgeAwake$Row", "size", "I", false)
  | _ => ("BridgeAwake$Row", "there", "Z", false)
def tyX5 : Nat → FieldType := fun k => match k with
  | 0 => .array .int
  | 1 => .int
  | 2 => .int
  | _ => .boolean
abbrev wsX50 : List Cond := u_ws RX5 TX5 4
theorem nmX5 : ∀ a, a < 4 → ∀ b, b < 4 → a ≠ b → (TX5 a).2.1 ≠ (TX5 b).2.1 := by decide +kernel
theorem tyX5_ok : ∀ k, k < 4 → parseFieldDescriptor (TX5 k).2.2.1 = some (tyX5 k) := by decide +kernel
abbrev cX5_init : ByteArray := prog_7_method_1_code
def yX5_init : MethodName := ⟨RX5, "<init>", "(II)V"⟩
abbrev cX5_begin : ByteArray := prog_7_method_2_code
def yX5_begin : MethodName := ⟨RX5, "begin", "(I)V"⟩
abbrev cX5_holds : ByteArray := prog_7_method_3_code
def yX5_holds : MethodName := ⟨RX5, "holds", "(I)Z"⟩
abbrev cX5_holdsSpan : ByteArray := prog_7_method_4_code
def yX5_holdsSpan : MethodName := ⟨RX5, "holdsSpan", "(II)Z"⟩
abbrev cX5_isWithin : ByteArray := prog_7_method_5_code
def yX5_isWithin : MethodName := ⟨RX5, "isWithin", "(II)Z"⟩
abbrev cX5_get : ByteArray := prog_7_method_6_code
def yX5_get : MethodName := ⟨RX5, "get", "(I)I"⟩
abbrev cX5_swap : ByteArray := prog_7_method_7_code
def yX5_swap : MethodName := ⟨RX5, "swap", "(II)I"⟩
abbrev cX5_sum : ByteArray := prog_7_method_8_code
def yX5_sum : MethodName := ⟨RX5, "sum", "()J"⟩
def RX6 : String := "BridgeAwake$Search"
def TX6 : u_T := fun k => match k with
  | 0 => ("BridgeAwake$Search", "holds", "[LBridgeAwake$Hold;", true)
  | 1 => ("BridgeAwake$Search", "way", "[I", true)
  | 2 => ("BridgeAwake$Search", "bestWay", "[I", true)
  | 3 => ("BridgeAwake$Search", "wanted", "[I", true)
  | 4 => ("BridgeAwake$Search", "length", "I", false)
  | 5 => ("BridgeAwake$Search", "exactly", "Z", false)
  | 6 => ("BridgeAwake$Search", "greatest", "I", false)
  | 7 => ("BridgeAwake$Search", "ways", "I", false)
  | 8 => ("BridgeAwake$Search", "firstWatch", "I", false)
  | 9 => ("BridgeAwake$Search", "always", "I", false)
  | 10 => ("BridgeAwake$Search", "ever", "I", false)
  | _ => ("BridgeAwake$Search", "fewest", "I", false)
def tyX6 : Nat → FieldType := fun k => match k with
  | 0 => .array (.object "BridgeAwake$Hold")
  | 1 => .array .int
  | 2 => .array .int
  | 3 => .array .int
  | 4 => .int
  | 5 => .boolean
  | 6 => .int
  | 7 => .int
  | 8 => .int
  | 9 => .int
  | 10 => .int
  | _ => .int
abbrev wsX60 : List Cond := u_ws RX6 TX6 12
theorem nmX6 : ∀ a, a < 12 → ∀ b, b < 12 → a ≠ b → (TX6 a).2.1 ≠ (TX6 b).2.1 := by decide +kernel
theorem tyX6_ok : ∀ k, k < 12 → parseFieldDescriptor (TX6 k).2.2.1 = some (tyX6 k) := by decide +kernel
abbrev cX6_init : ByteArray := prog_8_method_1_code
def yX6_init : MethodName := ⟨RX6, "<init>", "()V"⟩
abbrev cX6_beginAside : ByteArray := prog_8_method_2_code
def yX6_beginAside : MethodName := ⟨RX6, "beginAside", "(LBridgeAwake$Hold;)LBridgeAwake$Hold;"⟩
abbrev cX6_strongest : ByteArray := prog_8_method_3_code
def yX6_strongest : MethodName := ⟨RX6, "strongest", "(LBridgeAwake$Folk;LBridgeAwake$Hold;I)I"⟩
abbrev cX6_seekStrongest : ByteArray := prog_8_method_4_code
def yX6_seekStrongest : MethodName := ⟨RX6, "seekStrongest", "(LBridgeAwake$Search;LBridgeAwake$Folk;I)V"⟩
abbrev cX6_noteStrength : ByteArray := prog_8_method_5_code
def yX6_noteStrength : MethodName := ⟨RX6, "noteStrength", "(I)V"⟩
abbrev cX6_waysFor : ByteArray := prog_8_method_6_code
def yX6_waysFor : MethodName := ⟨RX6, "waysFor", "(LBridgeAwake$Folk;LBridgeAwake$Hold;LBridgeAwake$Row;Z)V"⟩
abbrev cX6_seekWays : ByteArray := prog_8_method_7_code
def yX6_seekWays : MethodName := ⟨RX6, "seekWays", "(LBridgeAwake$Search;LBridgeAwake$Folk;II)V"⟩
abbrev cX6_suits : ByteArray := prog_8_method_8_code
def yX6_suits : MethodName := ⟨RX6, "suits", "(II)Z"⟩
abbrev cX6_noteWay : ByteArray := prog_8_method_9_code
def yX6_noteWay : MethodName := ⟨RX6, "noteWay", "(I)V"⟩
abbrev cX6_byTurns : ByteArray := prog_8_method_10_code
def yX6_byTurns : MethodName := ⟨RX6, "byTurns", "(LBridgeAwake$Folk;LBridgeAwake$Hold;I)I"⟩
abbrev cX6_playTurn : ByteArray := prog_8_method_11_code
def yX6_playTurn : MethodName := ⟨RX6, "playTurn", "(LBridgeAwake$Search;LBridgeAwake$Folk;I)I"⟩
abbrev cX6_copyDeeper : ByteArray := prog_8_method_12_code
def yX6_copyDeeper : MethodName := ⟨RX6, "copyDeeper", "(I)LBridgeAwake$Hold;"⟩
def RX7 : String := "BridgeAwake"
def TX7 : u_T := fun k => match k with
  | 0 => ("BridgeAwake", "rows", "[LBridgeAwake$Row;", true)
  | 1 => ("BridgeAwake", "texts", "[LBridgeAwake$Row;", true)
  | 2 => ("BridgeAwake", "kept", "[LBridgeAwake$Night;", true)
  | 3 => ("BridgeAwake", "folk", "LBridgeAwake$Folk;", true)
  | 4 => ("BridgeAwake", "reader", "LBridgeAwake$Reader;", true)
  | 5 => ("BridgeAwake", "night", "LBridgeAwake$Night;", true)
  | 6 => ("BridgeAwake", "search", "LBridgeAwake$Search;", true)
  | 7 => ("BridgeAwake", "matching", "LBridgeAwake$Matching;", true)
  | 8 => ("BridgeAwake", "findingCounts", "[I", true)
  | 9 => ("BridgeAwake", "latestFinding", "I", false)
  | 10 => ("BridgeAwake", "latestAsked", "I", false)
  | 11 => ("BridgeAwake", "latestUpper", "J", false)
  | _ => ("BridgeAwake", "latestLower", "J", false)
def tyX7 : Nat → FieldType := fun k => match k with
  | 0 => .array (.object "BridgeAwake$Row")
  | 1 => .array (.object "BridgeAwake$Row")
  | 2 => .array (.object "BridgeAwake$Night")
  | 3 => .object "BridgeAwake$Folk"
  | 4 => .object "BridgeAwake$Reader"
  | 5 => .object "BridgeAwake$Night"
  | 6 => .object "BridgeAwake$Search"
  | 7 => .object "BridgeAwake$Matching"
  | 8 => .array .int
  | 9 => .int
  | 10 => .int
  | 11 => .long
  | _ => .long
abbrev wsX70 : List Cond := u_ws RX7 TX7 13
theorem nmX7 : ∀ a, a < 13 → ∀ b, b < 13 → a ≠ b → (TX7 a).2.1 ≠ (TX7 b).2.1 := by decide +kernel
theorem tyX7_ok : ∀ k, k < 13 → parseFieldDescriptor (TX7 k).2.2.1 = some (tyX7 k) := by decide +kernel
abbrev cX7_init : ByteArray := prog_1_method_1_code
def yX7_init : MethodName := ⟨RX7, "<init>", "()V"⟩
abbrev cX7_row : ByteArray := prog_1_method_2_code
def yX7_row : MethodName := ⟨RX7, "row", "(II)I"⟩
abbrev cX7_lay : ByteArray := prog_1_method_3_code
def yX7_lay : MethodName := ⟨RX7, "lay", "(III)I"⟩
abbrev cX7_at : ByteArray := prog_1_method_4_code
def yX7_at : MethodName := ⟨RX7, "at", "(II)I"⟩
abbrev cX7_tear : ByteArray := prog_1_method_5_code
def yX7_tear : MethodName := ⟨RX7, "tear", "(I)I"⟩
abbrev cX7_copy : ByteArray := prog_1_method_6_code
def yX7_copy : MethodName := ⟨RX7, "copy", "(IIIII)I"⟩
abbrev cX7_mean : ByteArray := prog_1_method_7_code
def yX7_mean : MethodName := ⟨RX7, "mean", "(I)I"⟩
abbrev cX7_text : ByteArray := prog_1_method_8_code
def yX7_text : MethodName := ⟨RX7, "text", "(II)I"⟩
abbrev cX7_put : ByteArray := prog_1_method_9_code
def yX7_put : MethodName := ⟨RX7, "put", "(III)I"⟩
abbrev cX7_fault : ByteArray := prog_1_method_10_code
def yX7_fault : MethodName := ⟨RX7, "fault", "(I)I"⟩
abbrev cX7_bridge : ByteArray := prog_1_method_11_code
def yX7_bridge : MethodName := ⟨RX7, "bridge", "(I)I"⟩
abbrev cX7_one : ByteArray := prog_1_method_12_code
def yX7_one : MethodName := ⟨RX7, "one", "(II)I"⟩
abbrev cX7_mark : ByteArray := prog_1_method_13_code
def yX7_mark : MethodName := ⟨RX7, "mark", "(II)I"⟩
abbrev cX7_talk : ByteArray := prog_1_method_14_code
def yX7_talk : MethodName := ⟨RX7, "talk", "(II)I"⟩
abbrev cX7_watch : ByteArray := prog_1_method_15_code
def yX7_watch : MethodName := ⟨RX7, "watch", "(II)I"⟩
abbrev cX7_load : ByteArray := prog_1_method_16_code
def yX7_load : MethodName := ⟨RX7, "load", "(I)I"⟩
abbrev cX7_coffee : ByteArray := prog_1_method_17_code
def yX7_coffee : MethodName := ⟨RX7, "coffee", "(I)I"⟩
abbrev cX7_undo : ByteArray := prog_1_method_18_code
def yX7_undo : MethodName := ⟨RX7, "undo", "(I)I"⟩
abbrev cX7_keep : ByteArray := prog_1_method_19_code
def yX7_keep : MethodName := ⟨RX7, "keep", "(I)I"⟩
abbrev cX7_on : ByteArray := prog_1_method_20_code
def yX7_on : MethodName := ⟨RX7, "on", "(I)I"⟩
abbrev cX7_best : ByteArray := prog_1_method_21_code
def yX7_best : MethodName := ⟨RX7, "best", "(II)I"⟩
abbrev cX7_through : ByteArray := prog_1_method_22_code
def yX7_through : MethodName := ⟨RX7, "through", "(I)I"⟩
abbrev cX7_when : ByteArray := prog_1_method_23_code
def yX7_when : MethodName := ⟨RX7, "when", "(II)I"⟩
abbrev cX7_bear : ByteArray := prog_1_method_24_code
def yX7_bear : MethodName := ⟨RX7, "bear", "(I)I"⟩
abbrev cX7_sagged : ByteArray := prog_1_method_25_code
def yX7_sagged : MethodName := ⟨RX7, "sagged", "(I)I"⟩
abbrev cX7_sure : ByteArray := prog_1_method_26_code
def yX7_sure : MethodName := ⟨RX7, "sure", "(I)I"⟩
abbrev cX7_lasts : ByteArray := prog_1_method_27_code
def yX7_lasts : MethodName := ⟨RX7, "lasts", "(II)I"⟩
abbrev cX7_kinds : ByteArray := prog_1_method_28_code
def yX7_kinds : MethodName := ⟨RX7, "kinds", "(II)I"⟩
abbrev cX7_test : ByteArray := prog_1_method_29_code
def yX7_test : MethodName := ⟨RX7, "test", "(II)I"⟩
abbrev cX7_pairs : ByteArray := prog_1_method_30_code
def yX7_pairs : MethodName := ⟨RX7, "pairs", "(I)I"⟩
abbrev cX7_duel : ByteArray := prog_1_method_31_code
def yX7_duel : MethodName := ⟨RX7, "duel", "(I)I"⟩
abbrev cX7_odds : ByteArray := prog_1_method_32_code
def yX7_odds : MethodName := ⟨RX7, "odds", "(IIII)I"⟩
abbrev cX7_mid : ByteArray := prog_1_method_33_code
def yX7_mid : MethodName := ⟨RX7, "mid", "(III)I"⟩
abbrev cX7_lots : ByteArray := prog_1_method_34_code
def yX7_lots : MethodName := ⟨RX7, "lots", "(II)I"⟩
abbrev cX7_asked : ByteArray := prog_1_method_35_code
def yX7_asked : MethodName := ⟨RX7, "asked", "()I"⟩
abbrev cX7_upper : ByteArray := prog_1_method_36_code
def yX7_upper : MethodName := ⟨RX7, "upper", "()J"⟩
abbrev cX7_lower : ByteArray := prog_1_method_37_code
def yX7_lower : MethodName := ⟨RX7, "lower", "()J"⟩
abbrev cX7_count : ByteArray := prog_1_method_38_code
def yX7_count : MethodName := ⟨RX7, "count", "(I)I"⟩
abbrev cX7_finding : ByteArray := prog_1_method_39_code
def yX7_finding : MethodName := ⟨RX7, "finding", "()I"⟩
abbrev cX7_findings : ByteArray := prog_1_method_40_code
def yX7_findings : MethodName := ⟨RX7, "findings", "(I)I"⟩
abbrev cX7_digest : ByteArray := prog_1_method_41_code
def yX7_digest : MethodName := ⟨RX7, "digest", "()J"⟩
abbrev cX7_isRow : ByteArray := prog_1_method_42_code
def yX7_isRow : MethodName := ⟨RX7, "isRow", "(I)Z"⟩
abbrev cX7_isText : ByteArray := prog_1_method_43_code
def yX7_isText : MethodName := ⟨RX7, "isText", "(I)Z"⟩
abbrev cX7_isKeptPlace : ByteArray := prog_1_method_44_code
def yX7_isKeptPlace : MethodName := ⟨RX7, "isKeptPlace", "(I)Z"⟩
abbrev cX7_isStrength : ByteArray := prog_1_method_45_code
def yX7_isStrength : MethodName := ⟨RX7, "isStrength", "(I)Z"⟩
abbrev cX7_isTurns : ByteArray := prog_1_method_46_code
def yX7_isTurns : MethodName := ⟨RX7, "isTurns", "(I)Z"⟩
abbrev cX7_isPart : ByteArray := prog_1_method_47_code
def yX7_isPart : MethodName := ⟨RX7, "isPart", "(I)Z"⟩
abbrev cX7_found : ByteArray := prog_1_method_48_code
def yX7_found : MethodName := ⟨RX7, "found", "(I)I"⟩
abbrev cX7_refusePlace : ByteArray := prog_1_method_49_code
def yX7_refusePlace : MethodName := ⟨RX7, "refusePlace", "(LBridgeAwake$Row;I)I"⟩
abbrev cX7_refuseWatches : ByteArray := prog_1_method_50_code
def yX7_refuseWatches : MethodName := ⟨RX7, "refuseWatches", "(I)I"⟩
abbrev cX7_refuseStrengths : ByteArray := prog_1_method_51_code
def yX7_refuseStrengths : MethodName := ⟨RX7, "refuseStrengths", "(I)I"⟩
abbrev cX7_refuseTriples : ByteArray := prog_1_method_52_code
def yX7_refuseTriples : MethodName := ⟨RX7, "refuseTriples", "(II)I"⟩
abbrev cX7_tellAsked : ByteArray := prog_1_method_53_code
def yX7_tellAsked : MethodName := ⟨RX7, "tellAsked", "(I)I"⟩
abbrev cX7_tellShare : ByteArray := prog_1_method_54_code
def yX7_tellShare : MethodName := ⟨RX7, "tellShare", "(JJ)I"⟩
abbrev cX7_commonMeasure : ByteArray := prog_1_method_55_code
def yX7_commonMeasure : MethodName := ⟨RX7, "commonMeasure", "(JJ)J"⟩
abbrev cX7_fact : ByteArray := prog_1_method_56_code
def yX7_fact : MethodName := ⟨RX7, "fact", "(II)I"⟩
abbrev cX7_preachedPairs : ByteArray := prog_1_method_57_code
def yX7_preachedPairs : MethodName := ⟨RX7, "preachedPairs", "(I)I"⟩
abbrev cX7_agrees : ByteArray := prog_1_method_58_code
def yX7_agrees : MethodName := ⟨RX7, "agrees", "(LBridgeAwake$Row;III)Z"⟩
abbrev cX7_possibleKinds : ByteArray := prog_1_method_59_code
def yX7_possibleKinds : MethodName := ⟨RX7, "possibleKinds", "(ILBridgeAwake$Row;)I"⟩
abbrev cX7_greatestPartAlike : ByteArray := prog_1_method_60_code
def yX7_greatestPartAlike : MethodName := ⟨RX7, "greatestPartAlike", "(III)I"⟩
abbrev cX7_toldAs : ByteArray := prog_1_method_61_code
def yX7_toldAs : MethodName := ⟨RX7, "toldAs", "(III)I"⟩
abbrev cX7_sleepWeight : ByteArray := prog_1_method_62_code
def yX7_sleepWeight : MethodName := ⟨RX7, "sleepWeight", "(II)I"⟩
abbrev cX7_doByLot : ByteArray := prog_1_method_63_code
def yX7_doByLot : MethodName := ⟨RX7, "doByLot", "(J)V"⟩
abbrev cX7_howManyThere : ByteArray := prog_1_method_64_code
def yX7_howManyThere : MethodName := ⟨RX7, "howManyThere", "([LBridgeAwake$Row;)I"⟩
abbrev cX7_howManyKept : ByteArray := prog_1_method_65_code
def yX7_howManyKept : MethodName := ⟨RX7, "howManyKept", "()I"⟩
abbrev cX7_addPlaces : ByteArray := prog_1_method_66_code
def yX7_addPlaces : MethodName := ⟨RX7, "addPlaces", "(J[LBridgeAwake$Row;)J"⟩
def RX8 : String := "BridgeAwakeModel"
def TX8 : u_T := fun k => match k with
  | 0 => ("BridgeAwakeModel", "rows", "[I", true)
  | 1 => ("BridgeAwakeModel", "rowSize", "[I", true)
  | 2 => ("BridgeAwakeModel", "texts", "[I", true)
  | 3 => ("BridgeAwakeModel", "textSize", "[I", true)
  | 4 => ("BridgeAwakeModel", "w", "[I", true)
  | 5 => ("BridgeAwakeModel", "keptDeeds", "[I", true)
  | 6 => ("BridgeAwakeModel", "kind", "[I", true)
  | 7 => ("BridgeAwakeModel", "lively", "[I", true)
  | 8 => ("BridgeAwakeModel", "lasts", "[I", true)
  | 9 => ("BridgeAwakeModel", "quarrels", "[I", true)
  | 10 => ("BridgeAwakeModel", "many", "I", false)
  | 11 => ("BridgeAwakeModel", "deeds", "I", false)
  | 12 => ("BridgeAwakeModel", "finding", "I", false)
  | 13 => ("BridgeAwakeModel", "found", "[I", true)
  | 14 => ("BridgeAwakeModel", "asked", "I", false)
  | 15 => ("BridgeAwakeModel", "upper", "J", false)
  | 16 => ("BridgeAwakeModel", "lower", "J", false)
  | 17 => ("BridgeAwakeModel", "taken", "[I", true)
  | 18 => ("BridgeAwakeModel", "readAt", "I", false)
  | 19 => ("BridgeAwakeModel", "readFault", "I", false)
  | 20 => ("BridgeAwakeModel", "readText", "I", false)
  | 21 => ("BridgeAwakeModel", "newMany", "I", false)
  | 22 => ("BridgeAwakeModel", "newStrength", "I", false)
  | 23 => ("BridgeAwakeModel", "newCoffee", "I", false)
  | 24 => ("BridgeAwakeModel", "newKind", "[I", true)
  | 25 => ("BridgeAwakeModel", "newLively", "[I", true)
  | 26 => ("BridgeAwakeModel", "newLasts", "[I", true)
  | 27 => ("BridgeAwakeModel", "newQuarrels", "[I", true)
  | 28 => ("BridgeAwakeModel", "pairNumber", "[I", true)
  | 29 => ("BridgeAwakeModel", "pairMany", "I", false)
  | 30 => ("BridgeAwakeModel", "soMany", "I", false)
  | 31 => ("BridgeAwakeModel", "soFirst", "I", false)
  | 32 => ("BridgeAwakeModel", "inAll", "I", false)
  | 33 => ("BridgeAwakeModel", "inSome", "I", false)
  | 34 => ("BridgeAwakeModel", "with", "[I", true)
  | 35 => ("BridgeAwakeModel", "bestWith", "[I", true)
  | _ => ("BridgeAwakeModel", "worth", "[I", true)
def tyX8 : Nat → FieldType := fun k => match k with
  | 0 => .array .int
  | 1 => .array .int
  | 2 => .array .int
  | 3 => .array .int
  | 4 => .array .int
  | 5 => .array .int
  | 6 => .array .int
  | 7 => .array .int
  | 8 => .array .int
  | 9 => .array .int
  | 10 => .int
  | 11 => .int
  | 12 => .int
  | 13 => .array .int
  | 14 => .int
  | 15 => .long
  | 16 => .long
  | 17 => .array .int
  | 18 => .int
  | 19 => .int
  | 20 => .int
  | 21 => .int
  | 22 => .int
  | 23 => .int
  | 24 => .array .int
  | 25 => .array .int
  | 26 => .array .int
  | 27 => .array .int
  | 28 => .array .int
  | 29 => .int
  | 30 => .int
  | 31 => .int
  | 32 => .int
  | 33 => .int
  | 34 => .array .int
  | 35 => .array .int
  | _ => .array .int
abbrev wsX80 : List Cond := u_ws RX8 TX8 37
theorem nmX8 : ∀ a, a < 37 → ∀ b, b < 37 → a ≠ b → (TX8 a).2.1 ≠ (TX8 b).2.1 := by decide +kernel
theorem tyX8_ok : ∀ k, k < 37 → parseFieldDescriptor (TX8 k).2.2.1 = some (tyX8 k) := by decide +kernel
abbrev cX8_init : ByteArray := prog_10_method_1_code
def yX8_init : MethodName := ⟨RX8, "<init>", "()V"⟩
abbrev cX8_in : ByteArray := prog_10_method_3_code
def yX8_in : MethodName := ⟨RX8, "in", "(JJJ)Z"⟩
abbrev cX8_least : ByteArray := prog_10_method_4_code
def yX8_least : MethodName := ⟨RX8, "least", "(II)I"⟩
abbrev cX8_most : ByteArray := prog_10_method_5_code
def yX8_most : MethodName := ⟨RX8, "most", "(II)I"⟩
abbrev cX8_has : ByteArray := prog_10_method_6_code
def yX8_has : MethodName := ⟨RX8, "has", "(II)Z"⟩
abbrev cX8_refuse : ByteArray := prog_10_method_7_code
def yX8_refuse : MethodName := ⟨RX8, "refuse", "(I)I"⟩
abbrev cX8_isRow : ByteArray := prog_10_method_8_code
def yX8_isRow : MethodName := ⟨RX8, "isRow", "(I)Z"⟩
abbrev cX8_isText : ByteArray := prog_10_method_9_code
def yX8_isText : MethodName := ⟨RX8, "isText", "(I)Z"⟩
abbrev cX8_row : ByteArray := prog_10_method_10_code
def yX8_row : MethodName := ⟨RX8, "row", "(II)I"⟩
abbrev cX8_refusedPlace : ByteArray := prog_10_method_11_code
def yX8_refusedPlace : MethodName := ⟨RX8, "refusedPlace", "(II)I"⟩
abbrev cX8_lay : ByteArray := prog_10_method_12_code
def yX8_lay : MethodName := ⟨RX8, "lay", "(III)I"⟩
abbrev cX8_at : ByteArray := prog_10_method_13_code
def yX8_at : MethodName := ⟨RX8, "at", "(II)I"⟩
abbrev cX8_tear : ByteArray := prog_10_method_14_code
def yX8_tear : MethodName := ⟨RX8, "tear", "(I)I"⟩
abbrev cX8_copy : ByteArray := prog_10_method_15_code
def yX8_copy : MethodName := ⟨RX8, "copy", "(IIIII)I"⟩
abbrev cX8_mean : ByteArray := prog_10_method_16_code
def yX8_mean : MethodName := ⟨RX8, "mean", "(I)I"⟩
abbrev cX8_text : ByteArray := prog_10_method_17_code
def yX8_text : MethodName := ⟨RX8, "text", "(II)I"⟩
abbrev cX8_put : ByteArray := prog_10_method_18_code
def yX8_put : MethodName := ⟨RX8, "put", "(III)I"⟩
abbrev cX8_sign : ByteArray := prog_10_method_19_code
def yX8_sign : MethodName := ⟨RX8, "sign", "()I"⟩
abbrev cX8_blanks : ByteArray := prog_10_method_20_code
def yX8_blanks : MethodName := ⟨RX8, "blanks", "()V"⟩
abbrev cX8_want : ByteArray := prog_10_method_21_code
def yX8_want : MethodName := ⟨RX8, "want", "(ZI)Z"⟩
abbrev cX8_figure : ByteArray := prog_10_method_22_code
def yX8_figure : MethodName := ⟨RX8, "figure", "()I"⟩
abbrev cX8_readFirst : ByteArray := prog_10_method_23_code
def yX8_readFirst : MethodName := ⟨RX8, "readFirst", "()V"⟩
abbrev cX8_kindOf : ByteArray := prog_10_method_24_code
def yX8_kindOf : MethodName := ⟨RX8, "kindOf", "(I)I"⟩
abbrev cX8_readOne : ByteArray := prog_10_method_25_code
def yX8_readOne : MethodName := ⟨RX8, "readOne", "(I)V"⟩
abbrev cX8_readQuarrel : ByteArray := prog_10_method_26_code
def yX8_readQuarrel : MethodName := ⟨RX8, "readQuarrel", "()V"⟩
abbrev cX8_read : ByteArray := prog_10_method_27_code
def yX8_read : MethodName := ⟨RX8, "read", "(I)I"⟩
abbrev cX8_fault : ByteArray := prog_10_method_28_code
def yX8_fault : MethodName := ⟨RX8, "fault", "(I)I"⟩
abbrev cX8_bridge : ByteArray := prog_10_method_29_code
def yX8_bridge : MethodName := ⟨RX8, "bridge", "(I)I"⟩
abbrev cX8_talker : ByteArray := prog_10_method_30_code
def yX8_talker : MethodName := ⟨RX8, "talker", "(III)I"⟩
abbrev cX8_tells : ByteArray := prog_10_method_31_code
def yX8_tells : MethodName := ⟨RX8, "tells", "(IIIII)I"⟩
abbrev cX8_hourIn : ByteArray := prog_10_method_32_code
def yX8_hourIn : MethodName := ⟨RX8, "hourIn", "(I)I"⟩
abbrev cX8_tellsIn : ByteArray := prog_10_method_33_code
def yX8_tellsIn : MethodName := ⟨RX8, "tellsIn", "(II)I"⟩
abbrev cX8_bothIn : ByteArray := prog_10_method_34_code
def yX8_bothIn : MethodName := ⟨RX8, "bothIn", "(III)I"⟩
abbrev cX8_talkIn : ByteArray := prog_10_method_35_code
def yX8_talkIn : MethodName := ⟨RX8, "talkIn", "(III)I"⟩
abbrev cX8_isOne : ByteArray := prog_10_method_36_code
def yX8_isOne : MethodName := ⟨RX8, "isOne", "(I)Z"⟩
abbrev cX8_isPair : ByteArray := prog_10_method_37_code
def yX8_isPair : MethodName := ⟨RX8, "isPair", "(II)Z"⟩
abbrev cX8_told : ByteArray := prog_10_method_38_code
def yX8_told : MethodName := ⟨RX8, "told", "(II)I"⟩
abbrev cX8_one : ByteArray := prog_10_method_39_code
def yX8_one : MethodName := ⟨RX8, "one", "(II)I"⟩
abbrev cX8_isOf : ByteArray := prog_10_method_40_code
def yX8_isOf : MethodName := ⟨RX8, "isOf", "(II)Z"⟩
abbrev cX8_halves : ByteArray := prog_10_method_41_code
def yX8_halves : MethodName := ⟨RX8, "halves", "(I)I"⟩
abbrev cX8_mark : ByteArray := prog_10_method_42_code
def yX8_mark : MethodName := ⟨RX8, "mark", "(II)I"⟩
abbrev cX8_talk : ByteArray := prog_10_method_43_code
def yX8_talk : MethodName := ⟨RX8, "talk", "(II)I"⟩
abbrev cX8_take : ByteArray := prog_10_method_44_code
def yX8_take : MethodName := ⟨RX8, "take", "(III)V"⟩
abbrev cX8_remember : ByteArray := prog_10_method_45_code
def yX8_remember : MethodName := ⟨RX8, "remember", "()V"⟩
abbrev cX8_watchIn : ByteArray := prog_10_method_46_code
def yX8_watchIn : MethodName := ⟨RX8, "watchIn", "(III)V"⟩
abbrev cX8_watch : ByteArray := prog_10_method_47_code
def yX8_watch : MethodName := ⟨RX8, "watch", "(II)I"⟩
abbrev cX8_send : ByteArray := prog_10_method_48_code
def yX8_send : MethodName := ⟨RX8, "send", "(I)I"⟩
abbrev cX8_load : ByteArray := prog_10_method_49_code
def yX8_load : MethodName := ⟨RX8, "load", "(I)I"⟩
abbrev cX8_coffee : ByteArray := prog_10_method_50_code
def yX8_coffee : MethodName := ⟨RX8, "coffee", "(I)I"⟩
abbrev cX8_undo : ByteArray := prog_10_method_51_code
def yX8_undo : MethodName := ⟨RX8, "undo", "(I)I"⟩
abbrev cX8_keep : ByteArray := prog_10_method_52_code
def yX8_keep : MethodName := ⟨RX8, "keep", "(I)I"⟩
abbrev cX8_on : ByteArray := prog_10_method_53_code
def yX8_on : MethodName := ⟨RX8, "on", "(I)I"⟩
abbrev cX8_layPairs : ByteArray := prog_10_method_54_code
def yX8_layPairs : MethodName := ⟨RX8, "layPairs", "()V"⟩
abbrev cX8_ways : ByteArray := prog_10_method_55_code
def yX8_ways : MethodName := ⟨RX8, "ways", "(I)I"⟩
abbrev cX8_pairOf : ByteArray := prog_10_method_56_code
def yX8_pairOf : MethodName := ⟨RX8, "pairOf", "(III)I"⟩
abbrev cX8_watchBy : ByteArray := prog_10_method_57_code
def yX8_watchBy : MethodName := ⟨RX8, "watchBy", "(I)V"⟩
abbrev cX8_behind : ByteArray := prog_10_method_58_code
def yX8_behind : MethodName := ⟨RX8, "behind", "(II)I"⟩
abbrev cX8_newRow : ByteArray := prog_10_method_59_code
def yX8_newRow : MethodName := ⟨RX8, "newRow", "(II)V"⟩
abbrev cX8_best : ByteArray := prog_10_method_60_code
def yX8_best : MethodName := ⟨RX8, "best", "(II)I"⟩
abbrev cX8_isNumber : ByteArray := prog_10_method_61_code
def yX8_isNumber : MethodName := ⟨RX8, "isNumber", "(I)Z"⟩
abbrev cX8_refusedWatches : ByteArray := prog_10_method_62_code
def yX8_refusedWatches : MethodName := ⟨RX8, "refusedWatches", "(I)I"⟩
abbrev cX8_through : ByteArray := prog_10_method_63_code
def yX8_through : MethodName := ⟨RX8, "through", "(I)I"⟩
abbrev cX8_when : ByteArray := prog_10_method_64_code
def yX8_when : MethodName := ⟨RX8, "when", "(II)I"⟩
abbrev cX8_refusedStrengths : ByteArray := prog_10_method_65_code
def yX8_refusedStrengths : MethodName := ⟨RX8, "refusedStrengths", "(I)I"⟩
abbrev cX8_howMany : ByteArray := prog_10_method_66_code
def yX8_howMany : MethodName := ⟨RX8, "howMany", "(I)I"⟩
abbrev cX8_peopleOf : ByteArray := prog_10_method_67_code
def yX8_peopleOf : MethodName := ⟨RX8, "peopleOf", "(II)I"⟩
abbrev cX8_isSo : ByteArray := prog_10_method_68_code
def yX8_isSo : MethodName := ⟨RX8, "isSo", "(IIZ)Z"⟩
abbrev cX8_bear : ByteArray := prog_10_method_69_code
def yX8_bear : MethodName := ⟨RX8, "bear", "(I)I"⟩
abbrev cX8_laySo : ByteArray := prog_10_method_70_code
def yX8_laySo : MethodName := ⟨RX8, "laySo", "(I)V"⟩
abbrev cX8_sagged : ByteArray := prog_10_method_71_code
def yX8_sagged : MethodName := ⟨RX8, "sagged", "(I)I"⟩
abbrev cX8_sure : ByteArray := prog_10_method_72_code
def yX8_sure : MethodName := ⟨RX8, "sure", "(I)I"⟩
abbrev cX8_refusedTriples : ByteArray := prog_10_method_73_code
def yX8_refusedTriples : MethodName := ⟨RX8, "refusedTriples", "(I)I"⟩
abbrev cX8_fits : ByteArray := prog_10_method_74_code
def yX8_fits : MethodName := ⟨RX8, "fits", "(IIII)Z"⟩
abbrev cX8_lasts : ByteArray := prog_10_method_75_code
def yX8_lasts : MethodName := ⟨RX8, "lasts", "(II)I"⟩
abbrev cX8_kindsBy : ByteArray := prog_10_method_76_code
def yX8_kindsBy : MethodName := ⟨RX8, "kindsBy", "(II)I"⟩
abbrev cX8_kinds : ByteArray := prog_10_method_77_code
def yX8_kinds : MethodName := ⟨RX8, "kinds", "(II)I"⟩
abbrev cX8_greatestPart : ByteArray := prog_10_method_78_code
def yX8_greatestPart : MethodName := ⟨RX8, "greatestPart", "(III)I"⟩
abbrev cX8_test : ByteArray := prog_10_method_79_code
def yX8_test : MethodName := ⟨RX8, "test", "(II)I"⟩
abbrev cX8_layWay : ByteArray := prog_10_method_80_code
def yX8_layWay : MethodName := ⟨RX8, "layWay", "(I)I"⟩
abbrev cX8_isAhead : ByteArray := prog_10_method_81_code
def yX8_isAhead : MethodName := ⟨RX8, "isAhead", "()Z"⟩
abbrev cX8_pairs : ByteArray := prog_10_method_82_code
def yX8_pairs : MethodName := ⟨RX8, "pairs", "(I)I"⟩
abbrev cX8_duel : ByteArray := prog_10_method_83_code
def yX8_duel : MethodName := ⟨RX8, "duel", "(I)I"⟩
abbrev cX8_divisor : ByteArray := prog_10_method_84_code
def yX8_divisor : MethodName := ⟨RX8, "divisor", "(JJ)J"⟩
abbrev cX8_tell : ByteArray := prog_10_method_85_code
def yX8_tell : MethodName := ⟨RX8, "tell", "(JJ)V"⟩
abbrev cX8_strength : ByteArray := prog_10_method_86_code
def yX8_strength : MethodName := ⟨RX8, "strength", "(III)I"⟩
abbrev cX8_weight : ByteArray := prog_10_method_87_code
def yX8_weight : MethodName := ⟨RX8, "weight", "(II)I"⟩
abbrev cX8_odds : ByteArray := prog_10_method_88_code
def yX8_odds : MethodName := ⟨RX8, "odds", "(IIII)I"⟩
abbrev cX8_mid : ByteArray := prog_10_method_89_code
def yX8_mid : MethodName := ⟨RX8, "mid", "(III)I"⟩
abbrev cX8_lots : ByteArray := prog_10_method_90_code
def yX8_lots : MethodName := ⟨RX8, "lots", "(II)I"⟩
abbrev cX8_asked : ByteArray := prog_10_method_91_code
def yX8_asked : MethodName := ⟨RX8, "asked", "()I"⟩
abbrev cX8_upper : ByteArray := prog_10_method_92_code
def yX8_upper : MethodName := ⟨RX8, "upper", "()J"⟩
abbrev cX8_lower : ByteArray := prog_10_method_93_code
def yX8_lower : MethodName := ⟨RX8, "lower", "()J"⟩
abbrev cX8_lovers : ByteArray := prog_10_method_94_code
def yX8_lovers : MethodName := ⟨RX8, "lovers", "()I"⟩
abbrev cX8_there : ByteArray := prog_10_method_95_code
def yX8_there : MethodName := ⟨RX8, "there", "([II)I"⟩
abbrev cX8_count : ByteArray := prog_10_method_96_code
def yX8_count : MethodName := ⟨RX8, "count", "(I)I"⟩
abbrev cX8_finding : ByteArray := prog_10_method_97_code
def yX8_finding : MethodName := ⟨RX8, "finding", "()I"⟩
abbrev cX8_findings : ByteArray := prog_10_method_98_code
def yX8_findings : MethodName := ⟨RX8, "findings", "(I)I"⟩
abbrev cX8_mixAll : ByteArray := prog_10_method_99_code
def yX8_mixAll : MethodName := ⟨RX8, "mixAll", "(J[I[III)J"⟩
abbrev cX8_digest : ByteArray := prog_10_method_100_code
def yX8_digest : MethodName := ⟨RX8, "digest", "()J"⟩
def RJ6 : String := "java/lang/Integer"
def TJ6 : u_T := fun k => match k with
  | _ => ("", "", "", false)
def tyJ6 : Nat → FieldType := fun k => match k with
  | _ => .int
abbrev wsJ60 : List Cond := u_ws RJ6 TJ6 0
theorem nmJ6 : ∀ a, a < 0 → ∀ b, b < 0 → a ≠ b → (TJ6 a).2.1 ≠ (TJ6 b).2.1 := by decide +kernel
theorem tyJ6_ok : ∀ k, k < 0 → parseFieldDescriptor (TJ6 k).2.2.1 = some (tyJ6 k) := by decide +kernel
abbrev cJ6_bitCount_0f7a4 : ByteArray := prog_11_method_49_code
def yJ6_bitCount_0f7a4 : MethodName := ⟨RJ6, "bitCount", "(I)I"⟩
def RJ9 : String := "java/lang/Math"
def TJ9 : u_T := fun k => match k with
  | _ => ("", "", "", false)
def tyJ9 : Nat → FieldType := fun k => match k with
  | _ => .int
abbrev wsJ90 : List Cond := u_ws RJ9 TJ9 0
theorem nmJ9 : ∀ a, a < 0 → ∀ b, b < 0 → a ≠ b → (TJ9 a).2.1 ≠ (TJ9 b).2.1 := by decide +kernel
theorem tyJ9_ok : ∀ k, k < 0 → parseFieldDescriptor (TJ9 k).2.2.1 = some (tyJ9 k) := by decide +kernel
abbrev cJ9_floorMod_7cf53 : ByteArray := prog_12_method_50_code
def yJ9_floorMod_7cf53 : MethodName := ⟨RJ9, "floorMod", "(II)I"⟩
abbrev cJ9_max_7cf53 : ByteArray := prog_12_method_65_code
def yJ9_max_7cf53 : MethodName := ⟨RJ9, "max", "(II)I"⟩
abbrev cJ9_max_f86c9 : ByteArray := prog_12_method_66_code
def yJ9_max_f86c9 : MethodName := ⟨RJ9, "max", "(JJ)J"⟩
abbrev cJ9_min_7cf53 : ByteArray := prog_12_method_69_code
def yJ9_min_7cf53 : MethodName := ⟨RJ9, "min", "(II)I"⟩
abbrev cJ9_min_f86c9 : ByteArray := prog_12_method_70_code
def yJ9_min_f86c9 : MethodName := ⟨RJ9, "min", "(JJ)J"⟩
def RJ10 : String := "java/lang/System"
def TJ10 : u_T := fun k => match k with
  | _ => ("", "", "", false)
def tyJ10 : Nat → FieldType := fun k => match k with
  | _ => .int
abbrev wsJ100 : List Cond := u_ws RJ10 TJ10 0
theorem nmJ10 : ∀ a, a < 0 → ∀ b, b < 0 → a ≠ b → (TJ10 a).2.1 ≠ (TJ10 b).2.1 := by decide +kernel
theorem tyJ10_ok : ∀ k, k < 0 → parseFieldDescriptor (TJ10 k).2.2.1 = some (tyJ10 k) := by decide +kernel
def RJ7 : String := "java/util/Arrays"
def TJ7 : u_T := fun k => match k with
  | _ => ("", "", "", false)
def tyJ7 : Nat → FieldType := fun k => match k with
  | _ => .int
abbrev wsJ70 : List Cond := u_ws RJ7 TJ7 0
theorem nmJ7 : ∀ a, a < 0 → ∀ b, b < 0 → a ≠ b → (TJ7 a).2.1 ≠ (TJ7 b).2.1 := by decide +kernel
theorem tyJ7_ok : ∀ k, k < 0 → parseFieldDescriptor (TJ7 k).2.2.1 = some (tyJ7 k) := by decide +kernel
abbrev cJ7_fill_53178 : ByteArray := prog_14_method_103_code
def yJ7_fill_53178 : MethodName := ⟨RJ7, "fill", "([II)V"⟩
def RL : String := "BridgeAwakeLaw"
abbrev cL_law : ByteArray := code
def yL_law : MethodName := ⟨RL, "law", "([I)Z"⟩
abbrev vwCl : List vw_C := [(RX0, TX0, 7), (RX1, TX1, 4), (RX2, TX2, 3), (RX3, TX3, 7), (RX4, TX4, 2), (RX5, TX5, 4), (RX6, TX6, 12), (RX7, TX7, 13), (RX8, TX8, 37)]
