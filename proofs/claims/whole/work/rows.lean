section
-- ===== PART A: goes FIRST, ahead of the names: the tables' words, and 'selects' of the private methods out of them =====
/-- a private method of a class that the tables say can be made, by its rows of tables_1 -/
def lw_okq (q : MethodName × Nat) : Prop := (q.1.cls ≠ "java/lang/invoke/MethodHandle" ∧ q.1.cls ≠ "java/lang/invoke/VarHandle") ∧ Cond.instantiable q.1.cls q.2 ∈ tables_1 ∧ Cond.privateMethod q.1 ∈ tables_1 ∧ Cond.instanceMethod q.1 ∈ tables_1
theorem lw_p0 : lw_okq (⟨"WindTaken", "found", "(I)I"⟩, 10) := ⟨⟨by decide +kernel, by decide +kernel⟩, List.mem_of_getElem? (i := 18) (by decide +kernel), List.mem_of_getElem? (i := 289) (by decide +kernel), List.mem_of_getElem? (i := 290) (by decide +kernel)⟩
theorem lw_p1 : lw_okq (⟨"WindTaken", "unfound", "(I)I"⟩, 10) := ⟨⟨by decide +kernel, by decide +kernel⟩, List.mem_of_getElem? (i := 18) (by decide +kernel), List.mem_of_getElem? (i := 298) (by decide +kernel), List.mem_of_getElem? (i := 299) (by decide +kernel)⟩
theorem lw_p2 : lw_okq (⟨"WindTaken$Row", "narrowed", "(I)I"⟩, 3) := ⟨⟨by decide +kernel, by decide +kernel⟩, List.mem_of_getElem? (i := 203) (by decide +kernel), List.mem_of_getElem? (i := 318) (by decide +kernel), List.mem_of_getElem? (i := 319) (by decide +kernel)⟩
theorem lw_p3 : lw_okq (⟨"WindTaken$Reader", "step", "()V"⟩, 7) := ⟨⟨by decide +kernel, by decide +kernel⟩, List.mem_of_getElem? (i := 45) (by decide +kernel), List.mem_of_getElem? (i := 350) (by decide +kernel), List.mem_of_getElem? (i := 351) (by decide +kernel)⟩
theorem lw_p4 : lw_okq (⟨"WindTaken$Reader", "readLaw", "(LWindTaken$Ridge;)V"⟩, 7) := ⟨⟨by decide +kernel, by decide +kernel⟩, List.mem_of_getElem? (i := 45) (by decide +kernel), List.mem_of_getElem? (i := 370) (by decide +kernel), List.mem_of_getElem? (i := 371) (by decide +kernel)⟩
theorem lw_p5 : lw_okq (⟨"WindTaken$Reader", "takeName", "(Ljava/lang/String;)V"⟩, 7) := ⟨⟨by decide +kernel, by decide +kernel⟩, List.mem_of_getElem? (i := 45) (by decide +kernel), List.mem_of_getElem? (i := 375) (by decide +kernel), List.mem_of_getElem? (i := 376) (by decide +kernel)⟩
theorem lw_p6 : lw_okq (⟨"WindTaken$Reader", "isName", "(Ljava/lang/String;)Z"⟩, 7) := ⟨⟨by decide +kernel, by decide +kernel⟩, List.mem_of_getElem? (i := 45) (by decide +kernel), List.mem_of_getElem? (i := 379) (by decide +kernel), List.mem_of_getElem? (i := 380) (by decide +kernel)⟩
theorem lw_p7 : lw_okq (⟨"WindTaken$Reader", "take", "(Z)V"⟩, 7) := ⟨⟨by decide +kernel, by decide +kernel⟩, List.mem_of_getElem? (i := 45) (by decide +kernel), List.mem_of_getElem? (i := 435) (by decide +kernel), List.mem_of_getElem? (i := 436) (by decide +kernel)⟩
theorem lw_p8 : lw_okq (⟨"WindTaken$Reader", "refuse", "(I)V"⟩, 7) := ⟨⟨by decide +kernel, by decide +kernel⟩, List.mem_of_getElem? (i := 45) (by decide +kernel), List.mem_of_getElem? (i := 439) (by decide +kernel), List.mem_of_getElem? (i := 440) (by decide +kernel)⟩
theorem lw_p9 : lw_okq (⟨"WindTaken$Reader", "takeNumber", "(II)I"⟩, 7) := ⟨⟨by decide +kernel, by decide +kernel⟩, List.mem_of_getElem? (i := 45) (by decide +kernel), List.mem_of_getElem? (i := 443) (by decide +kernel), List.mem_of_getElem? (i := 444) (by decide +kernel)⟩
theorem lw_p10 : lw_okq (⟨"WindTaken$Reader", "takeSign", "()V"⟩, 7) := ⟨⟨by decide +kernel, by decide +kernel⟩, List.mem_of_getElem? (i := 45) (by decide +kernel), List.mem_of_getElem? (i := 448) (by decide +kernel), List.mem_of_getElem? (i := 449) (by decide +kernel)⟩
theorem lw_p11 : lw_okq (⟨"WindTaken$Reader", "readMill", "(LWindTaken$Ridge;)V"⟩, 7) := ⟨⟨by decide +kernel, by decide +kernel⟩, List.mem_of_getElem? (i := 45) (by decide +kernel), List.mem_of_getElem? (i := 452) (by decide +kernel), List.mem_of_getElem? (i := 453) (by decide +kernel)⟩
theorem lw_p12 : lw_okq (⟨"WindTaken$Reader", "takeSort", "()I"⟩, 7) := ⟨⟨by decide +kernel, by decide +kernel⟩, List.mem_of_getElem? (i := 45) (by decide +kernel), List.mem_of_getElem? (i := 457) (by decide +kernel), List.mem_of_getElem? (i := 458) (by decide +kernel)⟩
theorem lw_p13 : lw_okq (⟨"WindTaken", "pass", "(II)I"⟩, 10) := ⟨⟨by decide +kernel, by decide +kernel⟩, List.mem_of_getElem? (i := 18) (by decide +kernel), List.mem_of_getElem? (i := 532) (by decide +kernel), List.mem_of_getElem? (i := 533) (by decide +kernel)⟩
theorem lw_p14 : lw_okq (⟨"WindTaken", "windOf", "(II)LWindTaken$Quarter;"⟩, 10) := ⟨⟨by decide +kernel, by decide +kernel⟩, List.mem_of_getElem? (i := 18) (by decide +kernel), List.mem_of_getElem? (i := 536) (by decide +kernel), List.mem_of_getElem? (i := 537) (by decide +kernel)⟩
theorem lw_p15 : lw_okq (⟨"WindTaken$Quarter", "floorsOf", "(II)I"⟩, 6) := ⟨⟨by decide +kernel, by decide +kernel⟩, List.mem_of_getElem? (i := 221) (by decide +kernel), List.mem_of_getElem? (i := 549) (by decide +kernel), List.mem_of_getElem? (i := 550) (by decide +kernel)⟩
def lw_privs_1 : List (MethodName × Nat) := [(⟨"WindTaken", "found", "(I)I"⟩, 10), (⟨"WindTaken", "unfound", "(I)I"⟩, 10), (⟨"WindTaken$Row", "narrowed", "(I)I"⟩, 3), (⟨"WindTaken$Reader", "step", "()V"⟩, 7), (⟨"WindTaken$Reader", "readLaw", "(LWindTaken$Ridge;)V"⟩, 7), (⟨"WindTaken$Reader", "takeName", "(Ljava/lang/String;)V"⟩, 7), (⟨"WindTaken$Reader", "isName", "(Ljava/lang/String;)Z"⟩, 7), (⟨"WindTaken$Reader", "take", "(Z)V"⟩, 7), (⟨"WindTaken$Reader", "refuse", "(I)V"⟩, 7), (⟨"WindTaken$Reader", "takeNumber", "(II)I"⟩, 7), (⟨"WindTaken$Reader", "takeSign", "()V"⟩, 7), (⟨"WindTaken$Reader", "readMill", "(LWindTaken$Ridge;)V"⟩, 7), (⟨"WindTaken$Reader", "takeSort", "()I"⟩, 7), (⟨"WindTaken", "pass", "(II)I"⟩, 10), (⟨"WindTaken", "windOf", "(II)LWindTaken$Quarter;"⟩, 10), (⟨"WindTaken$Quarter", "floorsOf", "(II)I"⟩, 6)]
theorem lw_r1 : ∀ q ∈ lw_privs_1, lw_okq q := List.forall_mem_cons.mpr ⟨lw_p0, List.forall_mem_cons.mpr ⟨lw_p1, List.forall_mem_cons.mpr ⟨lw_p2, List.forall_mem_cons.mpr ⟨lw_p3, List.forall_mem_cons.mpr ⟨lw_p4, List.forall_mem_cons.mpr ⟨lw_p5, List.forall_mem_cons.mpr ⟨lw_p6, List.forall_mem_cons.mpr ⟨lw_p7, List.forall_mem_cons.mpr ⟨lw_p8, List.forall_mem_cons.mpr ⟨lw_p9, List.forall_mem_cons.mpr ⟨lw_p10, List.forall_mem_cons.mpr ⟨lw_p11, List.forall_mem_cons.mpr ⟨lw_p12, List.forall_mem_cons.mpr ⟨lw_p13, List.forall_mem_cons.mpr ⟨lw_p14, List.forall_mem_cons.mpr ⟨lw_p15, fun _ h => absurd h List.not_mem_nil⟩⟩⟩⟩⟩⟩⟩⟩⟩⟩⟩⟩⟩⟩⟩⟩
theorem lw_p16 : lw_okq (⟨"WindTaken$Quarter", "isShaded", "(LWindTaken$Mill;LWindTaken$Mill;)Z"⟩, 6) := ⟨⟨by decide +kernel, by decide +kernel⟩, List.mem_of_getElem? (i := 221) (by decide +kernel), List.mem_of_getElem? (i := 554) (by decide +kernel), List.mem_of_getElem? (i := 555) (by decide +kernel)⟩
theorem lw_p17 : lw_okq (⟨"WindTaken", "nightSet", "(LWindTaken$Quarter;ILWindTaken$Row;I)I"⟩, 10) := ⟨⟨by decide +kernel, by decide +kernel⟩, List.mem_of_getElem? (i := 18) (by decide +kernel), List.mem_of_getElem? (i := 661) (by decide +kernel), List.mem_of_getElem? (i := 662) (by decide +kernel)⟩
theorem lw_p18 : lw_okq (⟨"WindTaken", "rowsThere", "()I"⟩, 10) := ⟨⟨by decide +kernel, by decide +kernel⟩, List.mem_of_getElem? (i := 18) (by decide +kernel), List.mem_of_getElem? (i := 738) (by decide +kernel), List.mem_of_getElem? (i := 739) (by decide +kernel)⟩
theorem lw_p19 : lw_okq (⟨"WindTakenModel", "found", "(II)I"⟩, 21) := ⟨⟨by decide +kernel, by decide +kernel⟩, List.mem_of_getElem? (i := 751) (by decide +kernel), List.mem_of_getElem? (i := 834) (by decide +kernel), List.mem_of_getElem? (i := 835) (by decide +kernel)⟩
theorem lw_p20 : lw_okq (⟨"WindTakenModel", "isMissing", "(I)Z"⟩, 21) := ⟨⟨by decide +kernel, by decide +kernel⟩, List.mem_of_getElem? (i := 751) (by decide +kernel), List.mem_of_getElem? (i := 843) (by decide +kernel), List.mem_of_getElem? (i := 844) (by decide +kernel)⟩
theorem lw_p21 : lw_okq (⟨"WindTakenModel", "readAll", "()Z"⟩, 21) := ⟨⟨by decide +kernel, by decide +kernel⟩, List.mem_of_getElem? (i := 751) (by decide +kernel), List.mem_of_getElem? (i := 874) (by decide +kernel), List.mem_of_getElem? (i := 875) (by decide +kernel)⟩
theorem lw_p22 : lw_okq (⟨"WindTakenModel", "readLaw", "()Z"⟩, 21) := ⟨⟨by decide +kernel, by decide +kernel⟩, List.mem_of_getElem? (i := 751) (by decide +kernel), List.mem_of_getElem? (i := 878) (by decide +kernel), List.mem_of_getElem? (i := 879) (by decide +kernel)⟩
theorem lw_p23 : lw_okq (⟨"WindTakenModel", "nextToken", "()V"⟩, 21) := ⟨⟨by decide +kernel, by decide +kernel⟩, List.mem_of_getElem? (i := 751) (by decide +kernel), List.mem_of_getElem? (i := 882) (by decide +kernel), List.mem_of_getElem? (i := 883) (by decide +kernel)⟩
theorem lw_p24 : lw_okq (⟨"WindTakenModel", "byteAt", "(I)I"⟩, 21) := ⟨⟨by decide +kernel, by decide +kernel⟩, List.mem_of_getElem? (i := 751) (by decide +kernel), List.mem_of_getElem? (i := 886) (by decide +kernel), List.mem_of_getElem? (i := 887) (by decide +kernel)⟩
theorem lw_p25 : lw_okq (⟨"WindTakenModel", "isNumber", "(II)Z"⟩, 21) := ⟨⟨by decide +kernel, by decide +kernel⟩, List.mem_of_getElem? (i := 751) (by decide +kernel), List.mem_of_getElem? (i := 899) (by decide +kernel), List.mem_of_getElem? (i := 900) (by decide +kernel)⟩
theorem lw_p26 : lw_okq (⟨"WindTakenModel", "isEnd", "()Z"⟩, 21) := ⟨⟨by decide +kernel, by decide +kernel⟩, List.mem_of_getElem? (i := 751) (by decide +kernel), List.mem_of_getElem? (i := 903) (by decide +kernel), List.mem_of_getElem? (i := 904) (by decide +kernel)⟩
theorem lw_p27 : lw_okq (⟨"WindTakenModel", "readMill", "()Z"⟩, 21) := ⟨⟨by decide +kernel, by decide +kernel⟩, List.mem_of_getElem? (i := 751) (by decide +kernel), List.mem_of_getElem? (i := 907) (by decide +kernel), List.mem_of_getElem? (i := 908) (by decide +kernel)⟩
theorem lw_p28 : lw_okq (⟨"WindTakenModel", "isTaken", "(IJ)Z"⟩, 21) := ⟨⟨by decide +kernel, by decide +kernel⟩, List.mem_of_getElem? (i := 751) (by decide +kernel), List.mem_of_getElem? (i := 920) (by decide +kernel), List.mem_of_getElem? (i := 921) (by decide +kernel)⟩
theorem lw_p29 : lw_okq (⟨"WindTakenModel", "isMill", "(I)Z"⟩, 21) := ⟨⟨by decide +kernel, by decide +kernel⟩, List.mem_of_getElem? (i := 751) (by decide +kernel), List.mem_of_getElem? (i := 936) (by decide +kernel), List.mem_of_getElem? (i := 937) (by decide +kernel)⟩
theorem lw_p30 : lw_okq (⟨"WindTakenModel", "of", "(II)I"⟩, 21) := ⟨⟨by decide +kernel, by decide +kernel⟩, List.mem_of_getElem? (i := 751) (by decide +kernel), List.mem_of_getElem? (i := 940) (by decide +kernel), List.mem_of_getElem? (i := 941) (by decide +kernel)⟩
theorem lw_p31 : lw_okq (⟨"WindTakenModel", "isNoRidge", "()Z"⟩, 21) := ⟨⟨by decide +kernel, by decide +kernel⟩, List.mem_of_getElem? (i := 751) (by decide +kernel), List.mem_of_getElem? (i := 972) (by decide +kernel), List.mem_of_getElem? (i := 973) (by decide +kernel)⟩
def lw_privs_2 : List (MethodName × Nat) := [(⟨"WindTaken$Quarter", "isShaded", "(LWindTaken$Mill;LWindTaken$Mill;)Z"⟩, 6), (⟨"WindTaken", "nightSet", "(LWindTaken$Quarter;ILWindTaken$Row;I)I"⟩, 10), (⟨"WindTaken", "rowsThere", "()I"⟩, 10), (⟨"WindTakenModel", "found", "(II)I"⟩, 21), (⟨"WindTakenModel", "isMissing", "(I)Z"⟩, 21), (⟨"WindTakenModel", "readAll", "()Z"⟩, 21), (⟨"WindTakenModel", "readLaw", "()Z"⟩, 21), (⟨"WindTakenModel", "nextToken", "()V"⟩, 21), (⟨"WindTakenModel", "byteAt", "(I)I"⟩, 21), (⟨"WindTakenModel", "isNumber", "(II)Z"⟩, 21), (⟨"WindTakenModel", "isEnd", "()Z"⟩, 21), (⟨"WindTakenModel", "readMill", "()Z"⟩, 21), (⟨"WindTakenModel", "isTaken", "(IJ)Z"⟩, 21), (⟨"WindTakenModel", "isMill", "(I)Z"⟩, 21), (⟨"WindTakenModel", "of", "(II)I"⟩, 21), (⟨"WindTakenModel", "isNoRidge", "()Z"⟩, 21)]
theorem lw_r2 : ∀ q ∈ lw_privs_2, lw_okq q := List.forall_mem_cons.mpr ⟨lw_p16, List.forall_mem_cons.mpr ⟨lw_p17, List.forall_mem_cons.mpr ⟨lw_p18, List.forall_mem_cons.mpr ⟨lw_p19, List.forall_mem_cons.mpr ⟨lw_p20, List.forall_mem_cons.mpr ⟨lw_p21, List.forall_mem_cons.mpr ⟨lw_p22, List.forall_mem_cons.mpr ⟨lw_p23, List.forall_mem_cons.mpr ⟨lw_p24, List.forall_mem_cons.mpr ⟨lw_p25, List.forall_mem_cons.mpr ⟨lw_p26, List.forall_mem_cons.mpr ⟨lw_p27, List.forall_mem_cons.mpr ⟨lw_p28, List.forall_mem_cons.mpr ⟨lw_p29, List.forall_mem_cons.mpr ⟨lw_p30, List.forall_mem_cons.mpr ⟨lw_p31, fun _ h => absurd h List.not_mem_nil⟩⟩⟩⟩⟩⟩⟩⟩⟩⟩⟩⟩⟩⟩⟩⟩
theorem lw_p32 : lw_okq (⟨"WindTakenModel", "goHour", "(II)I"⟩, 21) := ⟨⟨by decide +kernel, by decide +kernel⟩, List.mem_of_getElem? (i := 751) (by decide +kernel), List.mem_of_getElem? (i := 980) (by decide +kernel), List.mem_of_getElem? (i := 981) (by decide +kernel)⟩
theorem lw_p33 : lw_okq (⟨"WindTakenModel", "grinds", "(IIIII)I"⟩, 21) := ⟨⟨by decide +kernel, by decide +kernel⟩, List.mem_of_getElem? (i := 751) (by decide +kernel), List.mem_of_getElem? (i := 985) (by decide +kernel), List.mem_of_getElem? (i := 986) (by decide +kernel)⟩
theorem lw_p34 : lw_okq (⟨"WindTakenModel", "grindsFree", "(IIIII)I"⟩, 21) := ⟨⟨by decide +kernel, by decide +kernel⟩, List.mem_of_getElem? (i := 751) (by decide +kernel), List.mem_of_getElem? (i := 989) (by decide +kernel), List.mem_of_getElem? (i := 990) (by decide +kernel)⟩
theorem lw_p35 : lw_okq (⟨"WindTakenModel", "turns", "(III)Z"⟩, 21) := ⟨⟨by decide +kernel, by decide +kernel⟩, List.mem_of_getElem? (i := 751) (by decide +kernel), List.mem_of_getElem? (i := 993) (by decide +kernel), List.mem_of_getElem? (i := 994) (by decide +kernel)⟩
theorem lw_p36 : lw_okq (⟨"WindTakenModel", "leftAt", "(IIIII)I"⟩, 21) := ⟨⟨by decide +kernel, by decide +kernel⟩, List.mem_of_getElem? (i := 751) (by decide +kernel), List.mem_of_getElem? (i := 1000) (by decide +kernel), List.mem_of_getElem? (i := 1001) (by decide +kernel)⟩
theorem lw_p37 : lw_okq (⟨"WindTakenModel", "isBehind", "(IIII)Z"⟩, 21) := ⟨⟨by decide +kernel, by decide +kernel⟩, List.mem_of_getElem? (i := 751) (by decide +kernel), List.mem_of_getElem? (i := 1004) (by decide +kernel), List.mem_of_getElem? (i := 1005) (by decide +kernel)⟩
theorem lw_p38 : lw_okq (⟨"WindTakenModel", "takes", "(III)Z"⟩, 21) := ⟨⟨by decide +kernel, by decide +kernel⟩, List.mem_of_getElem? (i := 751) (by decide +kernel), List.mem_of_getElem? (i := 1009) (by decide +kernel), List.mem_of_getElem? (i := 1010) (by decide +kernel)⟩
theorem lw_p39 : lw_okq (⟨"WindTakenModel", "madeBy", "(III)I"⟩, 21) := ⟨⟨by decide +kernel, by decide +kernel⟩, List.mem_of_getElem? (i := 751) (by decide +kernel), List.mem_of_getElem? (i := 1026) (by decide +kernel), List.mem_of_getElem? (i := 1027) (by decide +kernel)⟩
theorem lw_p40 : lw_okq (⟨"WindTakenModel", "bestSet", "(II)I"⟩, 21) := ⟨⟨by decide +kernel, by decide +kernel⟩, List.mem_of_getElem? (i := 751) (by decide +kernel), List.mem_of_getElem? (i := 1034) (by decide +kernel), List.mem_of_getElem? (i := 1035) (by decide +kernel)⟩
theorem lw_p41 : lw_okq (⟨"WindTakenModel", "loses", "(IIII)I"⟩, 21) := ⟨⟨by decide +kernel, by decide +kernel⟩, List.mem_of_getElem? (i := 751) (by decide +kernel), List.mem_of_getElem? (i := 1045) (by decide +kernel), List.mem_of_getElem? (i := 1046) (by decide +kernel)⟩
theorem lw_p42 : lw_okq (⟨"WindTakenModel", "othersBy", "(IIIII)I"⟩, 21) := ⟨⟨by decide +kernel, by decide +kernel⟩, List.mem_of_getElem? (i := 751) (by decide +kernel), List.mem_of_getElem? (i := 1057) (by decide +kernel), List.mem_of_getElem? (i := 1058) (by decide +kernel)⟩
theorem lw_p43 : lw_okq (⟨"WindTakenModel", "isNight", "(IIIII)Z"⟩, 21) := ⟨⟨by decide +kernel, by decide +kernel⟩, List.mem_of_getElem? (i := 751) (by decide +kernel), List.mem_of_getElem? (i := 1069) (by decide +kernel), List.mem_of_getElem? (i := 1070) (by decide +kernel)⟩
theorem lw_p44 : lw_okq (⟨"WindTakenModel", "size", "(I)I"⟩, 21) := ⟨⟨by decide +kernel, by decide +kernel⟩, List.mem_of_getElem? (i := 751) (by decide +kernel), List.mem_of_getElem? (i := 1107) (by decide +kernel), List.mem_of_getElem? (i := 1108) (by decide +kernel)⟩
theorem lw_p45 : lw_okq (⟨"WindTakenModel", "leave", "(I)V"⟩, 21) := ⟨⟨by decide +kernel, by decide +kernel⟩, List.mem_of_getElem? (i := 751) (by decide +kernel), List.mem_of_getElem? (i := 1111) (by decide +kernel), List.mem_of_getElem? (i := 1112) (by decide +kernel)⟩
theorem lw_p46 : lw_okq (⟨"WindTakenModel", "sizeOfFixed", "(I)I"⟩, 21) := ⟨⟨by decide +kernel, by decide +kernel⟩, List.mem_of_getElem? (i := 751) (by decide +kernel), List.mem_of_getElem? (i := 1115) (by decide +kernel), List.mem_of_getElem? (i := 1116) (by decide +kernel)⟩
theorem lw_p47 : lw_okq (⟨"WindTakenModel", "sizeOfMill", "(I)I"⟩, 21) := ⟨⟨by decide +kernel, by decide +kernel⟩, List.mem_of_getElem? (i := 751) (by decide +kernel), List.mem_of_getElem? (i := 1119) (by decide +kernel), List.mem_of_getElem? (i := 1120) (by decide +kernel)⟩
def lw_privs_3 : List (MethodName × Nat) := [(⟨"WindTakenModel", "goHour", "(II)I"⟩, 21), (⟨"WindTakenModel", "grinds", "(IIIII)I"⟩, 21), (⟨"WindTakenModel", "grindsFree", "(IIIII)I"⟩, 21), (⟨"WindTakenModel", "turns", "(III)Z"⟩, 21), (⟨"WindTakenModel", "leftAt", "(IIIII)I"⟩, 21), (⟨"WindTakenModel", "isBehind", "(IIII)Z"⟩, 21), (⟨"WindTakenModel", "takes", "(III)Z"⟩, 21), (⟨"WindTakenModel", "madeBy", "(III)I"⟩, 21), (⟨"WindTakenModel", "bestSet", "(II)I"⟩, 21), (⟨"WindTakenModel", "loses", "(IIII)I"⟩, 21), (⟨"WindTakenModel", "othersBy", "(IIIII)I"⟩, 21), (⟨"WindTakenModel", "isNight", "(IIIII)Z"⟩, 21), (⟨"WindTakenModel", "size", "(I)I"⟩, 21), (⟨"WindTakenModel", "leave", "(I)V"⟩, 21), (⟨"WindTakenModel", "sizeOfFixed", "(I)I"⟩, 21), (⟨"WindTakenModel", "sizeOfMill", "(I)I"⟩, 21)]
theorem lw_r3 : ∀ q ∈ lw_privs_3, lw_okq q := List.forall_mem_cons.mpr ⟨lw_p32, List.forall_mem_cons.mpr ⟨lw_p33, List.forall_mem_cons.mpr ⟨lw_p34, List.forall_mem_cons.mpr ⟨lw_p35, List.forall_mem_cons.mpr ⟨lw_p36, List.forall_mem_cons.mpr ⟨lw_p37, List.forall_mem_cons.mpr ⟨lw_p38, List.forall_mem_cons.mpr ⟨lw_p39, List.forall_mem_cons.mpr ⟨lw_p40, List.forall_mem_cons.mpr ⟨lw_p41, List.forall_mem_cons.mpr ⟨lw_p42, List.forall_mem_cons.mpr ⟨lw_p43, List.forall_mem_cons.mpr ⟨lw_p44, List.forall_mem_cons.mpr ⟨lw_p45, List.forall_mem_cons.mpr ⟨lw_p46, List.forall_mem_cons.mpr ⟨lw_p47, fun _ h => absurd h List.not_mem_nil⟩⟩⟩⟩⟩⟩⟩⟩⟩⟩⟩⟩⟩⟩⟩⟩
theorem lw_p48 : lw_okq (⟨"WindTakenModel", "mark", "(I)I"⟩, 21) := ⟨⟨by decide +kernel, by decide +kernel⟩, List.mem_of_getElem? (i := 751) (by decide +kernel), List.mem_of_getElem? (i := 1123) (by decide +kernel), List.mem_of_getElem? (i := 1124) (by decide +kernel)⟩
theorem lw_p49 : lw_okq (⟨"WindTakenModel", "markOfHooded", "(I)I"⟩, 21) := ⟨⟨by decide +kernel, by decide +kernel⟩, List.mem_of_getElem? (i := 751) (by decide +kernel), List.mem_of_getElem? (i := 1127) (by decide +kernel), List.mem_of_getElem? (i := 1128) (by decide +kernel)⟩
theorem lw_p50 : lw_okq (⟨"WindTakenModel", "markOfFixed", "(I)I"⟩, 21) := ⟨⟨by decide +kernel, by decide +kernel⟩, List.mem_of_getElem? (i := 751) (by decide +kernel), List.mem_of_getElem? (i := 1131) (by decide +kernel), List.mem_of_getElem? (i := 1132) (by decide +kernel)⟩
theorem lw_p51 : lw_okq (⟨"WindTakenModel", "sizeOfWater", "(I)I"⟩, 21) := ⟨⟨by decide +kernel, by decide +kernel⟩, List.mem_of_getElem? (i := 751) (by decide +kernel), List.mem_of_getElem? (i := 1135) (by decide +kernel), List.mem_of_getElem? (i := 1136) (by decide +kernel)⟩
def lw_privs_4 : List (MethodName × Nat) := [(⟨"WindTakenModel", "mark", "(I)I"⟩, 21), (⟨"WindTakenModel", "markOfHooded", "(I)I"⟩, 21), (⟨"WindTakenModel", "markOfFixed", "(I)I"⟩, 21), (⟨"WindTakenModel", "sizeOfWater", "(I)I"⟩, 21)]
theorem lw_r4 : ∀ q ∈ lw_privs_4, lw_okq q := List.forall_mem_cons.mpr ⟨lw_p48, List.forall_mem_cons.mpr ⟨lw_p49, List.forall_mem_cons.mpr ⟨lw_p50, List.forall_mem_cons.mpr ⟨lw_p51, fun _ h => absurd h List.not_mem_nil⟩⟩⟩⟩
def lw_privs : List (MethodName × Nat) := lw_privs_1 ++ (lw_privs_2 ++ (lw_privs_3 ++ (lw_privs_4)))
def lw_tbl : List Cond := k2_sels lw_privs ++ tables_1
theorem lw_privs_ok : ∀ q ∈ lw_privs, lw_okq q := by
  show ∀ q ∈ lw_privs_1 ++ (lw_privs_2 ++ (lw_privs_3 ++ (lw_privs_4))), lw_okq q
  exact List.forall_mem_append.mpr ⟨lw_r1, List.forall_mem_append.mpr ⟨lw_r2, List.forall_mem_append.mpr ⟨lw_r3, lw_r4⟩⟩⟩
end
section
/-! ===== BEGIN words of one list among another's, by their places ===== -/
theorem goodIn_r {big : List Cond} (ws : List Cond) (ps : List Nat) (hp : ws = ps.filterMap (fun i => big[i]?)) (h : ws.all goodWord = true) : GoodIn big ws := by
  intro w hw
  have h1 := List.all_eq_true.mp h w hw
  rw [hp] at hw
  obtain ⟨i, -, hi⟩ := List.mem_filterMap.mp hw
  have hm : w ∈ big := by first | exact List.mem_of_getElem? hi | exact List.getElem?_mem hi
  exact ⟨hm, good_of_word h1⟩
theorem goodIn_app {big a b : List Cond} (ha : GoodIn big a) (hb : GoodIn big b) : GoodIn big (a ++ b) := fun w h => (List.mem_append.mp h).elim (ha w) (hb w)
theorem goodIn_ca {big a b : List Cond} {c : Cond} (ha : GoodIn big (c :: a)) (hb : GoodIn big b) : GoodIn big (c :: (a ++ b)) := fun w h => (List.mem_cons.mp h).elim (fun e => ha w (List.mem_cons.mpr (Or.inl e))) (fun h => (List.mem_append.mp h).elim (fun h => ha w (List.mem_cons.mpr (Or.inr h))) (hb w))
theorem goodIn_sub {big ws : List Cond} (hm : ∀ w ∈ ws, w ∈ big) (h : ws.all goodWord = true) : GoodIn big ws := fun w hw => ⟨hm w hw, good_of_word (List.all_eq_true.mp h w hw)⟩
/-! ===== END ===== -/

/-! ===== BEGIN printed: names, fields, word lists, decode rows ===== -/
def RX0 : String := "WindTaken$Mill"
def TX0 : u_T := fun k => match k with
  | 0 => ("WindTaken$Mill", "number", "I", false)
  | 1 => ("WindTaken$Mill", "kind", "I", false)
  | 2 => ("WindTaken$Mill", "x", "I", false)
  | 3 => ("WindTaken$Mill", "y", "I", false)
  | 4 => ("WindTaken$Mill", "floors", "I", false)
  | 5 => ("WindTaken$Mill", "sails", "I", false)
  | 6 => ("WindTaken$Mill", "age", "I", false)
  | 7 => ("WindTaken$Mill", "corn", "I", false)
  | 8 => ("WindTaken$Mill", "flour", "I", false)
  | 9 => ("WindTaken$Mill", "wear", "I", false)
  | 10 => ("WindTaken$Mill", "facing", "I", false)
  | _ => ("WindTaken$Mill", "furled", "Z", false)
def tyX0 : Nat → FieldType := fun k => match k with
  | 0 => .int
  | 1 => .int
  | 2 => .int
  | 3 => .int
  | 4 => .int
  | 5 => .int
  | 6 => .int
  | 7 => .int
  | 8 => .int
  | 9 => .int
  | 10 => .int
  | _ => .boolean
abbrev wsX00 : List Cond := u_ws RX0 TX0 12
theorem nmX0 : ∀ a, a < 12 → ∀ b, b < 12 → a ≠ b → (TX0 a).2.1 ≠ (TX0 b).2.1 := by decide +kernel
theorem tyX0_ok : ∀ k, k < 12 → parseFieldDescriptor (TX0 k).2.2.1 = some (tyX0 k) := by decide +kernel
abbrev cX0_init : ByteArray := prog_2_method_1_code
def yX0_init : MethodName := ⟨RX0, "<init>", "()V"⟩
abbrev cX0_begin : ByteArray := prog_2_method_2_code
def yX0_begin : MethodName := ⟨RX0, "begin", "(II)V"⟩
abbrev cX0_become : ByteArray := prog_2_method_3_code
def yX0_become : MethodName := ⟨RX0, "become", "(LWindTaken$Mill;)V"⟩
abbrev cX0_turnsIn : ByteArray := prog_2_method_4_code
def yX0_turnsIn : MethodName := ⟨RX0, "turnsIn", "(I)Z"⟩
def RX1 : String := "WindTaken$Quarter"
def TX1 : u_T := fun k => match k with
  | 0 => ("WindTaken$Quarter", "behind", "[I", true)
  | 1 => ("WindTaken$Quarter", "after", "[I", true)
  | 2 => ("WindTaken$Quarter", "ridge", "LWindTaken$Ridge;", true)
  | 3 => ("WindTaken$Quarter", "q", "I", true)
  | 4 => ("WindTaken$Quarter", "turning", "I", false)
  | _ => ("WindTaken$Quarter", "taking", "I", false)
def tyX1 : Nat → FieldType := fun k => match k with
  | 0 => .array .int
  | 1 => .array .int
  | 2 => .object "WindTaken$Ridge"
  | 3 => .int
  | 4 => .int
  | _ => .int
abbrev wsX10 : List Cond := u_ws RX1 TX1 6
theorem nmX1 : ∀ a, a < 6 → ∀ b, b < 6 → a ≠ b → (TX1 a).2.1 ≠ (TX1 b).2.1 := by decide +kernel
theorem tyX1_ok : ∀ k, k < 6 → parseFieldDescriptor (TX1 k).2.2.1 = some (tyX1 k) := by decide +kernel
abbrev cX1_init : ByteArray := prog_3_method_1_code
def yX1_init : MethodName := ⟨RX1, "<init>", "(LWindTaken$Ridge;I)V"⟩
abbrev cX1_survey : ByteArray := prog_3_method_2_code
def yX1_survey : MethodName := ⟨RX1, "survey", "(I)V"⟩
abbrev cX1_floorsOf : ByteArray := prog_3_method_3_code
def yX1_floorsOf : MethodName := ⟨RX1, "floorsOf", "(II)I"⟩
abbrev cX1_isShaded : ByteArray := prog_3_method_4_code
def yX1_isShaded : MethodName := ⟨RX1, "isShaded", "(LWindTaken$Mill;LWindTaken$Mill;)Z"⟩
abbrev cX1_isAhead : ByteArray := prog_3_method_5_code
def yX1_isAhead : MethodName := ⟨RX1, "isAhead", "(II)Z"⟩
abbrev cX1_blow : ByteArray := prog_3_method_6_code
def yX1_blow : MethodName := ⟨RX1, "blow", "(I)V"⟩
abbrev cX1_windLeft : ByteArray := prog_3_method_7_code
def yX1_windLeft : MethodName := ⟨RX1, "windLeft", "(II)I"⟩
abbrev cX1_strengthOf : ByteArray := prog_3_method_8_code
def yX1_strengthOf : MethodName := ⟨RX1, "strengthOf", "(II)I"⟩
abbrev cX1_strengthOfAll : ByteArray := prog_3_method_9_code
def yX1_strengthOfAll : MethodName := ⟨RX1, "strengthOfAll", "()I"⟩
abbrev cX1_grindsBy : ByteArray := prog_3_method_10_code
def yX1_grindsBy : MethodName := ⟨RX1, "grindsBy", "(II)I"⟩
abbrev cX1_madeBy : ByteArray := prog_3_method_11_code
def yX1_madeBy : MethodName := ⟨RX1, "madeBy", "(I)I"⟩
abbrev cX1_gainBy : ByteArray := prog_3_method_12_code
def yX1_gainBy : MethodName := ⟨RX1, "gainBy", "(II)I"⟩
abbrev cX1_lossBy : ByteArray := prog_3_method_13_code
def yX1_lossBy : MethodName := ⟨RX1, "lossBy", "(II)I"⟩
abbrev cX1_wearOf : ByteArray := prog_3_method_14_code
def yX1_wearOf : MethodName := ⟨RX1, "wearOf", "(I)I"⟩
abbrev cX1_takesFrom : ByteArray := prog_3_method_15_code
def yX1_takesFrom : MethodName := ⟨RX1, "takesFrom", "(II)Z"⟩
abbrev cX1_bestSet : ByteArray := prog_3_method_16_code
def yX1_bestSet : MethodName := ⟨RX1, "bestSet", "()I"⟩
abbrev cX1_wouldGrind : ByteArray := prog_3_method_17_code
def yX1_wouldGrind : MethodName := ⟨RX1, "wouldGrind", "([III)Z"⟩
def RX2 : String := "WindTaken$Reader"
def TX2 : u_T := fun k => match k with
  | 0 => ("WindTaken$Reader", "tape", "LWindTaken$Tape;", true)
  | 1 => ("WindTaken$Reader", "token", "I", false)
  | 2 => ("WindTaken$Reader", "start", "I", false)
  | 3 => ("WindTaken$Reader", "end", "I", false)
  | 4 => ("WindTaken$Reader", "number", "I", false)
  | 5 => ("WindTaken$Reader", "fault", "I", false)
  | _ => ("WindTaken$Reader", "faultPlace", "I", false)
def tyX2 : Nat → FieldType := fun k => match k with
  | 0 => .object "WindTaken$Tape"
  | 1 => .int
  | 2 => .int
  | 3 => .int
  | 4 => .int
  | 5 => .int
  | _ => .int
abbrev wsX20 : List Cond := u_ws RX2 TX2 7
theorem nmX2 : ∀ a, a < 7 → ∀ b, b < 7 → a ≠ b → (TX2 a).2.1 ≠ (TX2 b).2.1 := by decide +kernel
theorem tyX2_ok : ∀ k, k < 7 → parseFieldDescriptor (TX2 k).2.2.1 = some (tyX2 k) := by decide +kernel
abbrev cX2_init : ByteArray := prog_4_method_1_code
def yX2_init : MethodName := ⟨RX2, "<init>", "(LWindTaken$Tape;)V"⟩
abbrev cX2_read : ByteArray := prog_4_method_2_code
def yX2_read : MethodName := ⟨RX2, "read", "(LWindTaken$Ridge;)I"⟩
abbrev cX2_readLaw : ByteArray := prog_4_method_3_code
def yX2_readLaw : MethodName := ⟨RX2, "readLaw", "(LWindTaken$Ridge;)V"⟩
abbrev cX2_readMill : ByteArray := prog_4_method_4_code
def yX2_readMill : MethodName := ⟨RX2, "readMill", "(LWindTaken$Ridge;)V"⟩
abbrev cX2_refuse : ByteArray := prog_4_method_5_code
def yX2_refuse : MethodName := ⟨RX2, "refuse", "(I)V"⟩
abbrev cX2_takeName : ByteArray := prog_4_method_6_code
def yX2_takeName : MethodName := ⟨RX2, "takeName", "(Ljava/lang/String;)V"⟩
abbrev cX2_takeSign : ByteArray := prog_4_method_7_code
def yX2_takeSign : MethodName := ⟨RX2, "takeSign", "()V"⟩
abbrev cX2_takeSort : ByteArray := prog_4_method_8_code
def yX2_takeSort : MethodName := ⟨RX2, "takeSort", "()I"⟩
abbrev cX2_takeNumber : ByteArray := prog_4_method_9_code
def yX2_takeNumber : MethodName := ⟨RX2, "takeNumber", "(II)I"⟩
abbrev cX2_take : ByteArray := prog_4_method_10_code
def yX2_take : MethodName := ⟨RX2, "take", "(Z)V"⟩
abbrev cX2_isName : ByteArray := prog_4_method_11_code
def yX2_isName : MethodName := ⟨RX2, "isName", "(Ljava/lang/String;)Z"⟩
abbrev cX2_step : ByteArray := prog_4_method_12_code
def yX2_step : MethodName := ⟨RX2, "step", "()V"⟩
abbrev cX2_sortName : ByteArray := prog_4_method_13_code
def yX2_sortName : MethodName := ⟨RX2, "sortName", "(I)Ljava/lang/String;"⟩
def RX3 : String := "WindTaken$Ridge"
def TX3 : u_T := fun k => match k with
  | 0 => ("WindTaken$Ridge", "mills", "[LWindTaken$Mill;", true)
  | 1 => ("WindTaken$Ridge", "count", "I", false)
  | 2 => ("WindTaken$Ridge", "gone", "I", false)
  | 3 => ("WindTaken$Ridge", "take", "I", false)
  | 4 => ("WindTaken$Ridge", "due", "I", false)
  | _ => ("WindTaken$Ridge", "price", "I", false)
def tyX3 : Nat → FieldType := fun k => match k with
  | 0 => .array (.object "WindTaken$Mill")
  | 1 => .int
  | 2 => .int
  | 3 => .int
  | 4 => .int
  | _ => .int
abbrev wsX30 : List Cond := u_ws RX3 TX3 6
theorem nmX3 : ∀ a, a < 6 → ∀ b, b < 6 → a ≠ b → (TX3 a).2.1 ≠ (TX3 b).2.1 := by decide +kernel
theorem tyX3_ok : ∀ k, k < 6 → parseFieldDescriptor (TX3 k).2.2.1 = some (tyX3 k) := by decide +kernel
abbrev cX3_init : ByteArray := prog_5_method_1_code
def yX3_init : MethodName := ⟨RX3, "<init>", "()V"⟩
abbrev cX3_isNone : ByteArray := prog_5_method_2_code
def yX3_isNone : MethodName := ⟨RX3, "isNone", "()Z"⟩
abbrev cX3_has : ByteArray := prog_5_method_3_code
def yX3_has : MethodName := ⟨RX3, "has", "(I)Z"⟩
abbrev cX3_become : ByteArray := prog_5_method_4_code
def yX3_become : MethodName := ⟨RX3, "become", "(LWindTaken$Ridge;)V"⟩
abbrev cX3_isTaken : ByteArray := prog_5_method_5_code
def yX3_isTaken : MethodName := ⟨RX3, "isTaken", "(II)Z"⟩
abbrev cX3_furledSet : ByteArray := prog_5_method_6_code
def yX3_furledSet : MethodName := ⟨RX3, "furledSet", "()I"⟩
abbrev cX3_flourInAll : ByteArray := prog_5_method_7_code
def yX3_flourInAll : MethodName := ⟨RX3, "flourInAll", "()I"⟩
def RX4 : String := "WindTaken$Row"
def TX4 : u_T := fun k => match k with
  | 0 => ("WindTaken$Row", "items", "[I", true)
  | 1 => ("WindTaken$Row", "lane", "I", false)
  | _ => ("WindTaken$Row", "size", "I", false)
def tyX4 : Nat → FieldType := fun k => match k with
  | 0 => .array .int
  | 1 => .int
  | _ => .int
abbrev wsX40 : List Cond := u_ws RX4 TX4 3
theorem nmX4 : ∀ a, a < 3 → ∀ b, b < 3 → a ≠ b → (TX4 a).2.1 ≠ (TX4 b).2.1 := by decide +kernel
theorem tyX4_ok : ∀ k, k < 3 → parseFieldDescriptor (TX4 k).2.2.1 = some (tyX4 k) := by decide +kernel
abbrev cX4_init : ByteArray := prog_6_method_1_code
def yX4_init : MethodName := ⟨RX4, "<init>", "()V"⟩
abbrev cX4_isMissing : ByteArray := prog_6_method_2_code
def yX4_isMissing : MethodName := ⟨RX4, "isMissing", "()Z"⟩
abbrev cX4_lay : ByteArray := prog_6_method_3_code
def yX4_lay : MethodName := ⟨RX4, "lay", "(II)V"⟩
abbrev cX4_covers : ByteArray := prog_6_method_4_code
def yX4_covers : MethodName := ⟨RX4, "covers", "(II)Z"⟩
abbrev cX4_put : ByteArray := prog_6_method_5_code
def yX4_put : MethodName := ⟨RX4, "put", "(II)I"⟩
abbrev cX4_narrowed : ByteArray := prog_6_method_6_code
def yX4_narrowed : MethodName := ⟨RX4, "narrowed", "(I)I"⟩
def RX5 : String := "WindTaken$Tape"
def TX5 : u_T := fun k => match k with
  | 0 => ("WindTaken$Tape", "bytes", "[B", true)
  | _ => ("WindTaken$Tape", "length", "I", false)
def tyX5 : Nat → FieldType := fun k => match k with
  | 0 => .array .byte
  | _ => .int
abbrev wsX50 : List Cond := u_ws RX5 TX5 2
theorem nmX5 : ∀ a, a < 2 → ∀ b, b < 2 → a ≠ b → (TX5 a).2.1 ≠ (TX5 b).2.1 := by decide +kernel
theorem tyX5_ok : ∀ k, k < 2 → parseFieldDescriptor (TX5 k).2.2.1 = some (tyX5 k) := by decide +kernel
abbrev cX5_init : ByteArray := prog_7_method_1_code
def yX5_init : MethodName := ⟨RX5, "<init>", "()V"⟩
abbrev cX5_append : ByteArray := prog_7_method_2_code
def yX5_append : MethodName := ⟨RX5, "append", "(JI)V"⟩
abbrev cX5_blanksEnd : ByteArray := prog_7_method_3_code
def yX5_blanksEnd : MethodName := ⟨RX5, "blanksEnd", "(I)I"⟩
abbrev cX5_lettersEnd : ByteArray := prog_7_method_4_code
def yX5_lettersEnd : MethodName := ⟨RX5, "lettersEnd", "(I)I"⟩
abbrev cX5_figuresEnd : ByteArray := prog_7_method_5_code
def yX5_figuresEnd : MethodName := ⟨RX5, "figuresEnd", "(I)I"⟩
abbrev cX5_valueOf : ByteArray := prog_7_method_6_code
def yX5_valueOf : MethodName := ⟨RX5, "valueOf", "(II)I"⟩
abbrev cX5_tells : ByteArray := prog_7_method_7_code
def yX5_tells : MethodName := ⟨RX5, "tells", "(Ljava/lang/String;II)Z"⟩
def RX6 : String := "WindTaken$Trace"
def TX6 : u_T := fun k => match k with
  | 0 => ("WindTaken$Trace", "numbers", "[I", true)
  | _ => ("WindTaken$Trace", "length", "I", false)
def tyX6 : Nat → FieldType := fun k => match k with
  | 0 => .array .int
  | _ => .int
abbrev wsX60 : List Cond := u_ws RX6 TX6 2
theorem nmX6 : ∀ a, a < 2 → ∀ b, b < 2 → a ≠ b → (TX6 a).2.1 ≠ (TX6 b).2.1 := by decide +kernel
theorem tyX6_ok : ∀ k, k < 2 → parseFieldDescriptor (TX6 k).2.2.1 = some (tyX6 k) := by decide +kernel
abbrev cX6_init : ByteArray := prog_8_method_1_code
def yX6_init : MethodName := ⟨RX6, "<init>", "()V"⟩
abbrev cX6_leave : ByteArray := prog_8_method_2_code
def yX6_leave : MethodName := ⟨RX6, "leave", "(I)V"⟩
def RX7 : String := "WindTaken"
def TX7 : u_T := fun k => match k with
  | 0 => ("WindTaken", "rows", "[LWindTaken$Row;", true)
  | 1 => ("WindTaken", "tape", "LWindTaken$Tape;", true)
  | 2 => ("WindTaken", "reader", "LWindTaken$Reader;", true)
  | 3 => ("WindTaken", "ridge", "LWindTaken$Ridge;", true)
  | 4 => ("WindTaken", "draft", "LWindTaken$Ridge;", true)
  | 5 => ("WindTaken", "images", "[LWindTaken$Ridge;", true)
  | 6 => ("WindTaken", "quarters", "[LWindTaken$Quarter;", true)
  | 7 => ("WindTaken", "trace", "LWindTaken$Trace;", true)
  | 8 => ("WindTaken", "fault", "I", false)
  | _ => ("WindTaken", "status", "I", false)
def tyX7 : Nat → FieldType := fun k => match k with
  | 0 => .array (.object "WindTaken$Row")
  | 1 => .object "WindTaken$Tape"
  | 2 => .object "WindTaken$Reader"
  | 3 => .object "WindTaken$Ridge"
  | 4 => .object "WindTaken$Ridge"
  | 5 => .array (.object "WindTaken$Ridge")
  | 6 => .array (.object "WindTaken$Quarter")
  | 7 => .object "WindTaken$Trace"
  | 8 => .int
  | _ => .int
abbrev wsX70 : List Cond := u_ws RX7 TX7 10
theorem nmX7 : ∀ a, a < 10 → ∀ b, b < 10 → a ≠ b → (TX7 a).2.1 ≠ (TX7 b).2.1 := by decide +kernel
theorem tyX7_ok : ∀ k, k < 10 → parseFieldDescriptor (TX7 k).2.2.1 = some (tyX7 k) := by decide +kernel
abbrev cX7_init : ByteArray := prog_1_method_1_code
def yX7_init : MethodName := ⟨RX7, "<init>", "()V"⟩
abbrev cX7_row : ByteArray := prog_1_method_2_code
def yX7_row : MethodName := ⟨RX7, "row", "(III)I"⟩
abbrev cX7_set : ByteArray := prog_1_method_3_code
def yX7_set : MethodName := ⟨RX7, "set", "(III)I"⟩
abbrev cX7_copy : ByteArray := prog_1_method_4_code
def yX7_copy : MethodName := ⟨RX7, "copy", "(IIIII)I"⟩
abbrev cX7_drop : ByteArray := prog_1_method_5_code
def yX7_drop : MethodName := ⟨RX7, "drop", "(I)I"⟩
abbrev cX7_feed : ByteArray := prog_1_method_6_code
def yX7_feed : MethodName := ⟨RX7, "feed", "(JI)I"⟩
abbrev cX7_ridge : ByteArray := prog_1_method_7_code
def yX7_ridge : MethodName := ⟨RX7, "ridge", "()I"⟩
abbrev cX7_fault : ByteArray := prog_1_method_8_code
def yX7_fault : MethodName := ⟨RX7, "fault", "()I"⟩
abbrev cX7_furl : ByteArray := prog_1_method_9_code
def yX7_furl : MethodName := ⟨RX7, "furl", "(II)I"⟩
abbrev cX7_face : ByteArray := prog_1_method_10_code
def yX7_face : MethodName := ⟨RX7, "face", "(II)I"⟩
abbrev cX7_build : ByteArray := prog_1_method_11_code
def yX7_build : MethodName := ⟨RX7, "build", "(I)I"⟩
abbrev cX7_bring : ByteArray := prog_1_method_12_code
def yX7_bring : MethodName := ⟨RX7, "bring", "(II)I"⟩
abbrev cX7_hour : ByteArray := prog_1_method_13_code
def yX7_hour : MethodName := ⟨RX7, "hour", "(II)I"⟩
abbrev cX7_hours : ByteArray := prog_1_method_14_code
def yX7_hours : MethodName := ⟨RX7, "hours", "(III)I"⟩
abbrev cX7_mill : ByteArray := prog_1_method_15_code
def yX7_mill : MethodName := ⟨RX7, "mill", "(II)I"⟩
abbrev cX7_left : ByteArray := prog_1_method_16_code
def yX7_left : MethodName := ⟨RX7, "left", "(IIII)I"⟩
abbrev cX7_made : ByteArray := prog_1_method_17_code
def yX7_made : MethodName := ⟨RX7, "made", "(III)I"⟩
abbrev cX7_best : ByteArray := prog_1_method_18_code
def yX7_best : MethodName := ⟨RX7, "best", "(III)I"⟩
abbrev cX7_part : ByteArray := prog_1_method_19_code
def yX7_part : MethodName := ⟨RX7, "part", "(III)I"⟩
abbrev cX7_still : ByteArray := prog_1_method_20_code
def yX7_still : MethodName := ⟨RX7, "still", "(IIIII)I"⟩
abbrev cX7_higher : ByteArray := prog_1_method_21_code
def yX7_higher : MethodName := ⟨RX7, "higher", "(IIII)I"⟩
abbrev cX7_owes : ByteArray := prog_1_method_22_code
def yX7_owes : MethodName := ⟨RX7, "owes", "(IIII)I"⟩
abbrev cX7_night : ByteArray := prog_1_method_23_code
def yX7_night : MethodName := ⟨RX7, "night", "(IIIII)I"⟩
abbrev cX7_years : ByteArray := prog_1_method_24_code
def yX7_years : MethodName := ⟨RX7, "years", "(III)I"⟩
abbrev cX7_image : ByteArray := prog_1_method_25_code
def yX7_image : MethodName := ⟨RX7, "image", "(I)I"⟩
abbrev cX7_restore : ByteArray := prog_1_method_26_code
def yX7_restore : MethodName := ⟨RX7, "restore", "(I)I"⟩
abbrev cX7_kind : ByteArray := prog_1_method_27_code
def yX7_kind : MethodName := ⟨RX7, "kind", "(I)I"⟩
abbrev cX7_as : ByteArray := prog_1_method_28_code
def yX7_as : MethodName := ⟨RX7, "as", "(II)I"⟩
abbrev cX7_ask : ByteArray := prog_1_method_29_code
def yX7_ask : MethodName := ⟨RX7, "ask", "(II)I"⟩
abbrev cX7_trace : ByteArray := prog_1_method_30_code
def yX7_trace : MethodName := ⟨RX7, "trace", "(I)I"⟩
abbrev cX7_count : ByteArray := prog_1_method_31_code
def yX7_count : MethodName := ⟨RX7, "count", "(I)I"⟩
abbrev cX7_status : ByteArray := prog_1_method_32_code
def yX7_status : MethodName := ⟨RX7, "status", "()I"⟩
abbrev cX7_found : ByteArray := prog_1_method_33_code
def yX7_found : MethodName := ⟨RX7, "found", "(I)I"⟩
abbrev cX7_unfound : ByteArray := prog_1_method_34_code
def yX7_unfound : MethodName := ⟨RX7, "unfound", "(I)I"⟩
abbrev cX7_isWithin : ByteArray := prog_1_method_35_code
def yX7_isWithin : MethodName := ⟨RX7, "isWithin", "(III)Z"⟩
abbrev cX7_isRow : ByteArray := prog_1_method_36_code
def yX7_isRow : MethodName := ⟨RX7, "isRow", "(I)Z"⟩
abbrev cX7_isQuarter : ByteArray := prog_1_method_37_code
def yX7_isQuarter : MethodName := ⟨RX7, "isQuarter", "(I)Z"⟩
abbrev cX7_isWind : ByteArray := prog_1_method_38_code
def yX7_isWind : MethodName := ⟨RX7, "isWind", "(II)Z"⟩
abbrev cX7_bit : ByteArray := prog_1_method_39_code
def yX7_bit : MethodName := ⟨RX7, "bit", "(Z)I"⟩
abbrev cX7_quarterOf : ByteArray := prog_1_method_40_code
def yX7_quarterOf : MethodName := ⟨RX7, "quarterOf", "(I)I"⟩
abbrev cX7_strengthOf : ByteArray := prog_1_method_41_code
def yX7_strengthOf : MethodName := ⟨RX7, "strengthOf", "(I)I"⟩
abbrev cX7_rowsThere : ByteArray := prog_1_method_42_code
def yX7_rowsThere : MethodName := ⟨RX7, "rowsThere", "()I"⟩
abbrev cX7_windOf : ByteArray := prog_1_method_43_code
def yX7_windOf : MethodName := ⟨RX7, "windOf", "(II)LWindTaken$Quarter;"⟩
abbrev cX7_pass : ByteArray := prog_1_method_44_code
def yX7_pass : MethodName := ⟨RX7, "pass", "(II)I"⟩
abbrev cX7_nightSet : ByteArray := prog_1_method_45_code
def yX7_nightSet : MethodName := ⟨RX7, "nightSet", "(LWindTaken$Quarter;ILWindTaken$Row;I)I"⟩
abbrev cX7_isKind : ByteArray := prog_1_method_46_code
def yX7_isKind : MethodName := ⟨RX7, "isKind", "(II)Z"⟩
abbrev cX7_sizeBody : ByteArray := prog_1_method_47_code
def yX7_sizeBody : MethodName := ⟨RX7, "sizeBody", "(LWindTaken$Mill;)I"⟩
abbrev cX7_markBody : ByteArray := prog_1_method_48_code
def yX7_markBody : MethodName := ⟨RX7, "markBody", "(LWindTaken$Mill;)I"⟩
abbrev cX7_gives : ByteArray := prog_1_method_49_code
def yX7_gives : MethodName := ⟨RX7, "gives", "(ILWindTaken$Mill;LWindTaken$Trace;I)I"⟩
def RX8 : String := "WindTakenModel"
def TX8 : u_T := fun k => match k with
  | 0 => ("WindTakenModel", "lanes", "[I", true)
  | 1 => ("WindTakenModel", "sizes", "[I", true)
  | 2 => ("WindTakenModel", "items", "[I", true)
  | 3 => ("WindTakenModel", "status", "I", false)
  | 4 => ("WindTakenModel", "tapeLong", "I", false)
  | 5 => ("WindTakenModel", "tape", "[I", true)
  | 6 => ("WindTakenModel", "fault", "I", false)
  | 7 => ("WindTakenModel", "now", "[I", true)
  | 8 => ("WindTakenModel", "image0", "[I", true)
  | 9 => ("WindTakenModel", "image1", "[I", true)
  | 10 => ("WindTakenModel", "read", "[I", true)
  | 11 => ("WindTakenModel", "trace", "[I", true)
  | 12 => ("WindTakenModel", "traced", "I", false)
  | 13 => ("WindTakenModel", "lent", "[I", true)
  | 14 => ("WindTakenModel", "begins", "I", false)
  | 15 => ("WindTakenModel", "behind", "I", false)
  | 16 => ("WindTakenModel", "kind", "I", false)
  | 17 => ("WindTakenModel", "worth", "J", false)
  | 18 => ("WindTakenModel", "wrong", "I", false)
  | 19 => ("WindTakenModel", "ground", "[I", true)
  | _ => ("WindTakenModel", "worn", "[I", true)
def tyX8 : Nat → FieldType := fun k => match k with
  | 0 => .array .int
  | 1 => .array .int
  | 2 => .array .int
  | 3 => .int
  | 4 => .int
  | 5 => .array .int
  | 6 => .int
  | 7 => .array .int
  | 8 => .array .int
  | 9 => .array .int
  | 10 => .array .int
  | 11 => .array .int
  | 12 => .int
  | 13 => .array .int
  | 14 => .int
  | 15 => .int
  | 16 => .int
  | 17 => .long
  | 18 => .int
  | 19 => .array .int
  | _ => .array .int
abbrev wsX80 : List Cond := u_ws RX8 TX8 21
theorem nmX8 : ∀ a, a < 21 → ∀ b, b < 21 → a ≠ b → (TX8 a).2.1 ≠ (TX8 b).2.1 := by decide +kernel
theorem tyX8_ok : ∀ k, k < 21 → parseFieldDescriptor (TX8 k).2.2.1 = some (tyX8 k) := by decide +kernel
abbrev cX8_init : ByteArray := prog_10_method_1_code
def yX8_init : MethodName := ⟨RX8, "<init>", "()V"⟩
abbrev cX8_in : ByteArray := prog_10_method_2_code
def yX8_in : MethodName := ⟨RX8, "in", "(JJJ)Z"⟩
abbrev cX8_has : ByteArray := prog_10_method_3_code
def yX8_has : MethodName := ⟨RX8, "has", "(II)Z"⟩
abbrev cX8_found : ByteArray := prog_10_method_4_code
def yX8_found : MethodName := ⟨RX8, "found", "(II)I"⟩
abbrev cX8_isRow : ByteArray := prog_10_method_5_code
def yX8_isRow : MethodName := ⟨RX8, "isRow", "(I)Z"⟩
abbrev cX8_isMissing : ByteArray := prog_10_method_6_code
def yX8_isMissing : MethodName := ⟨RX8, "isMissing", "(I)Z"⟩
abbrev cX8_row : ByteArray := prog_10_method_7_code
def yX8_row : MethodName := ⟨RX8, "row", "(III)I"⟩
abbrev cX8_narrow : ByteArray := prog_10_method_8_code
def yX8_narrow : MethodName := ⟨RX8, "narrow", "(II)I"⟩
abbrev cX8_set : ByteArray := prog_10_method_9_code
def yX8_set : MethodName := ⟨RX8, "set", "(III)I"⟩
abbrev cX8_isWithin : ByteArray := prog_10_method_10_code
def yX8_isWithin : MethodName := ⟨RX8, "isWithin", "(III)Z"⟩
abbrev cX8_copy : ByteArray := prog_10_method_11_code
def yX8_copy : MethodName := ⟨RX8, "copy", "(IIIII)I"⟩
abbrev cX8_drop : ByteArray := prog_10_method_12_code
def yX8_drop : MethodName := ⟨RX8, "drop", "(I)I"⟩
abbrev cX8_feed : ByteArray := prog_10_method_13_code
def yX8_feed : MethodName := ⟨RX8, "feed", "(JI)I"⟩
abbrev cX8_byteAt : ByteArray := prog_10_method_14_code
def yX8_byteAt : MethodName := ⟨RX8, "byteAt", "(I)I"⟩
abbrev cX8_nextToken : ByteArray := prog_10_method_15_code
def yX8_nextToken : MethodName := ⟨RX8, "nextToken", "()V"⟩
abbrev cX8_isNumber : ByteArray := prog_10_method_16_code
def yX8_isNumber : MethodName := ⟨RX8, "isNumber", "(II)Z"⟩
abbrev cX8_isEnd : ByteArray := prog_10_method_17_code
def yX8_isEnd : MethodName := ⟨RX8, "isEnd", "()Z"⟩
abbrev cX8_readLaw : ByteArray := prog_10_method_18_code
def yX8_readLaw : MethodName := ⟨RX8, "readLaw", "()Z"⟩
abbrev cX8_kindOf : ByteArray := prog_10_method_19_code
def yX8_kindOf : MethodName := ⟨RX8, "kindOf", "(J)I"⟩
abbrev cX8_isTaken : ByteArray := prog_10_method_20_code
def yX8_isTaken : MethodName := ⟨RX8, "isTaken", "(IJ)Z"⟩
abbrev cX8_readMill : ByteArray := prog_10_method_21_code
def yX8_readMill : MethodName := ⟨RX8, "readMill", "()Z"⟩
abbrev cX8_readAll : ByteArray := prog_10_method_22_code
def yX8_readAll : MethodName := ⟨RX8, "readAll", "()Z"⟩
abbrev cX8_ridge : ByteArray := prog_10_method_23_code
def yX8_ridge : MethodName := ⟨RX8, "ridge", "()I"⟩
abbrev cX8_copyRow : ByteArray := prog_10_method_24_code
def yX8_copyRow : MethodName := ⟨RX8, "copyRow", "([I[I)V"⟩
abbrev cX8_fault : ByteArray := prog_10_method_25_code
def yX8_fault : MethodName := ⟨RX8, "fault", "()I"⟩
abbrev cX8_isMill : ByteArray := prog_10_method_26_code
def yX8_isMill : MethodName := ⟨RX8, "isMill", "(I)Z"⟩
abbrev cX8_isNoRidge : ByteArray := prog_10_method_27_code
def yX8_isNoRidge : MethodName := ⟨RX8, "isNoRidge", "()Z"⟩
abbrev cX8_of : ByteArray := prog_10_method_28_code
def yX8_of : MethodName := ⟨RX8, "of", "(II)I"⟩
abbrev cX8_furl : ByteArray := prog_10_method_29_code
def yX8_furl : MethodName := ⟨RX8, "furl", "(II)I"⟩
abbrev cX8_isQuarter : ByteArray := prog_10_method_30_code
def yX8_isQuarter : MethodName := ⟨RX8, "isQuarter", "(I)Z"⟩
abbrev cX8_face : ByteArray := prog_10_method_31_code
def yX8_face : MethodName := ⟨RX8, "face", "(II)I"⟩
abbrev cX8_build : ByteArray := prog_10_method_32_code
def yX8_build : MethodName := ⟨RX8, "build", "(I)I"⟩
abbrev cX8_bring : ByteArray := prog_10_method_33_code
def yX8_bring : MethodName := ⟨RX8, "bring", "(II)I"⟩
abbrev cX8_mill : ByteArray := prog_10_method_34_code
def yX8_mill : MethodName := ⟨RX8, "mill", "(II)I"⟩
abbrev cX8_isBehind : ByteArray := prog_10_method_35_code
def yX8_isBehind : MethodName := ⟨RX8, "isBehind", "(IIII)Z"⟩
abbrev cX8_turns : ByteArray := prog_10_method_36_code
def yX8_turns : MethodName := ⟨RX8, "turns", "(III)Z"⟩
abbrev cX8_takes : ByteArray := prog_10_method_37_code
def yX8_takes : MethodName := ⟨RX8, "takes", "(III)Z"⟩
abbrev cX8_leftAt : ByteArray := prog_10_method_38_code
def yX8_leftAt : MethodName := ⟨RX8, "leftAt", "(IIIII)I"⟩
abbrev cX8_grindsFree : ByteArray := prog_10_method_39_code
def yX8_grindsFree : MethodName := ⟨RX8, "grindsFree", "(IIIII)I"⟩
abbrev cX8_grinds : ByteArray := prog_10_method_40_code
def yX8_grinds : MethodName := ⟨RX8, "grinds", "(IIIII)I"⟩
abbrev cX8_isWind : ByteArray := prog_10_method_41_code
def yX8_isWind : MethodName := ⟨RX8, "isWind", "(II)Z"⟩
abbrev cX8_goHour : ByteArray := prog_10_method_42_code
def yX8_goHour : MethodName := ⟨RX8, "goHour", "(II)I"⟩
abbrev cX8_hour : ByteArray := prog_10_method_43_code
def yX8_hour : MethodName := ⟨RX8, "hour", "(II)I"⟩
abbrev cX8_hours : ByteArray := prog_10_method_44_code
def yX8_hours : MethodName := ⟨RX8, "hours", "(III)I"⟩
abbrev cX8_left : ByteArray := prog_10_method_45_code
def yX8_left : MethodName := ⟨RX8, "left", "(IIII)I"⟩
abbrev cX8_madeBy : ByteArray := prog_10_method_46_code
def yX8_madeBy : MethodName := ⟨RX8, "madeBy", "(III)I"⟩
abbrev cX8_made : ByteArray := prog_10_method_47_code
def yX8_made : MethodName := ⟨RX8, "made", "(III)I"⟩
abbrev cX8_bits : ByteArray := prog_10_method_48_code
def yX8_bits : MethodName := ⟨RX8, "bits", "(I)I"⟩
abbrev cX8_bestSet : ByteArray := prog_10_method_49_code
def yX8_bestSet : MethodName := ⟨RX8, "bestSet", "(II)I"⟩
abbrev cX8_best : ByteArray := prog_10_method_50_code
def yX8_best : MethodName := ⟨RX8, "best", "(III)I"⟩
abbrev cX8_loses : ByteArray := prog_10_method_51_code
def yX8_loses : MethodName := ⟨RX8, "loses", "(IIII)I"⟩
abbrev cX8_part : ByteArray := prog_10_method_52_code
def yX8_part : MethodName := ⟨RX8, "part", "(III)I"⟩
abbrev cX8_still : ByteArray := prog_10_method_53_code
def yX8_still : MethodName := ⟨RX8, "still", "(IIIII)I"⟩
abbrev cX8_othersBy : ByteArray := prog_10_method_54_code
def yX8_othersBy : MethodName := ⟨RX8, "othersBy", "(IIIII)I"⟩
abbrev cX8_higher : ByteArray := prog_10_method_55_code
def yX8_higher : MethodName := ⟨RX8, "higher", "(IIII)I"⟩
abbrev cX8_owes : ByteArray := prog_10_method_56_code
def yX8_owes : MethodName := ⟨RX8, "owes", "(IIII)I"⟩
abbrev cX8_isNight : ByteArray := prog_10_method_57_code
def yX8_isNight : MethodName := ⟨RX8, "isNight", "(IIIII)Z"⟩
abbrev cX8_night : ByteArray := prog_10_method_58_code
def yX8_night : MethodName := ⟨RX8, "night", "(IIIII)I"⟩
abbrev cX8_years : ByteArray := prog_10_method_59_code
def yX8_years : MethodName := ⟨RX8, "years", "(III)I"⟩
abbrev cX8_image : ByteArray := prog_10_method_60_code
def yX8_image : MethodName := ⟨RX8, "image", "(I)I"⟩
abbrev cX8_restore : ByteArray := prog_10_method_61_code
def yX8_restore : MethodName := ⟨RX8, "restore", "(I)I"⟩
abbrev cX8_kind : ByteArray := prog_10_method_62_code
def yX8_kind : MethodName := ⟨RX8, "kind", "(I)I"⟩
abbrev cX8_isKind : ByteArray := prog_10_method_63_code
def yX8_isKind : MethodName := ⟨RX8, "isKind", "(II)Z"⟩
abbrev cX8_as : ByteArray := prog_10_method_64_code
def yX8_as : MethodName := ⟨RX8, "as", "(II)I"⟩
abbrev cX8_leave : ByteArray := prog_10_method_65_code
def yX8_leave : MethodName := ⟨RX8, "leave", "(I)V"⟩
abbrev cX8_markOfFixed : ByteArray := prog_10_method_66_code
def yX8_markOfFixed : MethodName := ⟨RX8, "markOfFixed", "(I)I"⟩
abbrev cX8_markOfHooded : ByteArray := prog_10_method_67_code
def yX8_markOfHooded : MethodName := ⟨RX8, "markOfHooded", "(I)I"⟩
abbrev cX8_sizeOfMill : ByteArray := prog_10_method_68_code
def yX8_sizeOfMill : MethodName := ⟨RX8, "sizeOfMill", "(I)I"⟩
abbrev cX8_sizeOfWater : ByteArray := prog_10_method_69_code
def yX8_sizeOfWater : MethodName := ⟨RX8, "sizeOfWater", "(I)I"⟩
abbrev cX8_mark : ByteArray := prog_10_method_70_code
def yX8_mark : MethodName := ⟨RX8, "mark", "(I)I"⟩
abbrev cX8_sizeOfFixed : ByteArray := prog_10_method_71_code
def yX8_sizeOfFixed : MethodName := ⟨RX8, "sizeOfFixed", "(I)I"⟩
abbrev cX8_size : ByteArray := prog_10_method_72_code
def yX8_size : MethodName := ⟨RX8, "size", "(I)I"⟩
abbrev cX8_ask : ByteArray := prog_10_method_73_code
def yX8_ask : MethodName := ⟨RX8, "ask", "(II)I"⟩
abbrev cX8_trace : ByteArray := prog_10_method_74_code
def yX8_trace : MethodName := ⟨RX8, "trace", "(I)I"⟩
abbrev cX8_count : ByteArray := prog_10_method_75_code
def yX8_count : MethodName := ⟨RX8, "count", "(I)I"⟩
abbrev cX8_status : ByteArray := prog_10_method_76_code
def yX8_status : MethodName := ⟨RX8, "status", "()I"⟩
def RJ6 : String := "java/lang/Integer"
def TJ6 : u_T := fun k => match k with
  | _ => ("", "", "", false)
def tyJ6 : Nat → FieldType := fun k => match k with
  | _ => .int
abbrev wsJ60 : List Cond := u_ws RJ6 TJ6 0
theorem nmJ6 : ∀ a, a < 0 → ∀ b, b < 0 → a ≠ b → (TJ6 a).2.1 ≠ (TJ6 b).2.1 := by decide +kernel
theorem tyJ6_ok : ∀ k, k < 0 → parseFieldDescriptor (TJ6 k).2.2.1 = some (tyJ6 k) := by decide +kernel
abbrev cJ6_bitCount_0f7a4 : ByteArray := prog_11_method_49_code
def yJ6_bitCount_0f7a4 : MethodName := ⟨RJ6, "bitCount", "(I)I"⟩
def RJ9 : String := "java/lang/Math"
def TJ9 : u_T := fun k => match k with
  | _ => ("", "", "", false)
def tyJ9 : Nat → FieldType := fun k => match k with
  | _ => .int
abbrev wsJ90 : List Cond := u_ws RJ9 TJ9 0
theorem nmJ9 : ∀ a, a < 0 → ∀ b, b < 0 → a ≠ b → (TJ9 a).2.1 ≠ (TJ9 b).2.1 := by decide +kernel
theorem tyJ9_ok : ∀ k, k < 0 → parseFieldDescriptor (TJ9 k).2.2.1 = some (tyJ9 k) := by decide +kernel
abbrev cJ9_max_7cf53 : ByteArray := prog_12_method_65_code
def yJ9_max_7cf53 : MethodName := ⟨RJ9, "max", "(II)I"⟩
abbrev cJ9_min_7cf53 : ByteArray := prog_12_method_69_code
def yJ9_min_7cf53 : MethodName := ⟨RJ9, "min", "(II)I"⟩
def RJ0 : String := "java/lang/String"
def TJ0 : u_T := fun k => match k with
  | _ => ("", "", "", false)
def tyJ0 : Nat → FieldType := fun k => match k with
  | _ => .int
abbrev wsJ00 : List Cond := u_ws RJ0 TJ0 0
theorem nmJ0 : ∀ a, a < 0 → ∀ b, b < 0 → a ≠ b → (TJ0 a).2.1 ≠ (TJ0 b).2.1 := by decide +kernel
theorem tyJ0_ok : ∀ k, k < 0 → parseFieldDescriptor (TJ0 k).2.2.1 = some (tyJ0 k) := by decide +kernel
abbrev cJ0_length_8abf5 : ByteArray := prog_13_method_54_code
def yJ0_length_8abf5 : MethodName := ⟨RJ0, "length", "()I"⟩
abbrev cJ0_charAt_5068e : ByteArray := prog_13_method_56_code
def yJ0_charAt_5068e : MethodName := ⟨RJ0, "charAt", "(I)C"⟩
abbrev cJ0_coder_7d493 : ByteArray := prog_13_method_152_code
def yJ0_coder_7d493 : MethodName := ⟨RJ0, "coder", "()B"⟩
abbrev cJ0_isLatin1_aae02 : ByteArray := prog_13_method_154_code
def yJ0_isLatin1_aae02 : MethodName := ⟨RJ0, "isLatin1", "()Z"⟩
abbrev cJ0_checkIndex_df160 : ByteArray := prog_13_method_155_code
def yJ0_checkIndex_df160 : MethodName := ⟨RJ0, "checkIndex", "(II)V"⟩
def RJ1 : String := "java/lang/StringLatin1"
def TJ1 : u_T := fun k => match k with
  | _ => ("", "", "", false)
def tyJ1 : Nat → FieldType := fun k => match k with
  | _ => .int
abbrev wsJ10 : List Cond := u_ws RJ1 TJ1 0
theorem nmJ1 : ∀ a, a < 0 → ∀ b, b < 0 → a ≠ b → (TJ1 a).2.1 ≠ (TJ1 b).2.1 := by decide +kernel
theorem tyJ1_ok : ∀ k, k < 0 → parseFieldDescriptor (TJ1 k).2.2.1 = some (tyJ1 k) := by decide +kernel
abbrev cJ1_charAt_3b067 : ByteArray := prog_14_method_2_code
def yJ1_charAt_3b067 : MethodName := ⟨RJ1, "charAt", "([BI)C"⟩
def RJ2 : String := "java/lang/StringUTF16"
def TJ2 : u_T := fun k => match k with
  | _ => ("", "", "", false)
def tyJ2 : Nat → FieldType := fun k => match k with
  | _ => .int
abbrev wsJ20 : List Cond := u_ws RJ2 TJ2 0
theorem nmJ2 : ∀ a, a < 0 → ∀ b, b < 0 → a ≠ b → (TJ2 a).2.1 ≠ (TJ2 b).2.1 := by decide +kernel
theorem tyJ2_ok : ∀ k, k < 0 → parseFieldDescriptor (TJ2 k).2.2.1 = some (tyJ2 k) := by decide +kernel
abbrev cJ2_getChar_3b067 : ByteArray := prog_15_method_5_code
def yJ2_getChar_3b067 : MethodName := ⟨RJ2, "getChar", "([BI)C"⟩
abbrev cJ2_length_9d52b : ByteArray := prog_15_method_6_code
def yJ2_length_9d52b : MethodName := ⟨RJ2, "length", "([B)I"⟩
abbrev cJ2_charAt_3b067 : ByteArray := prog_15_method_83_code
def yJ2_charAt_3b067 : MethodName := ⟨RJ2, "charAt", "([BI)C"⟩
abbrev cJ2_checkIndex_2214a : ByteArray := prog_15_method_91_code
def yJ2_checkIndex_2214a : MethodName := ⟨RJ2, "checkIndex", "(I[B)V"⟩
def RJ10 : String := "java/lang/System"
def TJ10 : u_T := fun k => match k with
  | _ => ("", "", "", false)
def tyJ10 : Nat → FieldType := fun k => match k with
  | _ => .int
abbrev wsJ100 : List Cond := u_ws RJ10 TJ10 0
theorem nmJ10 : ∀ a, a < 0 → ∀ b, b < 0 → a ≠ b → (TJ10 a).2.1 ≠ (TJ10 b).2.1 := by decide +kernel
theorem tyJ10_ok : ∀ k, k < 0 → parseFieldDescriptor (TJ10 k).2.2.1 = some (tyJ10 k) := by decide +kernel
def RJ3 : String := "jdk/internal/util/Preconditions"
def TJ3 : u_T := fun k => match k with
  | _ => ("", "", "", false)
def tyJ3 : Nat → FieldType := fun k => match k with
  | _ => .int
abbrev wsJ30 : List Cond := u_ws RJ3 TJ3 0
theorem nmJ3 : ∀ a, a < 0 → ∀ b, b < 0 → a ≠ b → (TJ3 a).2.1 ≠ (TJ3 b).2.1 := by decide +kernel
theorem tyJ3_ok : ∀ k, k < 0 → parseFieldDescriptor (TJ3 k).2.2.1 = some (tyJ3 k) := by decide +kernel
abbrev cJ3_checkIndex_8e157 : ByteArray := prog_17_method_11_code
def yJ3_checkIndex_8e157 : MethodName := ⟨RJ3, "checkIndex", "(IILjava/util/function/BiFunction;)I"⟩
def RL : String := "WindTakenLaw"
abbrev cL_law : ByteArray := code
def yL_law : MethodName := ⟨RL, "law", "([I)Z"⟩
noncomputable def wsX0_init : List Cond := .code yX0_init cX0_init 1 none :: ([.methodLink RX0 3 objectInit, .instanceMethod objectInit, .code objectInit ⟨#[0xb1]⟩ 1 none])
noncomputable def wsX0_begin : List Cond := .code yX0_begin cX0_begin 3 none :: ([.fieldLink RX0 9 "WindTaken$Mill" "number" "I", .fieldLink RX0 15 "WindTaken$Mill" "kind" "I", .fieldLink RX0 18 "WindTaken$Mill" "flour" "I", .fieldLink RX0 21 "WindTaken$Mill" "wear" "I", .fieldLink RX0 24 "WindTaken$Mill" "facing" "I", .fieldLink RX0 27 "WindTaken$Mill" "furled" "Z"] ++ wsX00)
noncomputable def wsX0_become : List Cond := .code yX0_become cX0_become 2 none :: ([.fieldLink RX0 9 "WindTaken$Mill" "number" "I", .fieldLink RX0 15 "WindTaken$Mill" "kind" "I", .fieldLink RX0 31 "WindTaken$Mill" "x" "I", .fieldLink RX0 34 "WindTaken$Mill" "y" "I", .fieldLink RX0 37 "WindTaken$Mill" "floors" "I", .fieldLink RX0 40 "WindTaken$Mill" "sails" "I", .fieldLink RX0 43 "WindTaken$Mill" "age" "I", .fieldLink RX0 46 "WindTaken$Mill" "corn" "I", .fieldLink RX0 18 "WindTaken$Mill" "flour" "I", .fieldLink RX0 21 "WindTaken$Mill" "wear" "I", .fieldLink RX0 24 "WindTaken$Mill" "facing" "I", .fieldLink RX0 27 "WindTaken$Mill" "furled" "Z"] ++ wsX00)
noncomputable def wsX0_turnsIn : List Cond := .code yX0_turnsIn cX0_turnsIn 2 (some .boolean) :: ([.fieldLink RX0 27 "WindTaken$Mill" "furled" "Z", .fieldLink RX0 15 "WindTaken$Mill" "kind" "I", .fieldLink RX0 24 "WindTaken$Mill" "facing" "I"] ++ wsX00)
noncomputable def wsX1_init : List Cond := .code yX1_init cX1_init 3 none :: ([.methodLink RX1 3 objectInit, .instanceMethod objectInit, .code objectInit ⟨#[0xb1]⟩ 1 none, .arrayClass .int, .fieldLink RX1 9 "WindTaken$Quarter" "behind" "[I", .fieldLink RX1 15 "WindTaken$Quarter" "after" "[I", .fieldLink RX1 18 "WindTaken$Quarter" "ridge" "LWindTaken$Ridge;", .fieldLink RX1 22 "WindTaken$Quarter" "q" "I"] ++ wsX10)
noncomputable def wsX7_bit : List Cond := .code yX7_bit cX7_bit 1 (some .int) :: ([])
noncomputable def wsX1_floorsOf : List Cond := .code yX1_floorsOf cX1_floorsOf 4 (some .int) :: ([.fieldLink RX1 18 "WindTaken$Quarter" "ridge" "LWindTaken$Ridge;", .fieldLink RX1 37 "WindTaken$Ridge" "mills" "[LWindTaken$Mill;", .fieldLink RX1 62 "WindTaken$Mill" "floors" "I", .methodLink RX1 65 Lib.Math.min.name, .static Lib.Math.min.name, .initialized "java/lang/Math", .code Lib.Math.min.name Lib.Math.min.code 2 (some .int)] ++ wsX10 ++ wsX30 ++ wsX00)
noncomputable def wsX7_isWithin : List Cond := .code yX7_isWithin cX7_isWithin 3 (some .boolean) :: ([])
noncomputable def wsX1_isAhead : List Cond := .code yX1_isAhead cX1_isAhead 2 (some .boolean) :: ([.static yX7_isWithin, .initialized RX7, .code yX7_isWithin cX7_isWithin 3 (some .boolean)])
noncomputable def wsX1_isShaded : List Cond := .code yX1_isShaded cX1_isShaded 5 (some .boolean) :: ([.fieldLink RX1 70 "WindTaken$Mill" "x" "I", .fieldLink RX1 73 "WindTaken$Mill" "y" "I", .fieldLink RX1 22 "WindTaken$Quarter" "q" "I", .methodLink RX1 76 yX1_isAhead, .static yX1_isAhead, .initialized RX1, .code yX1_isAhead cX1_isAhead 2 (some .boolean), .static yX7_isWithin, .initialized RX7, .code yX7_isWithin cX7_isWithin 3 (some .boolean)] ++ wsX00 ++ wsX10)
noncomputable def wsX1_survey_r1 : List Cond := [Cond.fieldLink RX1 26 "WindTaken$Quarter" "turning" "I", Cond.fieldLink RX1 29 "WindTaken$Quarter" "taking" "I", Cond.fieldLink RX1 18 "WindTaken$Quarter" "ridge" "LWindTaken$Ridge;", Cond.fieldLink RX1 32 "WindTaken$Ridge" "count" "I", Cond.fieldLink RX1 37 "WindTaken$Ridge" "mills" "[LWindTaken$Mill;", Cond.fieldLink RX1 22 "WindTaken$Quarter" "q" "I", Cond.fieldLink RX1 51 "WindTaken$Mill" "kind" "I", Cond.fieldLink RX1 9 "WindTaken$Quarter" "behind" "[I", Cond.methodLink RX1 41 yX0_turnsIn, Cond.instanceMethod yX0_turnsIn, Cond.selects RX0 yX0_turnsIn yX0_turnsIn, Cond.initialized RX0, Cond.code yX0_turnsIn cX0_turnsIn 2 (some .boolean), Cond.fieldLink RX0 27 "WindTaken$Mill" "furled" "Z", Cond.fieldLink RX0 15 "WindTaken$Mill" "kind" "I", Cond.fieldLink RX0 24 "WindTaken$Mill" "facing" "I", Cond.static yX7_bit, Cond.initialized RX7, Cond.code yX7_bit cX7_bit 1 (some .int), Cond.methodLink RX1 54 yX1_floorsOf, Cond.instanceMethod yX1_floorsOf, Cond.selects RX1 yX1_floorsOf yX1_floorsOf, Cond.initialized RX1, Cond.code yX1_floorsOf cX1_floorsOf 4 (some .int)]
noncomputable def wsX1_survey_r2 : List Cond := [Cond.fieldLink RX1 62 "WindTaken$Mill" "floors" "I", Cond.methodLink RX1 65 Lib.Math.min.name, Cond.static Lib.Math.min.name, Cond.initialized "java/lang/Math", Cond.code Lib.Math.min.name Lib.Math.min.code 2 (some .int), Cond.methodLink RX1 58 yX1_isShaded, Cond.instanceMethod yX1_isShaded, Cond.selects RX1 yX1_isShaded yX1_isShaded, Cond.code yX1_isShaded cX1_isShaded 5 (some .boolean), Cond.fieldLink RX1 70 "WindTaken$Mill" "x" "I", Cond.fieldLink RX1 73 "WindTaken$Mill" "y" "I", Cond.methodLink RX1 76 yX1_isAhead, Cond.static yX1_isAhead, Cond.code yX1_isAhead cX1_isAhead 2 (some .boolean), Cond.static yX7_isWithin, Cond.code yX7_isWithin cX7_isWithin 3 (some .boolean)]
noncomputable def wsX1_survey : List Cond := .code yX1_survey cX1_survey 7 none :: ((wsX1_survey_r1 ++ wsX1_survey_r2) ++ wsX10 ++ wsX30 ++ wsX00)
noncomputable def wsX1_blow : List Cond := .code yX1_blow cX1_blow 3 none :: ([.fieldLink RX1 15 "WindTaken$Quarter" "after" "[I", .fieldLink RX1 18 "WindTaken$Quarter" "ridge" "LWindTaken$Ridge;", .fieldLink RX1 84 "WindTaken$Ridge" "take" "I"] ++ wsX10 ++ wsX30)
noncomputable def wsJ6_bitCount_0f7a4 : List Cond := .code yJ6_bitCount_0f7a4 cJ6_bitCount_0f7a4 1 (some .int) :: ([.constant RJ6 265 (1431655765), .constant RJ6 266 (858993459), .constant RJ6 267 (252645135)])
noncomputable def wsX1_windLeft : List Cond := .code yX1_windLeft cX1_windLeft 3 (some .int) :: ([.fieldLink RX1 15 "WindTaken$Quarter" "after" "[I", .fieldLink RX1 9 "WindTaken$Quarter" "behind" "[I", .fieldLink RX1 29 "WindTaken$Quarter" "taking" "I", .methodLink RX1 87 yJ6_bitCount_0f7a4, .static yJ6_bitCount_0f7a4, .initialized RJ6, .code yJ6_bitCount_0f7a4 cJ6_bitCount_0f7a4 1 (some .int), .constant RJ6 265 (1431655765), .constant RJ6 266 (858993459), .constant RJ6 267 (252645135)] ++ wsX10)
noncomputable def wsX1_strengthOf : List Cond := .code yX1_strengthOf cX1_strengthOf 5 (some .int) :: ([.fieldLink RX1 26 "WindTaken$Quarter" "turning" "I", .fieldLink RX1 18 "WindTaken$Quarter" "ridge" "LWindTaken$Ridge;", .fieldLink RX1 37 "WindTaken$Ridge" "mills" "[LWindTaken$Mill;", .fieldLink RX1 51 "WindTaken$Mill" "kind" "I", .fieldLink RX1 93 "WindTaken$Mill" "sails" "I", .methodLink RX1 96 yX1_windLeft, .instanceMethod yX1_windLeft, .selects RX1 yX1_windLeft yX1_windLeft, .initialized RX1, .code yX1_windLeft cX1_windLeft 3 (some .int), .fieldLink RX1 15 "WindTaken$Quarter" "after" "[I", .fieldLink RX1 9 "WindTaken$Quarter" "behind" "[I", .fieldLink RX1 29 "WindTaken$Quarter" "taking" "I", .methodLink RX1 87 yJ6_bitCount_0f7a4, .static yJ6_bitCount_0f7a4, .initialized RJ6, .code yJ6_bitCount_0f7a4 cJ6_bitCount_0f7a4 1 (some .int), .constant RJ6 265 (1431655765), .constant RJ6 266 (858993459), .constant RJ6 267 (252645135)] ++ wsX10 ++ wsX30 ++ wsX00)
noncomputable def wsX1_strengthOfAll_r1 : List Cond := [Cond.fieldLink RX1 18 "WindTaken$Quarter" "ridge" "LWindTaken$Ridge;", Cond.fieldLink RX1 32 "WindTaken$Ridge" "count" "I", Cond.methodLink RX1 99 yX1_strengthOf, Cond.instanceMethod yX1_strengthOf, Cond.selects RX1 yX1_strengthOf yX1_strengthOf, Cond.initialized RX1, Cond.code yX1_strengthOf cX1_strengthOf 5 (some .int), Cond.fieldLink RX1 26 "WindTaken$Quarter" "turning" "I", Cond.fieldLink RX1 37 "WindTaken$Ridge" "mills" "[LWindTaken$Mill;", Cond.fieldLink RX1 51 "WindTaken$Mill" "kind" "I", Cond.fieldLink RX1 93 "WindTaken$Mill" "sails" "I", Cond.methodLink RX1 96 yX1_windLeft, Cond.instanceMethod yX1_windLeft, Cond.selects RX1 yX1_windLeft yX1_windLeft, Cond.code yX1_windLeft cX1_windLeft 3 (some .int), Cond.fieldLink RX1 15 "WindTaken$Quarter" "after" "[I", Cond.fieldLink RX1 9 "WindTaken$Quarter" "behind" "[I", Cond.fieldLink RX1 29 "WindTaken$Quarter" "taking" "I", Cond.methodLink RX1 87 yJ6_bitCount_0f7a4, Cond.static yJ6_bitCount_0f7a4, Cond.initialized RJ6, Cond.code yJ6_bitCount_0f7a4 cJ6_bitCount_0f7a4 1 (some .int), Cond.constant RJ6 265 (1431655765), Cond.constant RJ6 266 (858993459)]
noncomputable def wsX1_strengthOfAll_r2 : List Cond := [Cond.constant RJ6 267 (252645135)]
noncomputable def wsX1_strengthOfAll : List Cond := .code yX1_strengthOfAll cX1_strengthOfAll 3 (some .int) :: ((wsX1_strengthOfAll_r1 ++ wsX1_strengthOfAll_r2) ++ wsX10 ++ wsX30 ++ wsX00)
noncomputable def wsX1_grindsBy_r1 : List Cond := [Cond.fieldLink RX1 18 "WindTaken$Quarter" "ridge" "LWindTaken$Ridge;", Cond.fieldLink RX1 37 "WindTaken$Ridge" "mills" "[LWindTaken$Mill;", Cond.fieldLink RX1 102 "WindTaken$Mill" "corn" "I", Cond.methodLink RX1 65 Lib.Math.min.name, Cond.static Lib.Math.min.name, Cond.initialized "java/lang/Math", Cond.code Lib.Math.min.name Lib.Math.min.code 2 (some .int), Cond.methodLink RX1 99 yX1_strengthOf, Cond.instanceMethod yX1_strengthOf, Cond.selects RX1 yX1_strengthOf yX1_strengthOf, Cond.initialized RX1, Cond.code yX1_strengthOf cX1_strengthOf 5 (some .int), Cond.fieldLink RX1 26 "WindTaken$Quarter" "turning" "I", Cond.fieldLink RX1 51 "WindTaken$Mill" "kind" "I", Cond.fieldLink RX1 93 "WindTaken$Mill" "sails" "I", Cond.methodLink RX1 96 yX1_windLeft, Cond.instanceMethod yX1_windLeft, Cond.selects RX1 yX1_windLeft yX1_windLeft, Cond.code yX1_windLeft cX1_windLeft 3 (some .int), Cond.fieldLink RX1 15 "WindTaken$Quarter" "after" "[I", Cond.fieldLink RX1 9 "WindTaken$Quarter" "behind" "[I", Cond.fieldLink RX1 29 "WindTaken$Quarter" "taking" "I", Cond.methodLink RX1 87 yJ6_bitCount_0f7a4, Cond.static yJ6_bitCount_0f7a4]
noncomputable def wsX1_grindsBy_r2 : List Cond := [Cond.initialized RJ6, Cond.code yJ6_bitCount_0f7a4 cJ6_bitCount_0f7a4 1 (some .int), Cond.constant RJ6 265 (1431655765), Cond.constant RJ6 266 (858993459), Cond.constant RJ6 267 (252645135)]
noncomputable def wsX1_grindsBy : List Cond := .code yX1_grindsBy cX1_grindsBy 3 (some .int) :: ((wsX1_grindsBy_r1 ++ wsX1_grindsBy_r2) ++ wsX10 ++ wsX30 ++ wsX00)
noncomputable def wsX1_madeBy_r1 : List Cond := [Cond.fieldLink RX1 18 "WindTaken$Quarter" "ridge" "LWindTaken$Ridge;", Cond.fieldLink RX1 32 "WindTaken$Ridge" "count" "I", Cond.methodLink RX1 105 yX1_grindsBy, Cond.instanceMethod yX1_grindsBy, Cond.selects RX1 yX1_grindsBy yX1_grindsBy, Cond.initialized RX1, Cond.code yX1_grindsBy cX1_grindsBy 3 (some .int), Cond.fieldLink RX1 37 "WindTaken$Ridge" "mills" "[LWindTaken$Mill;", Cond.fieldLink RX1 102 "WindTaken$Mill" "corn" "I", Cond.methodLink RX1 65 Lib.Math.min.name, Cond.static Lib.Math.min.name, Cond.initialized "java/lang/Math", Cond.code Lib.Math.min.name Lib.Math.min.code 2 (some .int), Cond.methodLink RX1 99 yX1_strengthOf, Cond.instanceMethod yX1_strengthOf, Cond.selects RX1 yX1_strengthOf yX1_strengthOf, Cond.code yX1_strengthOf cX1_strengthOf 5 (some .int), Cond.fieldLink RX1 26 "WindTaken$Quarter" "turning" "I", Cond.fieldLink RX1 51 "WindTaken$Mill" "kind" "I", Cond.fieldLink RX1 93 "WindTaken$Mill" "sails" "I", Cond.methodLink RX1 96 yX1_windLeft, Cond.instanceMethod yX1_windLeft, Cond.selects RX1 yX1_windLeft yX1_windLeft, Cond.code yX1_windLeft cX1_windLeft 3 (some .int)]
noncomputable def wsX1_madeBy_r2 : List Cond := [Cond.fieldLink RX1 15 "WindTaken$Quarter" "after" "[I", Cond.fieldLink RX1 9 "WindTaken$Quarter" "behind" "[I", Cond.fieldLink RX1 29 "WindTaken$Quarter" "taking" "I", Cond.methodLink RX1 87 yJ6_bitCount_0f7a4, Cond.static yJ6_bitCount_0f7a4, Cond.initialized RJ6, Cond.code yJ6_bitCount_0f7a4 cJ6_bitCount_0f7a4 1 (some .int), Cond.constant RJ6 265 (1431655765), Cond.constant RJ6 266 (858993459), Cond.constant RJ6 267 (252645135)]
noncomputable def wsX1_madeBy : List Cond := .code yX1_madeBy cX1_madeBy 4 (some .int) :: ((wsX1_madeBy_r1 ++ wsX1_madeBy_r2) ++ wsX10 ++ wsX30 ++ wsX00)
noncomputable def wsX1_gainBy_r1 : List Cond := [Cond.methodLink RX1 108 Lib.Math.max.name, Cond.static Lib.Math.max.name, Cond.initialized "java/lang/Math", Cond.code Lib.Math.max.name Lib.Math.max.code 2 (some .int), Cond.methodLink RX1 105 yX1_grindsBy, Cond.instanceMethod yX1_grindsBy, Cond.selects RX1 yX1_grindsBy yX1_grindsBy, Cond.initialized RX1, Cond.code yX1_grindsBy cX1_grindsBy 3 (some .int), Cond.fieldLink RX1 18 "WindTaken$Quarter" "ridge" "LWindTaken$Ridge;", Cond.fieldLink RX1 37 "WindTaken$Ridge" "mills" "[LWindTaken$Mill;", Cond.fieldLink RX1 102 "WindTaken$Mill" "corn" "I", Cond.methodLink RX1 65 Lib.Math.min.name, Cond.static Lib.Math.min.name, Cond.code Lib.Math.min.name Lib.Math.min.code 2 (some .int), Cond.methodLink RX1 99 yX1_strengthOf, Cond.instanceMethod yX1_strengthOf, Cond.selects RX1 yX1_strengthOf yX1_strengthOf, Cond.code yX1_strengthOf cX1_strengthOf 5 (some .int), Cond.fieldLink RX1 26 "WindTaken$Quarter" "turning" "I", Cond.fieldLink RX1 51 "WindTaken$Mill" "kind" "I", Cond.fieldLink RX1 93 "WindTaken$Mill" "sails" "I", Cond.methodLink RX1 96 yX1_windLeft, Cond.instanceMethod yX1_windLeft]
noncomputable def wsX1_gainBy_r2 : List Cond := [Cond.selects RX1 yX1_windLeft yX1_windLeft, Cond.code yX1_windLeft cX1_windLeft 3 (some .int), Cond.fieldLink RX1 15 "WindTaken$Quarter" "after" "[I", Cond.fieldLink RX1 9 "WindTaken$Quarter" "behind" "[I", Cond.fieldLink RX1 29 "WindTaken$Quarter" "taking" "I", Cond.methodLink RX1 87 yJ6_bitCount_0f7a4, Cond.static yJ6_bitCount_0f7a4, Cond.initialized RJ6, Cond.code yJ6_bitCount_0f7a4 cJ6_bitCount_0f7a4 1 (some .int), Cond.constant RJ6 265 (1431655765), Cond.constant RJ6 266 (858993459), Cond.constant RJ6 267 (252645135)]
noncomputable def wsX1_gainBy : List Cond := .code yX1_gainBy cX1_gainBy 3 (some .int) :: ((wsX1_gainBy_r1 ++ wsX1_gainBy_r2) ++ wsX10 ++ wsX30 ++ wsX00)
noncomputable def wsX1_lossBy_r1 : List Cond := [Cond.methodLink RX1 108 Lib.Math.max.name, Cond.static Lib.Math.max.name, Cond.initialized "java/lang/Math", Cond.code Lib.Math.max.name Lib.Math.max.code 2 (some .int), Cond.methodLink RX1 105 yX1_grindsBy, Cond.instanceMethod yX1_grindsBy, Cond.selects RX1 yX1_grindsBy yX1_grindsBy, Cond.initialized RX1, Cond.code yX1_grindsBy cX1_grindsBy 3 (some .int), Cond.fieldLink RX1 18 "WindTaken$Quarter" "ridge" "LWindTaken$Ridge;", Cond.fieldLink RX1 37 "WindTaken$Ridge" "mills" "[LWindTaken$Mill;", Cond.fieldLink RX1 102 "WindTaken$Mill" "corn" "I", Cond.methodLink RX1 65 Lib.Math.min.name, Cond.static Lib.Math.min.name, Cond.code Lib.Math.min.name Lib.Math.min.code 2 (some .int), Cond.methodLink RX1 99 yX1_strengthOf, Cond.instanceMethod yX1_strengthOf, Cond.selects RX1 yX1_strengthOf yX1_strengthOf, Cond.code yX1_strengthOf cX1_strengthOf 5 (some .int), Cond.fieldLink RX1 26 "WindTaken$Quarter" "turning" "I", Cond.fieldLink RX1 51 "WindTaken$Mill" "kind" "I", Cond.fieldLink RX1 93 "WindTaken$Mill" "sails" "I", Cond.methodLink RX1 96 yX1_windLeft, Cond.instanceMethod yX1_windLeft]
noncomputable def wsX1_lossBy_r2 : List Cond := [Cond.selects RX1 yX1_windLeft yX1_windLeft, Cond.code yX1_windLeft cX1_windLeft 3 (some .int), Cond.fieldLink RX1 15 "WindTaken$Quarter" "after" "[I", Cond.fieldLink RX1 9 "WindTaken$Quarter" "behind" "[I", Cond.fieldLink RX1 29 "WindTaken$Quarter" "taking" "I", Cond.methodLink RX1 87 yJ6_bitCount_0f7a4, Cond.static yJ6_bitCount_0f7a4, Cond.initialized RJ6, Cond.code yJ6_bitCount_0f7a4 cJ6_bitCount_0f7a4 1 (some .int), Cond.constant RJ6 265 (1431655765), Cond.constant RJ6 266 (858993459), Cond.constant RJ6 267 (252645135)]
noncomputable def wsX1_lossBy : List Cond := .code yX1_lossBy cX1_lossBy 3 (some .int) :: ((wsX1_lossBy_r1 ++ wsX1_lossBy_r2) ++ wsX10 ++ wsX30 ++ wsX00)
noncomputable def wsX1_wearOf : List Cond := .code yX1_wearOf cX1_wearOf 2 (some .int) :: ([.fieldLink RX1 29 "WindTaken$Quarter" "taking" "I", .methodLink RX1 96 yX1_windLeft, .instanceMethod yX1_windLeft, .selects RX1 yX1_windLeft yX1_windLeft, .initialized RX1, .code yX1_windLeft cX1_windLeft 3 (some .int), .fieldLink RX1 15 "WindTaken$Quarter" "after" "[I", .fieldLink RX1 9 "WindTaken$Quarter" "behind" "[I", .methodLink RX1 87 yJ6_bitCount_0f7a4, .static yJ6_bitCount_0f7a4, .initialized RJ6, .code yJ6_bitCount_0f7a4 cJ6_bitCount_0f7a4 1 (some .int), .constant RJ6 265 (1431655765), .constant RJ6 266 (858993459), .constant RJ6 267 (252645135)] ++ wsX10)
noncomputable def wsX1_takesFrom : List Cond := .code yX1_takesFrom cX1_takesFrom 3 (some .boolean) :: ([.fieldLink RX1 29 "WindTaken$Quarter" "taking" "I", .fieldLink RX1 9 "WindTaken$Quarter" "behind" "[I"] ++ wsX10)
noncomputable def wsX1_bestSet_r1 : List Cond := [Cond.fieldLink RX1 18 "WindTaken$Quarter" "ridge" "LWindTaken$Ridge;", Cond.fieldLink RX1 32 "WindTaken$Ridge" "count" "I", Cond.methodLink RX1 111 yX1_madeBy, Cond.instanceMethod yX1_madeBy, Cond.selects RX1 yX1_madeBy yX1_madeBy, Cond.initialized RX1, Cond.code yX1_madeBy cX1_madeBy 4 (some .int), Cond.methodLink RX1 105 yX1_grindsBy, Cond.instanceMethod yX1_grindsBy, Cond.selects RX1 yX1_grindsBy yX1_grindsBy, Cond.code yX1_grindsBy cX1_grindsBy 3 (some .int), Cond.fieldLink RX1 37 "WindTaken$Ridge" "mills" "[LWindTaken$Mill;", Cond.fieldLink RX1 102 "WindTaken$Mill" "corn" "I", Cond.methodLink RX1 65 Lib.Math.min.name, Cond.static Lib.Math.min.name, Cond.initialized "java/lang/Math", Cond.code Lib.Math.min.name Lib.Math.min.code 2 (some .int), Cond.methodLink RX1 99 yX1_strengthOf, Cond.instanceMethod yX1_strengthOf, Cond.selects RX1 yX1_strengthOf yX1_strengthOf, Cond.code yX1_strengthOf cX1_strengthOf 5 (some .int), Cond.fieldLink RX1 26 "WindTaken$Quarter" "turning" "I", Cond.fieldLink RX1 51 "WindTaken$Mill" "kind" "I", Cond.fieldLink RX1 93 "WindTaken$Mill" "sails" "I"]
noncomputable def wsX1_bestSet_r2 : List Cond := [Cond.methodLink RX1 96 yX1_windLeft, Cond.instanceMethod yX1_windLeft, Cond.selects RX1 yX1_windLeft yX1_windLeft, Cond.code yX1_windLeft cX1_windLeft 3 (some .int), Cond.fieldLink RX1 15 "WindTaken$Quarter" "after" "[I", Cond.fieldLink RX1 9 "WindTaken$Quarter" "behind" "[I", Cond.fieldLink RX1 29 "WindTaken$Quarter" "taking" "I", Cond.methodLink RX1 87 yJ6_bitCount_0f7a4, Cond.static yJ6_bitCount_0f7a4, Cond.initialized RJ6, Cond.code yJ6_bitCount_0f7a4 cJ6_bitCount_0f7a4 1 (some .int), Cond.constant RJ6 265 (1431655765), Cond.constant RJ6 266 (858993459), Cond.constant RJ6 267 (252645135)]
noncomputable def wsX1_bestSet : List Cond := .code yX1_bestSet cX1_bestSet 6 (some .int) :: ((wsX1_bestSet_r1 ++ wsX1_bestSet_r2) ++ wsX10 ++ wsX30 ++ wsX00)
noncomputable def wsX1_wouldGrind_r1 : List Cond := [Cond.fieldLink RX1 18 "WindTaken$Quarter" "ridge" "LWindTaken$Ridge;", Cond.fieldLink RX1 32 "WindTaken$Ridge" "count" "I", Cond.fieldLink RX1 37 "WindTaken$Ridge" "mills" "[LWindTaken$Mill;", Cond.fieldLink RX1 102 "WindTaken$Mill" "corn" "I", Cond.methodLink RX1 65 Lib.Math.min.name, Cond.static Lib.Math.min.name, Cond.initialized "java/lang/Math", Cond.code Lib.Math.min.name Lib.Math.min.code 2 (some .int), Cond.methodLink RX1 99 yX1_strengthOf, Cond.instanceMethod yX1_strengthOf, Cond.selects RX1 yX1_strengthOf yX1_strengthOf, Cond.initialized RX1, Cond.code yX1_strengthOf cX1_strengthOf 5 (some .int), Cond.fieldLink RX1 26 "WindTaken$Quarter" "turning" "I", Cond.fieldLink RX1 51 "WindTaken$Mill" "kind" "I", Cond.fieldLink RX1 93 "WindTaken$Mill" "sails" "I", Cond.methodLink RX1 96 yX1_windLeft, Cond.instanceMethod yX1_windLeft, Cond.selects RX1 yX1_windLeft yX1_windLeft, Cond.code yX1_windLeft cX1_windLeft 3 (some .int), Cond.fieldLink RX1 15 "WindTaken$Quarter" "after" "[I", Cond.fieldLink RX1 9 "WindTaken$Quarter" "behind" "[I", Cond.fieldLink RX1 29 "WindTaken$Quarter" "taking" "I", Cond.methodLink RX1 87 yJ6_bitCount_0f7a4]
noncomputable def wsX1_wouldGrind_r2 : List Cond := [Cond.static yJ6_bitCount_0f7a4, Cond.initialized RJ6, Cond.code yJ6_bitCount_0f7a4 cJ6_bitCount_0f7a4 1 (some .int), Cond.constant RJ6 265 (1431655765), Cond.constant RJ6 266 (858993459), Cond.constant RJ6 267 (252645135)]
noncomputable def wsX1_wouldGrind : List Cond := .code yX1_wouldGrind cX1_wouldGrind 6 (some .boolean) :: ((wsX1_wouldGrind_r1 ++ wsX1_wouldGrind_r2) ++ wsX10 ++ wsX30 ++ wsX00)
noncomputable def wsX2_init : List Cond := .code yX2_init cX2_init 2 none :: ([.methodLink RX2 3 objectInit, .instanceMethod objectInit, .code objectInit ⟨#[0xb1]⟩ 1 none, .fieldLink RX2 9 "WindTaken$Reader" "tape" "LWindTaken$Tape;"] ++ wsX20)
noncomputable def wsX5_blanksEnd : List Cond := .code yX5_blanksEnd cX5_blanksEnd 3 (some .int) :: ([.fieldLink RX5 15 "WindTaken$Tape" "length" "I", .fieldLink RX5 9 "WindTaken$Tape" "bytes" "[B"] ++ wsX50)
noncomputable def wsX5_lettersEnd : List Cond := .code yX5_lettersEnd cX5_lettersEnd 3 (some .int) :: ([.fieldLink RX5 15 "WindTaken$Tape" "length" "I", .fieldLink RX5 9 "WindTaken$Tape" "bytes" "[B"] ++ wsX50)
noncomputable def wsX5_figuresEnd : List Cond := .code yX5_figuresEnd cX5_figuresEnd 3 (some .int) :: ([.fieldLink RX5 15 "WindTaken$Tape" "length" "I", .fieldLink RX5 9 "WindTaken$Tape" "bytes" "[B"] ++ wsX50)
noncomputable def wsX5_valueOf : List Cond := .code yX5_valueOf cX5_valueOf 5 (some .int) :: ([.fieldLink RX5 15 "WindTaken$Tape" "length" "I", .fieldLink RX5 9 "WindTaken$Tape" "bytes" "[B"] ++ wsX50)
noncomputable def wsX2_step_r1 : List Cond := [Cond.fieldLink RX2 9 "WindTaken$Reader" "tape" "LWindTaken$Tape;", Cond.fieldLink RX2 15 "WindTaken$Reader" "end" "I", Cond.fieldLink RX2 114 "WindTaken$Reader" "start" "I", Cond.fieldLink RX2 147 "WindTaken$Tape" "length" "I", Cond.fieldLink RX2 40 "WindTaken$Reader" "token" "I", Cond.fieldLink RX2 92 "WindTaken$Reader" "number" "I", Cond.fieldLink RX2 153 "WindTaken$Tape" "bytes" "[B", Cond.methodLink RX2 137 yX5_blanksEnd, Cond.instanceMethod yX5_blanksEnd, Cond.selects RX5 yX5_blanksEnd yX5_blanksEnd, Cond.initialized RX5, Cond.code yX5_blanksEnd cX5_blanksEnd 3 (some .int), Cond.fieldLink RX5 15 "WindTaken$Tape" "length" "I", Cond.fieldLink RX5 9 "WindTaken$Tape" "bytes" "[B", Cond.methodLink RX2 141 yX5_lettersEnd, Cond.instanceMethod yX5_lettersEnd, Cond.selects RX5 yX5_lettersEnd yX5_lettersEnd, Cond.code yX5_lettersEnd cX5_lettersEnd 3 (some .int), Cond.methodLink RX2 144 yX5_figuresEnd, Cond.instanceMethod yX5_figuresEnd, Cond.selects RX5 yX5_figuresEnd yX5_figuresEnd, Cond.code yX5_figuresEnd cX5_figuresEnd 3 (some .int), Cond.methodLink RX2 150 yX5_valueOf, Cond.instanceMethod yX5_valueOf]
noncomputable def wsX2_step_r2 : List Cond := [Cond.selects RX5 yX5_valueOf yX5_valueOf, Cond.code yX5_valueOf cX5_valueOf 5 (some .int)]
noncomputable def wsX2_step : List Cond := .code yX2_step cX2_step 3 none :: ((wsX2_step_r1 ++ wsX2_step_r2) ++ wsX20 ++ wsX50)
noncomputable def wsJ0_coder_7d493 : List Cond := .code yJ0_coder_7d493 cJ0_coder_7d493 1 (some .byte) :: ([.fieldLink RJ0 38 "java/lang/String" "COMPACT_STRINGS" "Z", .fieldLink RJ0 15 "java/lang/String" "coder" "B"])
noncomputable def wsJ0_length_8abf5 : List Cond := .code yJ0_length_8abf5 cJ0_length_8abf5 1 (some .int) :: ([.fieldLink RJ0 9 "java/lang/String" "value" "[B", .methodLink RJ0 335 yJ0_coder_7d493, .instanceMethod yJ0_coder_7d493, .selects RJ0 yJ0_coder_7d493 yJ0_coder_7d493, .initialized RJ0, .code yJ0_coder_7d493 cJ0_coder_7d493 1 (some .byte), .fieldLink RJ0 38 "java/lang/String" "COMPACT_STRINGS" "Z", .fieldLink RJ0 15 "java/lang/String" "coder" "B"])
noncomputable def wsJ0_isLatin1_aae02 : List Cond := .code yJ0_isLatin1_aae02 cJ0_isLatin1_aae02 1 (some .boolean) :: ([.fieldLink RJ0 38 "java/lang/String" "COMPACT_STRINGS" "Z", .fieldLink RJ0 15 "java/lang/String" "coder" "B"])
noncomputable def wsJ3_checkIndex_8e157 : List Cond := .code yJ3_checkIndex_8e157 cJ3_checkIndex_8e157 3 (some .int) :: ([])
noncomputable def wsJ0_checkIndex_df160 : List Cond := .code yJ0_checkIndex_df160 cJ0_checkIndex_df160 2 none :: ([.fieldLink RJ0 1053 "jdk/internal/util/Preconditions" "SIOOBE_FORMATTER" "Ljava/util/function/BiFunction;", .methodLink RJ0 1059 yJ3_checkIndex_8e157, .static yJ3_checkIndex_8e157, .initialized RJ3, .code yJ3_checkIndex_8e157 cJ3_checkIndex_8e157 3 (some .int)])
noncomputable def wsJ1_charAt_3b067 : List Cond := .code yJ1_charAt_3b067 cJ1_charAt_3b067 2 (some .char) :: ([.methodLink RJ1 9 yJ0_checkIndex_df160, .static yJ0_checkIndex_df160, .initialized RJ0, .code yJ0_checkIndex_df160 cJ0_checkIndex_df160 2 none, .fieldLink RJ0 1053 "jdk/internal/util/Preconditions" "SIOOBE_FORMATTER" "Ljava/util/function/BiFunction;", .methodLink RJ0 1059 yJ3_checkIndex_8e157, .static yJ3_checkIndex_8e157, .initialized RJ3, .code yJ3_checkIndex_8e157 cJ3_checkIndex_8e157 3 (some .int)])
noncomputable def wsJ2_length_9d52b : List Cond := .code yJ2_length_9d52b cJ2_length_9d52b 1 (some .int) :: ([])
noncomputable def wsJ2_checkIndex_2214a : List Cond := .code yJ2_checkIndex_2214a cJ2_checkIndex_2214a 2 none :: ([.methodLink RJ2 48 yJ2_length_9d52b, .static yJ2_length_9d52b, .initialized RJ2, .code yJ2_length_9d52b cJ2_length_9d52b 1 (some .int), .methodLink RJ2 414 yJ0_checkIndex_df160, .static yJ0_checkIndex_df160, .initialized RJ0, .code yJ0_checkIndex_df160 cJ0_checkIndex_df160 2 none, .fieldLink RJ0 1053 "jdk/internal/util/Preconditions" "SIOOBE_FORMATTER" "Ljava/util/function/BiFunction;", .methodLink RJ0 1059 yJ3_checkIndex_8e157, .static yJ3_checkIndex_8e157, .initialized RJ3, .code yJ3_checkIndex_8e157 cJ3_checkIndex_8e157 3 (some .int)])
noncomputable def wsJ2_getChar_3b067 : List Cond := .code yJ2_getChar_3b067 cJ2_getChar_3b067 2 (some .char) :: ([.fieldLink RJ2 44 "java/lang/StringUTF16" "$assertionsDisabled" "Z", .fieldLink RJ2 59 "java/lang/StringUTF16" "HI_BYTE_SHIFT" "I", .fieldLink RJ2 63 "java/lang/StringUTF16" "LO_BYTE_SHIFT" "I", .methodLink RJ2 48 yJ2_length_9d52b, .static yJ2_length_9d52b, .initialized RJ2, .code yJ2_length_9d52b cJ2_length_9d52b 1 (some .int)])
noncomputable def wsJ2_charAt_3b067 : List Cond := .code yJ2_charAt_3b067 cJ2_charAt_3b067 2 (some .char) :: ([.methodLink RJ2 67 yJ2_checkIndex_2214a, .static yJ2_checkIndex_2214a, .initialized RJ2, .code yJ2_checkIndex_2214a cJ2_checkIndex_2214a 2 none, .methodLink RJ2 48 yJ2_length_9d52b, .static yJ2_length_9d52b, .code yJ2_length_9d52b cJ2_length_9d52b 1 (some .int), .methodLink RJ2 414 yJ0_checkIndex_df160, .static yJ0_checkIndex_df160, .initialized RJ0, .code yJ0_checkIndex_df160 cJ0_checkIndex_df160 2 none, .fieldLink RJ0 1053 "jdk/internal/util/Preconditions" "SIOOBE_FORMATTER" "Ljava/util/function/BiFunction;", .methodLink RJ0 1059 yJ3_checkIndex_8e157, .static yJ3_checkIndex_8e157, .initialized RJ3, .code yJ3_checkIndex_8e157 cJ3_checkIndex_8e157 3 (some .int), .methodLink RJ2 71 yJ2_getChar_3b067, .static yJ2_getChar_3b067, .code yJ2_getChar_3b067 cJ2_getChar_3b067 2 (some .char), .fieldLink RJ2 44 "java/lang/StringUTF16" "$assertionsDisabled" "Z", .fieldLink RJ2 59 "java/lang/StringUTF16" "HI_BYTE_SHIFT" "I", .fieldLink RJ2 63 "java/lang/StringUTF16" "LO_BYTE_SHIFT" "I"])
noncomputable def wsJ0_charAt_5068e_r1 : List Cond := [Cond.fieldLink RJ0 9 "java/lang/String" "value" "[B", Cond.methodLink RJ0 492 yJ0_isLatin1_aae02, Cond.instanceMethod yJ0_isLatin1_aae02, Cond.selects RJ0 yJ0_isLatin1_aae02 yJ0_isLatin1_aae02, Cond.initialized RJ0, Cond.code yJ0_isLatin1_aae02 cJ0_isLatin1_aae02 1 (some .boolean), Cond.fieldLink RJ0 38 "java/lang/String" "COMPACT_STRINGS" "Z", Cond.fieldLink RJ0 15 "java/lang/String" "coder" "B", Cond.methodLink RJ0 495 yJ1_charAt_3b067, Cond.static yJ1_charAt_3b067, Cond.initialized RJ1, Cond.code yJ1_charAt_3b067 cJ1_charAt_3b067 2 (some .char), Cond.methodLink RJ1 9 yJ0_checkIndex_df160, Cond.static yJ0_checkIndex_df160, Cond.code yJ0_checkIndex_df160 cJ0_checkIndex_df160 2 none, Cond.fieldLink RJ0 1053 "jdk/internal/util/Preconditions" "SIOOBE_FORMATTER" "Ljava/util/function/BiFunction;", Cond.methodLink RJ0 1059 yJ3_checkIndex_8e157, Cond.static yJ3_checkIndex_8e157, Cond.initialized RJ3, Cond.code yJ3_checkIndex_8e157 cJ3_checkIndex_8e157 3 (some .int), Cond.methodLink RJ0 498 yJ2_charAt_3b067, Cond.static yJ2_charAt_3b067, Cond.initialized RJ2, Cond.code yJ2_charAt_3b067 cJ2_charAt_3b067 2 (some .char)]
noncomputable def wsJ0_charAt_5068e_r2 : List Cond := [Cond.methodLink RJ2 67 yJ2_checkIndex_2214a, Cond.static yJ2_checkIndex_2214a, Cond.code yJ2_checkIndex_2214a cJ2_checkIndex_2214a 2 none, Cond.methodLink RJ2 48 yJ2_length_9d52b, Cond.static yJ2_length_9d52b, Cond.code yJ2_length_9d52b cJ2_length_9d52b 1 (some .int), Cond.methodLink RJ2 414 yJ0_checkIndex_df160, Cond.methodLink RJ2 71 yJ2_getChar_3b067, Cond.static yJ2_getChar_3b067, Cond.code yJ2_getChar_3b067 cJ2_getChar_3b067 2 (some .char), Cond.fieldLink RJ2 44 "java/lang/StringUTF16" "$assertionsDisabled" "Z", Cond.fieldLink RJ2 59 "java/lang/StringUTF16" "HI_BYTE_SHIFT" "I", Cond.fieldLink RJ2 63 "java/lang/StringUTF16" "LO_BYTE_SHIFT" "I"]
noncomputable def wsJ0_charAt_5068e : List Cond := .code yJ0_charAt_5068e cJ0_charAt_5068e 2 (some .char) :: ((wsJ0_charAt_5068e_r1 ++ wsJ0_charAt_5068e_r2))
noncomputable def wsX5_tells_r1 : List Cond := [Cond.fieldLink RX5 15 "WindTaken$Tape" "length" "I", Cond.fieldLink RX5 9 "WindTaken$Tape" "bytes" "[B", Cond.methodLink RX5 19 yJ0_length_8abf5, Cond.instanceMethod yJ0_length_8abf5, Cond.selects RJ0 yJ0_length_8abf5 yJ0_length_8abf5, Cond.initialized RJ0, Cond.code yJ0_length_8abf5 cJ0_length_8abf5 1 (some .int), Cond.fieldLink RJ0 9 "java/lang/String" "value" "[B", Cond.methodLink RJ0 335 yJ0_coder_7d493, Cond.instanceMethod yJ0_coder_7d493, Cond.selects RJ0 yJ0_coder_7d493 yJ0_coder_7d493, Cond.code yJ0_coder_7d493 cJ0_coder_7d493 1 (some .byte), Cond.fieldLink RJ0 38 "java/lang/String" "COMPACT_STRINGS" "Z", Cond.fieldLink RJ0 15 "java/lang/String" "coder" "B", Cond.methodLink RX5 24 yJ0_charAt_5068e, Cond.instanceMethod yJ0_charAt_5068e, Cond.selects RJ0 yJ0_charAt_5068e yJ0_charAt_5068e, Cond.code yJ0_charAt_5068e cJ0_charAt_5068e 2 (some .char), Cond.methodLink RJ0 492 yJ0_isLatin1_aae02, Cond.instanceMethod yJ0_isLatin1_aae02, Cond.selects RJ0 yJ0_isLatin1_aae02 yJ0_isLatin1_aae02, Cond.code yJ0_isLatin1_aae02 cJ0_isLatin1_aae02 1 (some .boolean), Cond.methodLink RJ0 495 yJ1_charAt_3b067, Cond.static yJ1_charAt_3b067]
noncomputable def wsX5_tells_r2 : List Cond := [Cond.initialized RJ1, Cond.code yJ1_charAt_3b067 cJ1_charAt_3b067 2 (some .char), Cond.methodLink RJ1 9 yJ0_checkIndex_df160, Cond.static yJ0_checkIndex_df160, Cond.code yJ0_checkIndex_df160 cJ0_checkIndex_df160 2 none, Cond.fieldLink RJ0 1053 "jdk/internal/util/Preconditions" "SIOOBE_FORMATTER" "Ljava/util/function/BiFunction;", Cond.methodLink RJ0 1059 yJ3_checkIndex_8e157, Cond.static yJ3_checkIndex_8e157, Cond.initialized RJ3, Cond.code yJ3_checkIndex_8e157 cJ3_checkIndex_8e157 3 (some .int), Cond.methodLink RJ0 498 yJ2_charAt_3b067, Cond.static yJ2_charAt_3b067, Cond.initialized RJ2, Cond.code yJ2_charAt_3b067 cJ2_charAt_3b067 2 (some .char), Cond.methodLink RJ2 67 yJ2_checkIndex_2214a, Cond.static yJ2_checkIndex_2214a, Cond.code yJ2_checkIndex_2214a cJ2_checkIndex_2214a 2 none, Cond.methodLink RJ2 48 yJ2_length_9d52b, Cond.static yJ2_length_9d52b, Cond.code yJ2_length_9d52b cJ2_length_9d52b 1 (some .int), Cond.methodLink RJ2 414 yJ0_checkIndex_df160, Cond.methodLink RJ2 71 yJ2_getChar_3b067, Cond.static yJ2_getChar_3b067, Cond.code yJ2_getChar_3b067 cJ2_getChar_3b067 2 (some .char)]
noncomputable def wsX5_tells_r3 : List Cond := [Cond.fieldLink RJ2 44 "java/lang/StringUTF16" "$assertionsDisabled" "Z", Cond.fieldLink RJ2 59 "java/lang/StringUTF16" "HI_BYTE_SHIFT" "I", Cond.fieldLink RJ2 63 "java/lang/StringUTF16" "LO_BYTE_SHIFT" "I"]
noncomputable def wsX5_tells : List Cond := .code yX5_tells cX5_tells 5 (some .boolean) :: ((wsX5_tells_r1 ++ (wsX5_tells_r2 ++ wsX5_tells_r3)) ++ wsX50)
noncomputable def wsX2_isName_r1 : List Cond := [Cond.fieldLink RX2 40 "WindTaken$Reader" "token" "I", Cond.fieldLink RX2 9 "WindTaken$Reader" "tape" "LWindTaken$Tape;", Cond.fieldLink RX2 114 "WindTaken$Reader" "start" "I", Cond.fieldLink RX2 15 "WindTaken$Reader" "end" "I", Cond.methodLink RX2 131 yX5_tells, Cond.instanceMethod yX5_tells, Cond.selects RX5 yX5_tells yX5_tells, Cond.initialized RX5, Cond.code yX5_tells cX5_tells 5 (some .boolean), Cond.fieldLink RX5 15 "WindTaken$Tape" "length" "I", Cond.fieldLink RX5 9 "WindTaken$Tape" "bytes" "[B", Cond.methodLink RX5 19 yJ0_length_8abf5, Cond.instanceMethod yJ0_length_8abf5, Cond.selects RJ0 yJ0_length_8abf5 yJ0_length_8abf5, Cond.initialized RJ0, Cond.code yJ0_length_8abf5 cJ0_length_8abf5 1 (some .int), Cond.fieldLink RJ0 9 "java/lang/String" "value" "[B", Cond.methodLink RJ0 335 yJ0_coder_7d493, Cond.instanceMethod yJ0_coder_7d493, Cond.selects RJ0 yJ0_coder_7d493 yJ0_coder_7d493, Cond.code yJ0_coder_7d493 cJ0_coder_7d493 1 (some .byte), Cond.fieldLink RJ0 38 "java/lang/String" "COMPACT_STRINGS" "Z", Cond.fieldLink RJ0 15 "java/lang/String" "coder" "B", Cond.methodLink RX5 24 yJ0_charAt_5068e]
noncomputable def wsX2_isName_r2 : List Cond := [Cond.instanceMethod yJ0_charAt_5068e, Cond.selects RJ0 yJ0_charAt_5068e yJ0_charAt_5068e, Cond.code yJ0_charAt_5068e cJ0_charAt_5068e 2 (some .char), Cond.methodLink RJ0 492 yJ0_isLatin1_aae02, Cond.instanceMethod yJ0_isLatin1_aae02, Cond.selects RJ0 yJ0_isLatin1_aae02 yJ0_isLatin1_aae02, Cond.code yJ0_isLatin1_aae02 cJ0_isLatin1_aae02 1 (some .boolean), Cond.methodLink RJ0 495 yJ1_charAt_3b067, Cond.static yJ1_charAt_3b067, Cond.initialized RJ1, Cond.code yJ1_charAt_3b067 cJ1_charAt_3b067 2 (some .char), Cond.methodLink RJ1 9 yJ0_checkIndex_df160, Cond.static yJ0_checkIndex_df160, Cond.code yJ0_checkIndex_df160 cJ0_checkIndex_df160 2 none, Cond.fieldLink RJ0 1053 "jdk/internal/util/Preconditions" "SIOOBE_FORMATTER" "Ljava/util/function/BiFunction;", Cond.methodLink RJ0 1059 yJ3_checkIndex_8e157, Cond.static yJ3_checkIndex_8e157, Cond.initialized RJ3, Cond.code yJ3_checkIndex_8e157 cJ3_checkIndex_8e157 3 (some .int), Cond.methodLink RJ0 498 yJ2_charAt_3b067, Cond.static yJ2_charAt_3b067, Cond.initialized RJ2, Cond.code yJ2_charAt_3b067 cJ2_charAt_3b067 2 (some .char), Cond.methodLink RJ2 67 yJ2_checkIndex_2214a]
noncomputable def wsX2_isName_r3 : List Cond := [Cond.static yJ2_checkIndex_2214a, Cond.code yJ2_checkIndex_2214a cJ2_checkIndex_2214a 2 none, Cond.methodLink RJ2 48 yJ2_length_9d52b, Cond.static yJ2_length_9d52b, Cond.code yJ2_length_9d52b cJ2_length_9d52b 1 (some .int), Cond.methodLink RJ2 414 yJ0_checkIndex_df160, Cond.methodLink RJ2 71 yJ2_getChar_3b067, Cond.static yJ2_getChar_3b067, Cond.code yJ2_getChar_3b067 cJ2_getChar_3b067 2 (some .char), Cond.fieldLink RJ2 44 "java/lang/StringUTF16" "$assertionsDisabled" "Z", Cond.fieldLink RJ2 59 "java/lang/StringUTF16" "HI_BYTE_SHIFT" "I", Cond.fieldLink RJ2 63 "java/lang/StringUTF16" "LO_BYTE_SHIFT" "I"]
noncomputable def wsX2_isName : List Cond := .code yX2_isName cX2_isName 2 (some .boolean) :: ((wsX2_isName_r1 ++ (wsX2_isName_r2 ++ wsX2_isName_r3)) ++ wsX20 ++ wsX50)
noncomputable def wsX2_refuse : List Cond := .code yX2_refuse cX2_refuse 2 none :: ([.fieldLink RX2 19 "WindTaken$Reader" "fault" "I", .fieldLink RX2 114 "WindTaken$Reader" "start" "I", .fieldLink RX2 117 "WindTaken$Reader" "faultPlace" "I"] ++ wsX20)
noncomputable def wsX2_take_r1 : List Cond := [Cond.fieldLink RX2 19 "WindTaken$Reader" "fault" "I", Cond.methodLink RX2 71 yX2_refuse, Cond.instanceMethod yX2_refuse, Cond.selects RX2 yX2_refuse yX2_refuse, Cond.initialized RX2, Cond.code yX2_refuse cX2_refuse 2 none, Cond.fieldLink RX2 114 "WindTaken$Reader" "start" "I", Cond.fieldLink RX2 117 "WindTaken$Reader" "faultPlace" "I", Cond.methodLink RX2 30 yX2_step, Cond.instanceMethod yX2_step, Cond.selects RX2 yX2_step yX2_step, Cond.code yX2_step cX2_step 3 none, Cond.fieldLink RX2 9 "WindTaken$Reader" "tape" "LWindTaken$Tape;", Cond.fieldLink RX2 15 "WindTaken$Reader" "end" "I", Cond.fieldLink RX2 147 "WindTaken$Tape" "length" "I", Cond.fieldLink RX2 40 "WindTaken$Reader" "token" "I", Cond.fieldLink RX2 92 "WindTaken$Reader" "number" "I", Cond.fieldLink RX2 153 "WindTaken$Tape" "bytes" "[B", Cond.methodLink RX2 137 yX5_blanksEnd, Cond.instanceMethod yX5_blanksEnd, Cond.selects RX5 yX5_blanksEnd yX5_blanksEnd, Cond.initialized RX5, Cond.code yX5_blanksEnd cX5_blanksEnd 3 (some .int), Cond.fieldLink RX5 15 "WindTaken$Tape" "length" "I"]
noncomputable def wsX2_take_r2 : List Cond := [Cond.fieldLink RX5 9 "WindTaken$Tape" "bytes" "[B", Cond.methodLink RX2 141 yX5_lettersEnd, Cond.instanceMethod yX5_lettersEnd, Cond.selects RX5 yX5_lettersEnd yX5_lettersEnd, Cond.code yX5_lettersEnd cX5_lettersEnd 3 (some .int), Cond.methodLink RX2 144 yX5_figuresEnd, Cond.instanceMethod yX5_figuresEnd, Cond.selects RX5 yX5_figuresEnd yX5_figuresEnd, Cond.code yX5_figuresEnd cX5_figuresEnd 3 (some .int), Cond.methodLink RX2 150 yX5_valueOf, Cond.instanceMethod yX5_valueOf, Cond.selects RX5 yX5_valueOf yX5_valueOf, Cond.code yX5_valueOf cX5_valueOf 5 (some .int)]
noncomputable def wsX2_take : List Cond := .code yX2_take cX2_take 2 none :: ((wsX2_take_r1 ++ wsX2_take_r2) ++ wsX20 ++ wsX50)
noncomputable def wsX2_takeName_r1 : List Cond := [Cond.methodLink RX2 67 yX2_isName, Cond.instanceMethod yX2_isName, Cond.selects RX2 yX2_isName yX2_isName, Cond.initialized RX2, Cond.code yX2_isName cX2_isName 2 (some .boolean), Cond.fieldLink RX2 40 "WindTaken$Reader" "token" "I", Cond.fieldLink RX2 9 "WindTaken$Reader" "tape" "LWindTaken$Tape;", Cond.fieldLink RX2 114 "WindTaken$Reader" "start" "I", Cond.fieldLink RX2 15 "WindTaken$Reader" "end" "I", Cond.methodLink RX2 131 yX5_tells, Cond.instanceMethod yX5_tells, Cond.selects RX5 yX5_tells yX5_tells, Cond.initialized RX5, Cond.code yX5_tells cX5_tells 5 (some .boolean), Cond.fieldLink RX5 15 "WindTaken$Tape" "length" "I", Cond.fieldLink RX5 9 "WindTaken$Tape" "bytes" "[B", Cond.methodLink RX5 19 yJ0_length_8abf5, Cond.instanceMethod yJ0_length_8abf5, Cond.selects RJ0 yJ0_length_8abf5 yJ0_length_8abf5, Cond.initialized RJ0, Cond.code yJ0_length_8abf5 cJ0_length_8abf5 1 (some .int), Cond.fieldLink RJ0 9 "java/lang/String" "value" "[B", Cond.methodLink RJ0 335 yJ0_coder_7d493, Cond.instanceMethod yJ0_coder_7d493]
noncomputable def wsX2_takeName_r2 : List Cond := [Cond.selects RJ0 yJ0_coder_7d493 yJ0_coder_7d493, Cond.code yJ0_coder_7d493 cJ0_coder_7d493 1 (some .byte), Cond.fieldLink RJ0 38 "java/lang/String" "COMPACT_STRINGS" "Z", Cond.fieldLink RJ0 15 "java/lang/String" "coder" "B", Cond.methodLink RX5 24 yJ0_charAt_5068e, Cond.instanceMethod yJ0_charAt_5068e, Cond.selects RJ0 yJ0_charAt_5068e yJ0_charAt_5068e, Cond.code yJ0_charAt_5068e cJ0_charAt_5068e 2 (some .char), Cond.methodLink RJ0 492 yJ0_isLatin1_aae02, Cond.instanceMethod yJ0_isLatin1_aae02, Cond.selects RJ0 yJ0_isLatin1_aae02 yJ0_isLatin1_aae02, Cond.code yJ0_isLatin1_aae02 cJ0_isLatin1_aae02 1 (some .boolean), Cond.methodLink RJ0 495 yJ1_charAt_3b067, Cond.static yJ1_charAt_3b067, Cond.initialized RJ1, Cond.code yJ1_charAt_3b067 cJ1_charAt_3b067 2 (some .char), Cond.methodLink RJ1 9 yJ0_checkIndex_df160, Cond.static yJ0_checkIndex_df160, Cond.code yJ0_checkIndex_df160 cJ0_checkIndex_df160 2 none, Cond.fieldLink RJ0 1053 "jdk/internal/util/Preconditions" "SIOOBE_FORMATTER" "Ljava/util/function/BiFunction;", Cond.methodLink RJ0 1059 yJ3_checkIndex_8e157, Cond.static yJ3_checkIndex_8e157, Cond.initialized RJ3, Cond.code yJ3_checkIndex_8e157 cJ3_checkIndex_8e157 3 (some .int)]
noncomputable def wsX2_takeName_r3 : List Cond := [Cond.methodLink RJ0 498 yJ2_charAt_3b067, Cond.static yJ2_charAt_3b067, Cond.initialized RJ2, Cond.code yJ2_charAt_3b067 cJ2_charAt_3b067 2 (some .char), Cond.methodLink RJ2 67 yJ2_checkIndex_2214a, Cond.static yJ2_checkIndex_2214a, Cond.code yJ2_checkIndex_2214a cJ2_checkIndex_2214a 2 none, Cond.methodLink RJ2 48 yJ2_length_9d52b, Cond.static yJ2_length_9d52b, Cond.code yJ2_length_9d52b cJ2_length_9d52b 1 (some .int), Cond.methodLink RJ2 414 yJ0_checkIndex_df160, Cond.methodLink RJ2 71 yJ2_getChar_3b067, Cond.static yJ2_getChar_3b067, Cond.code yJ2_getChar_3b067 cJ2_getChar_3b067 2 (some .char), Cond.fieldLink RJ2 44 "java/lang/StringUTF16" "$assertionsDisabled" "Z", Cond.fieldLink RJ2 59 "java/lang/StringUTF16" "HI_BYTE_SHIFT" "I", Cond.fieldLink RJ2 63 "java/lang/StringUTF16" "LO_BYTE_SHIFT" "I", Cond.methodLink RX2 120 yX2_take, Cond.instanceMethod yX2_take, Cond.selects RX2 yX2_take yX2_take, Cond.code yX2_take cX2_take 2 none, Cond.fieldLink RX2 19 "WindTaken$Reader" "fault" "I", Cond.methodLink RX2 71 yX2_refuse, Cond.instanceMethod yX2_refuse]
noncomputable def wsX2_takeName_r4 : List Cond := [Cond.selects RX2 yX2_refuse yX2_refuse, Cond.code yX2_refuse cX2_refuse 2 none, Cond.fieldLink RX2 117 "WindTaken$Reader" "faultPlace" "I", Cond.methodLink RX2 30 yX2_step, Cond.instanceMethod yX2_step, Cond.selects RX2 yX2_step yX2_step, Cond.code yX2_step cX2_step 3 none, Cond.fieldLink RX2 147 "WindTaken$Tape" "length" "I", Cond.fieldLink RX2 92 "WindTaken$Reader" "number" "I", Cond.fieldLink RX2 153 "WindTaken$Tape" "bytes" "[B", Cond.methodLink RX2 137 yX5_blanksEnd, Cond.instanceMethod yX5_blanksEnd, Cond.selects RX5 yX5_blanksEnd yX5_blanksEnd, Cond.code yX5_blanksEnd cX5_blanksEnd 3 (some .int), Cond.methodLink RX2 141 yX5_lettersEnd, Cond.instanceMethod yX5_lettersEnd, Cond.selects RX5 yX5_lettersEnd yX5_lettersEnd, Cond.code yX5_lettersEnd cX5_lettersEnd 3 (some .int), Cond.methodLink RX2 144 yX5_figuresEnd, Cond.instanceMethod yX5_figuresEnd, Cond.selects RX5 yX5_figuresEnd yX5_figuresEnd, Cond.code yX5_figuresEnd cX5_figuresEnd 3 (some .int), Cond.methodLink RX2 150 yX5_valueOf, Cond.instanceMethod yX5_valueOf]
noncomputable def wsX2_takeName_r5 : List Cond := [Cond.selects RX5 yX5_valueOf yX5_valueOf, Cond.code yX5_valueOf cX5_valueOf 5 (some .int)]
noncomputable def wsX2_takeName : List Cond := .code yX2_takeName cX2_takeName 2 none :: ((wsX2_takeName_r1 ++ (wsX2_takeName_r2 ++ (wsX2_takeName_r3 ++ (wsX2_takeName_r4 ++ wsX2_takeName_r5)))) ++ wsX20 ++ wsX50)
noncomputable def wsX2_takeNumber_r1 : List Cond := [Cond.fieldLink RX2 40 "WindTaken$Reader" "token" "I", Cond.fieldLink RX2 92 "WindTaken$Reader" "number" "I", Cond.static yX7_isWithin, Cond.initialized RX7, Cond.code yX7_isWithin cX7_isWithin 3 (some .boolean), Cond.methodLink RX2 71 yX2_refuse, Cond.instanceMethod yX2_refuse, Cond.selects RX2 yX2_refuse yX2_refuse, Cond.initialized RX2, Cond.code yX2_refuse cX2_refuse 2 none, Cond.fieldLink RX2 19 "WindTaken$Reader" "fault" "I", Cond.fieldLink RX2 114 "WindTaken$Reader" "start" "I", Cond.fieldLink RX2 117 "WindTaken$Reader" "faultPlace" "I", Cond.methodLink RX2 120 yX2_take, Cond.instanceMethod yX2_take, Cond.selects RX2 yX2_take yX2_take, Cond.code yX2_take cX2_take 2 none, Cond.methodLink RX2 30 yX2_step, Cond.instanceMethod yX2_step, Cond.selects RX2 yX2_step yX2_step, Cond.code yX2_step cX2_step 3 none, Cond.fieldLink RX2 9 "WindTaken$Reader" "tape" "LWindTaken$Tape;", Cond.fieldLink RX2 15 "WindTaken$Reader" "end" "I", Cond.fieldLink RX2 147 "WindTaken$Tape" "length" "I"]
noncomputable def wsX2_takeNumber_r2 : List Cond := [Cond.fieldLink RX2 153 "WindTaken$Tape" "bytes" "[B", Cond.methodLink RX2 137 yX5_blanksEnd, Cond.instanceMethod yX5_blanksEnd, Cond.selects RX5 yX5_blanksEnd yX5_blanksEnd, Cond.initialized RX5, Cond.code yX5_blanksEnd cX5_blanksEnd 3 (some .int), Cond.fieldLink RX5 15 "WindTaken$Tape" "length" "I", Cond.fieldLink RX5 9 "WindTaken$Tape" "bytes" "[B", Cond.methodLink RX2 141 yX5_lettersEnd, Cond.instanceMethod yX5_lettersEnd, Cond.selects RX5 yX5_lettersEnd yX5_lettersEnd, Cond.code yX5_lettersEnd cX5_lettersEnd 3 (some .int), Cond.methodLink RX2 144 yX5_figuresEnd, Cond.instanceMethod yX5_figuresEnd, Cond.selects RX5 yX5_figuresEnd yX5_figuresEnd, Cond.code yX5_figuresEnd cX5_figuresEnd 3 (some .int), Cond.methodLink RX2 150 yX5_valueOf, Cond.instanceMethod yX5_valueOf, Cond.selects RX5 yX5_valueOf yX5_valueOf, Cond.code yX5_valueOf cX5_valueOf 5 (some .int)]
noncomputable def wsX2_takeNumber : List Cond := .code yX2_takeNumber cX2_takeNumber 4 (some .int) :: ((wsX2_takeNumber_r1 ++ wsX2_takeNumber_r2) ++ wsX20 ++ wsX50)
noncomputable def wsX2_takeSign_r1 : List Cond := [Cond.fieldLink RX2 40 "WindTaken$Reader" "token" "I", Cond.methodLink RX2 120 yX2_take, Cond.instanceMethod yX2_take, Cond.selects RX2 yX2_take yX2_take, Cond.initialized RX2, Cond.code yX2_take cX2_take 2 none, Cond.fieldLink RX2 19 "WindTaken$Reader" "fault" "I", Cond.methodLink RX2 71 yX2_refuse, Cond.instanceMethod yX2_refuse, Cond.selects RX2 yX2_refuse yX2_refuse, Cond.code yX2_refuse cX2_refuse 2 none, Cond.fieldLink RX2 114 "WindTaken$Reader" "start" "I", Cond.fieldLink RX2 117 "WindTaken$Reader" "faultPlace" "I", Cond.methodLink RX2 30 yX2_step, Cond.instanceMethod yX2_step, Cond.selects RX2 yX2_step yX2_step, Cond.code yX2_step cX2_step 3 none, Cond.fieldLink RX2 9 "WindTaken$Reader" "tape" "LWindTaken$Tape;", Cond.fieldLink RX2 15 "WindTaken$Reader" "end" "I", Cond.fieldLink RX2 147 "WindTaken$Tape" "length" "I", Cond.fieldLink RX2 92 "WindTaken$Reader" "number" "I", Cond.fieldLink RX2 153 "WindTaken$Tape" "bytes" "[B", Cond.methodLink RX2 137 yX5_blanksEnd, Cond.instanceMethod yX5_blanksEnd]
noncomputable def wsX2_takeSign_r2 : List Cond := [Cond.selects RX5 yX5_blanksEnd yX5_blanksEnd, Cond.initialized RX5, Cond.code yX5_blanksEnd cX5_blanksEnd 3 (some .int), Cond.fieldLink RX5 15 "WindTaken$Tape" "length" "I", Cond.fieldLink RX5 9 "WindTaken$Tape" "bytes" "[B", Cond.methodLink RX2 141 yX5_lettersEnd, Cond.instanceMethod yX5_lettersEnd, Cond.selects RX5 yX5_lettersEnd yX5_lettersEnd, Cond.code yX5_lettersEnd cX5_lettersEnd 3 (some .int), Cond.methodLink RX2 144 yX5_figuresEnd, Cond.instanceMethod yX5_figuresEnd, Cond.selects RX5 yX5_figuresEnd yX5_figuresEnd, Cond.code yX5_figuresEnd cX5_figuresEnd 3 (some .int), Cond.methodLink RX2 150 yX5_valueOf, Cond.instanceMethod yX5_valueOf, Cond.selects RX5 yX5_valueOf yX5_valueOf, Cond.code yX5_valueOf cX5_valueOf 5 (some .int)]
noncomputable def wsX2_takeSign : List Cond := .code yX2_takeSign cX2_takeSign 1 none :: ((wsX2_takeSign_r1 ++ wsX2_takeSign_r2) ++ wsX20 ++ wsX50)
noncomputable def wsX2_readLaw_r1 : List Cond := [Cond.fieldLink RX2 53 "WindTaken$Ridge" "take" "I", Cond.fieldLink RX2 56 "WindTaken$Ridge" "due" "I", Cond.fieldLink RX2 59 "WindTaken$Ridge" "price" "I", Cond.methodLink RX2 45 yX2_takeName, Cond.instanceMethod yX2_takeName, Cond.selects RX2 yX2_takeName yX2_takeName, Cond.initialized RX2, Cond.code yX2_takeName cX2_takeName 2 none, Cond.methodLink RX2 67 yX2_isName, Cond.instanceMethod yX2_isName, Cond.selects RX2 yX2_isName yX2_isName, Cond.code yX2_isName cX2_isName 2 (some .boolean), Cond.fieldLink RX2 40 "WindTaken$Reader" "token" "I", Cond.fieldLink RX2 9 "WindTaken$Reader" "tape" "LWindTaken$Tape;", Cond.fieldLink RX2 114 "WindTaken$Reader" "start" "I", Cond.fieldLink RX2 15 "WindTaken$Reader" "end" "I", Cond.methodLink RX2 131 yX5_tells, Cond.instanceMethod yX5_tells, Cond.selects RX5 yX5_tells yX5_tells, Cond.initialized RX5, Cond.code yX5_tells cX5_tells 5 (some .boolean), Cond.fieldLink RX5 15 "WindTaken$Tape" "length" "I", Cond.fieldLink RX5 9 "WindTaken$Tape" "bytes" "[B", Cond.methodLink RX5 19 yJ0_length_8abf5]
noncomputable def wsX2_readLaw_r2 : List Cond := [Cond.instanceMethod yJ0_length_8abf5, Cond.selects RJ0 yJ0_length_8abf5 yJ0_length_8abf5, Cond.initialized RJ0, Cond.code yJ0_length_8abf5 cJ0_length_8abf5 1 (some .int), Cond.fieldLink RJ0 9 "java/lang/String" "value" "[B", Cond.methodLink RJ0 335 yJ0_coder_7d493, Cond.instanceMethod yJ0_coder_7d493, Cond.selects RJ0 yJ0_coder_7d493 yJ0_coder_7d493, Cond.code yJ0_coder_7d493 cJ0_coder_7d493 1 (some .byte), Cond.fieldLink RJ0 38 "java/lang/String" "COMPACT_STRINGS" "Z", Cond.fieldLink RJ0 15 "java/lang/String" "coder" "B", Cond.methodLink RX5 24 yJ0_charAt_5068e, Cond.instanceMethod yJ0_charAt_5068e, Cond.selects RJ0 yJ0_charAt_5068e yJ0_charAt_5068e, Cond.code yJ0_charAt_5068e cJ0_charAt_5068e 2 (some .char), Cond.methodLink RJ0 492 yJ0_isLatin1_aae02, Cond.instanceMethod yJ0_isLatin1_aae02, Cond.selects RJ0 yJ0_isLatin1_aae02 yJ0_isLatin1_aae02, Cond.code yJ0_isLatin1_aae02 cJ0_isLatin1_aae02 1 (some .boolean), Cond.methodLink RJ0 495 yJ1_charAt_3b067, Cond.static yJ1_charAt_3b067, Cond.initialized RJ1, Cond.code yJ1_charAt_3b067 cJ1_charAt_3b067 2 (some .char), Cond.methodLink RJ1 9 yJ0_checkIndex_df160]
noncomputable def wsX2_readLaw_r3 : List Cond := [Cond.static yJ0_checkIndex_df160, Cond.code yJ0_checkIndex_df160 cJ0_checkIndex_df160 2 none, Cond.fieldLink RJ0 1053 "jdk/internal/util/Preconditions" "SIOOBE_FORMATTER" "Ljava/util/function/BiFunction;", Cond.methodLink RJ0 1059 yJ3_checkIndex_8e157, Cond.static yJ3_checkIndex_8e157, Cond.initialized RJ3, Cond.code yJ3_checkIndex_8e157 cJ3_checkIndex_8e157 3 (some .int), Cond.methodLink RJ0 498 yJ2_charAt_3b067, Cond.static yJ2_charAt_3b067, Cond.initialized RJ2, Cond.code yJ2_charAt_3b067 cJ2_charAt_3b067 2 (some .char), Cond.methodLink RJ2 67 yJ2_checkIndex_2214a, Cond.static yJ2_checkIndex_2214a, Cond.code yJ2_checkIndex_2214a cJ2_checkIndex_2214a 2 none, Cond.methodLink RJ2 48 yJ2_length_9d52b, Cond.static yJ2_length_9d52b, Cond.code yJ2_length_9d52b cJ2_length_9d52b 1 (some .int), Cond.methodLink RJ2 414 yJ0_checkIndex_df160, Cond.methodLink RJ2 71 yJ2_getChar_3b067, Cond.static yJ2_getChar_3b067, Cond.code yJ2_getChar_3b067 cJ2_getChar_3b067 2 (some .char), Cond.fieldLink RJ2 44 "java/lang/StringUTF16" "$assertionsDisabled" "Z", Cond.fieldLink RJ2 59 "java/lang/StringUTF16" "HI_BYTE_SHIFT" "I", Cond.fieldLink RJ2 63 "java/lang/StringUTF16" "LO_BYTE_SHIFT" "I"]
noncomputable def wsX2_readLaw_r4 : List Cond := [Cond.methodLink RX2 120 yX2_take, Cond.instanceMethod yX2_take, Cond.selects RX2 yX2_take yX2_take, Cond.code yX2_take cX2_take 2 none, Cond.fieldLink RX2 19 "WindTaken$Reader" "fault" "I", Cond.methodLink RX2 71 yX2_refuse, Cond.instanceMethod yX2_refuse, Cond.selects RX2 yX2_refuse yX2_refuse, Cond.code yX2_refuse cX2_refuse 2 none, Cond.fieldLink RX2 117 "WindTaken$Reader" "faultPlace" "I", Cond.methodLink RX2 30 yX2_step, Cond.instanceMethod yX2_step, Cond.selects RX2 yX2_step yX2_step, Cond.code yX2_step cX2_step 3 none, Cond.fieldLink RX2 147 "WindTaken$Tape" "length" "I", Cond.fieldLink RX2 92 "WindTaken$Reader" "number" "I", Cond.fieldLink RX2 153 "WindTaken$Tape" "bytes" "[B", Cond.methodLink RX2 137 yX5_blanksEnd, Cond.instanceMethod yX5_blanksEnd, Cond.selects RX5 yX5_blanksEnd yX5_blanksEnd, Cond.code yX5_blanksEnd cX5_blanksEnd 3 (some .int), Cond.methodLink RX2 141 yX5_lettersEnd, Cond.instanceMethod yX5_lettersEnd, Cond.selects RX5 yX5_lettersEnd yX5_lettersEnd]
noncomputable def wsX2_readLaw_r5 : List Cond := [Cond.code yX5_lettersEnd cX5_lettersEnd 3 (some .int), Cond.methodLink RX2 144 yX5_figuresEnd, Cond.instanceMethod yX5_figuresEnd, Cond.selects RX5 yX5_figuresEnd yX5_figuresEnd, Cond.code yX5_figuresEnd cX5_figuresEnd 3 (some .int), Cond.methodLink RX2 150 yX5_valueOf, Cond.instanceMethod yX5_valueOf, Cond.selects RX5 yX5_valueOf yX5_valueOf, Cond.code yX5_valueOf cX5_valueOf 5 (some .int), Cond.methodLink RX2 49 yX2_takeNumber, Cond.instanceMethod yX2_takeNumber, Cond.selects RX2 yX2_takeNumber yX2_takeNumber, Cond.code yX2_takeNumber cX2_takeNumber 4 (some .int), Cond.static yX7_isWithin, Cond.initialized RX7, Cond.code yX7_isWithin cX7_isWithin 3 (some .boolean), Cond.methodLink RX2 62 yX2_takeSign, Cond.instanceMethod yX2_takeSign, Cond.selects RX2 yX2_takeSign yX2_takeSign, Cond.code yX2_takeSign cX2_takeSign 1 none]
noncomputable def wsX2_readLaw : List Cond := .code yX2_readLaw cX2_readLaw 2 none :: ((wsX2_readLaw_r1 ++ (wsX2_readLaw_r2 ++ (wsX2_readLaw_r3 ++ (wsX2_readLaw_r4 ++ wsX2_readLaw_r5)))) ++ wsX30 ++ wsX20 ++ wsX50)
noncomputable def wsX2_sortName : List Cond := .code yX2_sortName cX2_sortName 1 (some (.object "java/lang/String")) :: ([])
noncomputable def wsX2_takeSort_r1 : List Cond := [Cond.methodLink RX2 123 yX2_sortName, Cond.static yX2_sortName, Cond.initialized RX2, Cond.code yX2_sortName cX2_sortName 1 (some (.object "java/lang/String")), Cond.methodLink RX2 67 yX2_isName, Cond.instanceMethod yX2_isName, Cond.selects RX2 yX2_isName yX2_isName, Cond.code yX2_isName cX2_isName 2 (some .boolean), Cond.fieldLink RX2 40 "WindTaken$Reader" "token" "I", Cond.fieldLink RX2 9 "WindTaken$Reader" "tape" "LWindTaken$Tape;", Cond.fieldLink RX2 114 "WindTaken$Reader" "start" "I", Cond.fieldLink RX2 15 "WindTaken$Reader" "end" "I", Cond.methodLink RX2 131 yX5_tells, Cond.instanceMethod yX5_tells, Cond.selects RX5 yX5_tells yX5_tells, Cond.initialized RX5, Cond.code yX5_tells cX5_tells 5 (some .boolean), Cond.fieldLink RX5 15 "WindTaken$Tape" "length" "I", Cond.fieldLink RX5 9 "WindTaken$Tape" "bytes" "[B", Cond.methodLink RX5 19 yJ0_length_8abf5, Cond.instanceMethod yJ0_length_8abf5, Cond.selects RJ0 yJ0_length_8abf5 yJ0_length_8abf5, Cond.initialized RJ0, Cond.code yJ0_length_8abf5 cJ0_length_8abf5 1 (some .int)]
noncomputable def wsX2_takeSort_r2 : List Cond := [Cond.fieldLink RJ0 9 "java/lang/String" "value" "[B", Cond.methodLink RJ0 335 yJ0_coder_7d493, Cond.instanceMethod yJ0_coder_7d493, Cond.selects RJ0 yJ0_coder_7d493 yJ0_coder_7d493, Cond.code yJ0_coder_7d493 cJ0_coder_7d493 1 (some .byte), Cond.fieldLink RJ0 38 "java/lang/String" "COMPACT_STRINGS" "Z", Cond.fieldLink RJ0 15 "java/lang/String" "coder" "B", Cond.methodLink RX5 24 yJ0_charAt_5068e, Cond.instanceMethod yJ0_charAt_5068e, Cond.selects RJ0 yJ0_charAt_5068e yJ0_charAt_5068e, Cond.code yJ0_charAt_5068e cJ0_charAt_5068e 2 (some .char), Cond.methodLink RJ0 492 yJ0_isLatin1_aae02, Cond.instanceMethod yJ0_isLatin1_aae02, Cond.selects RJ0 yJ0_isLatin1_aae02 yJ0_isLatin1_aae02, Cond.code yJ0_isLatin1_aae02 cJ0_isLatin1_aae02 1 (some .boolean), Cond.methodLink RJ0 495 yJ1_charAt_3b067, Cond.static yJ1_charAt_3b067, Cond.initialized RJ1, Cond.code yJ1_charAt_3b067 cJ1_charAt_3b067 2 (some .char), Cond.methodLink RJ1 9 yJ0_checkIndex_df160, Cond.static yJ0_checkIndex_df160, Cond.code yJ0_checkIndex_df160 cJ0_checkIndex_df160 2 none, Cond.fieldLink RJ0 1053 "jdk/internal/util/Preconditions" "SIOOBE_FORMATTER" "Ljava/util/function/BiFunction;", Cond.methodLink RJ0 1059 yJ3_checkIndex_8e157]
noncomputable def wsX2_takeSort_r3 : List Cond := [Cond.static yJ3_checkIndex_8e157, Cond.initialized RJ3, Cond.code yJ3_checkIndex_8e157 cJ3_checkIndex_8e157 3 (some .int), Cond.methodLink RJ0 498 yJ2_charAt_3b067, Cond.static yJ2_charAt_3b067, Cond.initialized RJ2, Cond.code yJ2_charAt_3b067 cJ2_charAt_3b067 2 (some .char), Cond.methodLink RJ2 67 yJ2_checkIndex_2214a, Cond.static yJ2_checkIndex_2214a, Cond.code yJ2_checkIndex_2214a cJ2_checkIndex_2214a 2 none, Cond.methodLink RJ2 48 yJ2_length_9d52b, Cond.static yJ2_length_9d52b, Cond.code yJ2_length_9d52b cJ2_length_9d52b 1 (some .int), Cond.methodLink RJ2 414 yJ0_checkIndex_df160, Cond.methodLink RJ2 71 yJ2_getChar_3b067, Cond.static yJ2_getChar_3b067, Cond.code yJ2_getChar_3b067 cJ2_getChar_3b067 2 (some .char), Cond.fieldLink RJ2 44 "java/lang/StringUTF16" "$assertionsDisabled" "Z", Cond.fieldLink RJ2 59 "java/lang/StringUTF16" "HI_BYTE_SHIFT" "I", Cond.fieldLink RJ2 63 "java/lang/StringUTF16" "LO_BYTE_SHIFT" "I", Cond.methodLink RX2 120 yX2_take, Cond.instanceMethod yX2_take, Cond.selects RX2 yX2_take yX2_take, Cond.code yX2_take cX2_take 2 none]
noncomputable def wsX2_takeSort_r4 : List Cond := [Cond.fieldLink RX2 19 "WindTaken$Reader" "fault" "I", Cond.methodLink RX2 71 yX2_refuse, Cond.instanceMethod yX2_refuse, Cond.selects RX2 yX2_refuse yX2_refuse, Cond.code yX2_refuse cX2_refuse 2 none, Cond.fieldLink RX2 117 "WindTaken$Reader" "faultPlace" "I", Cond.methodLink RX2 30 yX2_step, Cond.instanceMethod yX2_step, Cond.selects RX2 yX2_step yX2_step, Cond.code yX2_step cX2_step 3 none, Cond.fieldLink RX2 147 "WindTaken$Tape" "length" "I", Cond.fieldLink RX2 92 "WindTaken$Reader" "number" "I", Cond.fieldLink RX2 153 "WindTaken$Tape" "bytes" "[B", Cond.methodLink RX2 137 yX5_blanksEnd, Cond.instanceMethod yX5_blanksEnd, Cond.selects RX5 yX5_blanksEnd yX5_blanksEnd, Cond.code yX5_blanksEnd cX5_blanksEnd 3 (some .int), Cond.methodLink RX2 141 yX5_lettersEnd, Cond.instanceMethod yX5_lettersEnd, Cond.selects RX5 yX5_lettersEnd yX5_lettersEnd, Cond.code yX5_lettersEnd cX5_lettersEnd 3 (some .int), Cond.methodLink RX2 144 yX5_figuresEnd, Cond.instanceMethod yX5_figuresEnd, Cond.selects RX5 yX5_figuresEnd yX5_figuresEnd]
noncomputable def wsX2_takeSort_r5 : List Cond := [Cond.code yX5_figuresEnd cX5_figuresEnd 3 (some .int), Cond.methodLink RX2 150 yX5_valueOf, Cond.instanceMethod yX5_valueOf, Cond.selects RX5 yX5_valueOf yX5_valueOf, Cond.code yX5_valueOf cX5_valueOf 5 (some .int)]
noncomputable def wsX2_takeSort : List Cond := .code yX2_takeSort cX2_takeSort 3 (some .int) :: ((wsX2_takeSort_r1 ++ (wsX2_takeSort_r2 ++ (wsX2_takeSort_r3 ++ (wsX2_takeSort_r4 ++ wsX2_takeSort_r5)))) ++ wsX20 ++ wsX50)
noncomputable def wsX3_isTaken : List Cond := .code yX3_isTaken cX3_isTaken 4 (some .boolean) :: ([.fieldLink RX3 18 "WindTaken$Ridge" "count" "I", .fieldLink RX3 11 "WindTaken$Ridge" "mills" "[LWindTaken$Mill;", .fieldLink RX3 38 "WindTaken$Mill" "x" "I", .fieldLink RX3 41 "WindTaken$Mill" "y" "I"] ++ wsX30 ++ wsX00)
noncomputable def wsX2_readMill_r1 : List Cond := [Cond.fieldLink RX2 22 "WindTaken$Ridge" "count" "I", Cond.fieldLink RX2 19 "WindTaken$Reader" "fault" "I", Cond.fieldLink RX2 75 "WindTaken$Ridge" "mills" "[LWindTaken$Mill;", Cond.fieldLink RX2 89 "WindTaken$Mill" "x" "I", Cond.fieldLink RX2 40 "WindTaken$Reader" "token" "I", Cond.fieldLink RX2 92 "WindTaken$Reader" "number" "I", Cond.fieldLink RX2 99 "WindTaken$Mill" "y" "I", Cond.fieldLink RX2 102 "WindTaken$Mill" "floors" "I", Cond.fieldLink RX2 105 "WindTaken$Mill" "sails" "I", Cond.fieldLink RX2 108 "WindTaken$Mill" "age" "I", Cond.fieldLink RX2 111 "WindTaken$Mill" "corn" "I", Cond.methodLink RX2 67 yX2_isName, Cond.instanceMethod yX2_isName, Cond.selects RX2 yX2_isName yX2_isName, Cond.initialized RX2, Cond.code yX2_isName cX2_isName 2 (some .boolean), Cond.fieldLink RX2 9 "WindTaken$Reader" "tape" "LWindTaken$Tape;", Cond.fieldLink RX2 114 "WindTaken$Reader" "start" "I", Cond.fieldLink RX2 15 "WindTaken$Reader" "end" "I", Cond.methodLink RX2 131 yX5_tells, Cond.instanceMethod yX5_tells, Cond.selects RX5 yX5_tells yX5_tells, Cond.initialized RX5, Cond.code yX5_tells cX5_tells 5 (some .boolean)]
noncomputable def wsX2_readMill_r2 : List Cond := [Cond.fieldLink RX5 15 "WindTaken$Tape" "length" "I", Cond.fieldLink RX5 9 "WindTaken$Tape" "bytes" "[B", Cond.methodLink RX5 19 yJ0_length_8abf5, Cond.instanceMethod yJ0_length_8abf5, Cond.selects RJ0 yJ0_length_8abf5 yJ0_length_8abf5, Cond.initialized RJ0, Cond.code yJ0_length_8abf5 cJ0_length_8abf5 1 (some .int), Cond.fieldLink RJ0 9 "java/lang/String" "value" "[B", Cond.methodLink RJ0 335 yJ0_coder_7d493, Cond.instanceMethod yJ0_coder_7d493, Cond.selects RJ0 yJ0_coder_7d493 yJ0_coder_7d493, Cond.code yJ0_coder_7d493 cJ0_coder_7d493 1 (some .byte), Cond.fieldLink RJ0 38 "java/lang/String" "COMPACT_STRINGS" "Z", Cond.fieldLink RJ0 15 "java/lang/String" "coder" "B", Cond.methodLink RX5 24 yJ0_charAt_5068e, Cond.instanceMethod yJ0_charAt_5068e, Cond.selects RJ0 yJ0_charAt_5068e yJ0_charAt_5068e, Cond.code yJ0_charAt_5068e cJ0_charAt_5068e 2 (some .char), Cond.methodLink RJ0 492 yJ0_isLatin1_aae02, Cond.instanceMethod yJ0_isLatin1_aae02, Cond.selects RJ0 yJ0_isLatin1_aae02 yJ0_isLatin1_aae02, Cond.code yJ0_isLatin1_aae02 cJ0_isLatin1_aae02 1 (some .boolean), Cond.methodLink RJ0 495 yJ1_charAt_3b067, Cond.static yJ1_charAt_3b067]
noncomputable def wsX2_readMill_r3 : List Cond := [Cond.initialized RJ1, Cond.code yJ1_charAt_3b067 cJ1_charAt_3b067 2 (some .char), Cond.methodLink RJ1 9 yJ0_checkIndex_df160, Cond.static yJ0_checkIndex_df160, Cond.code yJ0_checkIndex_df160 cJ0_checkIndex_df160 2 none, Cond.fieldLink RJ0 1053 "jdk/internal/util/Preconditions" "SIOOBE_FORMATTER" "Ljava/util/function/BiFunction;", Cond.methodLink RJ0 1059 yJ3_checkIndex_8e157, Cond.static yJ3_checkIndex_8e157, Cond.initialized RJ3, Cond.code yJ3_checkIndex_8e157 cJ3_checkIndex_8e157 3 (some .int), Cond.methodLink RJ0 498 yJ2_charAt_3b067, Cond.static yJ2_charAt_3b067, Cond.initialized RJ2, Cond.code yJ2_charAt_3b067 cJ2_charAt_3b067 2 (some .char), Cond.methodLink RJ2 67 yJ2_checkIndex_2214a, Cond.static yJ2_checkIndex_2214a, Cond.code yJ2_checkIndex_2214a cJ2_checkIndex_2214a 2 none, Cond.methodLink RJ2 48 yJ2_length_9d52b, Cond.static yJ2_length_9d52b, Cond.code yJ2_length_9d52b cJ2_length_9d52b 1 (some .int), Cond.methodLink RJ2 414 yJ0_checkIndex_df160, Cond.methodLink RJ2 71 yJ2_getChar_3b067, Cond.static yJ2_getChar_3b067, Cond.code yJ2_getChar_3b067 cJ2_getChar_3b067 2 (some .char)]
noncomputable def wsX2_readMill_r4 : List Cond := [Cond.fieldLink RJ2 44 "java/lang/StringUTF16" "$assertionsDisabled" "Z", Cond.fieldLink RJ2 59 "java/lang/StringUTF16" "HI_BYTE_SHIFT" "I", Cond.fieldLink RJ2 63 "java/lang/StringUTF16" "LO_BYTE_SHIFT" "I", Cond.methodLink RX2 71 yX2_refuse, Cond.instanceMethod yX2_refuse, Cond.selects RX2 yX2_refuse yX2_refuse, Cond.code yX2_refuse cX2_refuse 2 none, Cond.fieldLink RX2 117 "WindTaken$Reader" "faultPlace" "I", Cond.methodLink RX2 45 yX2_takeName, Cond.instanceMethod yX2_takeName, Cond.selects RX2 yX2_takeName yX2_takeName, Cond.code yX2_takeName cX2_takeName 2 none, Cond.methodLink RX2 120 yX2_take, Cond.instanceMethod yX2_take, Cond.selects RX2 yX2_take yX2_take, Cond.code yX2_take cX2_take 2 none, Cond.methodLink RX2 30 yX2_step, Cond.instanceMethod yX2_step, Cond.selects RX2 yX2_step yX2_step, Cond.code yX2_step cX2_step 3 none, Cond.fieldLink RX2 147 "WindTaken$Tape" "length" "I", Cond.fieldLink RX2 153 "WindTaken$Tape" "bytes" "[B", Cond.methodLink RX2 137 yX5_blanksEnd, Cond.instanceMethod yX5_blanksEnd]
noncomputable def wsX2_readMill_r5 : List Cond := [Cond.selects RX5 yX5_blanksEnd yX5_blanksEnd, Cond.code yX5_blanksEnd cX5_blanksEnd 3 (some .int), Cond.methodLink RX2 141 yX5_lettersEnd, Cond.instanceMethod yX5_lettersEnd, Cond.selects RX5 yX5_lettersEnd yX5_lettersEnd, Cond.code yX5_lettersEnd cX5_lettersEnd 3 (some .int), Cond.methodLink RX2 144 yX5_figuresEnd, Cond.instanceMethod yX5_figuresEnd, Cond.selects RX5 yX5_figuresEnd yX5_figuresEnd, Cond.code yX5_figuresEnd cX5_figuresEnd 3 (some .int), Cond.methodLink RX2 150 yX5_valueOf, Cond.instanceMethod yX5_valueOf, Cond.selects RX5 yX5_valueOf yX5_valueOf, Cond.code yX5_valueOf cX5_valueOf 5 (some .int), Cond.methodLink RX2 79 yX2_takeSort, Cond.instanceMethod yX2_takeSort, Cond.selects RX2 yX2_takeSort yX2_takeSort, Cond.code yX2_takeSort cX2_takeSort 3 (some .int), Cond.methodLink RX2 123 yX2_sortName, Cond.static yX2_sortName, Cond.code yX2_sortName cX2_sortName 1 (some (.object "java/lang/String")), Cond.methodLink RX2 83 yX0_begin, Cond.instanceMethod yX0_begin, Cond.selects RX0 yX0_begin yX0_begin]
noncomputable def wsX2_readMill_r6 : List Cond := [Cond.initialized RX0, Cond.code yX0_begin cX0_begin 3 none, Cond.fieldLink RX0 9 "WindTaken$Mill" "number" "I", Cond.fieldLink RX0 15 "WindTaken$Mill" "kind" "I", Cond.fieldLink RX0 18 "WindTaken$Mill" "flour" "I", Cond.fieldLink RX0 21 "WindTaken$Mill" "wear" "I", Cond.fieldLink RX0 24 "WindTaken$Mill" "facing" "I", Cond.fieldLink RX0 27 "WindTaken$Mill" "furled" "Z", Cond.methodLink RX2 49 yX2_takeNumber, Cond.instanceMethod yX2_takeNumber, Cond.selects RX2 yX2_takeNumber yX2_takeNumber, Cond.code yX2_takeNumber cX2_takeNumber 4 (some .int), Cond.static yX7_isWithin, Cond.initialized RX7, Cond.code yX7_isWithin cX7_isWithin 3 (some .boolean), Cond.methodLink RX2 95 yX3_isTaken, Cond.instanceMethod yX3_isTaken, Cond.selects RX3 yX3_isTaken yX3_isTaken, Cond.initialized RX3, Cond.code yX3_isTaken cX3_isTaken 4 (some .boolean), Cond.fieldLink RX3 18 "WindTaken$Ridge" "count" "I", Cond.fieldLink RX3 11 "WindTaken$Ridge" "mills" "[LWindTaken$Mill;", Cond.fieldLink RX3 38 "WindTaken$Mill" "x" "I", Cond.fieldLink RX3 41 "WindTaken$Mill" "y" "I"]
noncomputable def wsX2_readMill_r7 : List Cond := [Cond.methodLink RX2 62 yX2_takeSign, Cond.instanceMethod yX2_takeSign, Cond.selects RX2 yX2_takeSign yX2_takeSign, Cond.code yX2_takeSign cX2_takeSign 1 none]
noncomputable def wsX2_readMill : List Cond := .code yX2_readMill cX2_readMill 4 none :: ((wsX2_readMill_r1 ++ (wsX2_readMill_r2 ++ (wsX2_readMill_r3 ++ (wsX2_readMill_r4 ++ (wsX2_readMill_r5 ++ (wsX2_readMill_r6 ++ wsX2_readMill_r7)))))) ++ wsX30 ++ wsX20 ++ wsX00 ++ wsX50)
noncomputable def wsX2_read_r1 : List Cond := [Cond.fieldLink RX2 15 "WindTaken$Reader" "end" "I", Cond.fieldLink RX2 19 "WindTaken$Reader" "fault" "I", Cond.fieldLink RX2 22 "WindTaken$Ridge" "count" "I", Cond.fieldLink RX2 27 "WindTaken$Ridge" "gone" "I", Cond.fieldLink RX2 40 "WindTaken$Reader" "token" "I", Cond.methodLink RX2 30 yX2_step, Cond.instanceMethod yX2_step, Cond.selects RX2 yX2_step yX2_step, Cond.initialized RX2, Cond.code yX2_step cX2_step 3 none, Cond.fieldLink RX2 9 "WindTaken$Reader" "tape" "LWindTaken$Tape;", Cond.fieldLink RX2 114 "WindTaken$Reader" "start" "I", Cond.fieldLink RX2 147 "WindTaken$Tape" "length" "I", Cond.fieldLink RX2 92 "WindTaken$Reader" "number" "I", Cond.fieldLink RX2 153 "WindTaken$Tape" "bytes" "[B", Cond.methodLink RX2 137 yX5_blanksEnd, Cond.instanceMethod yX5_blanksEnd, Cond.selects RX5 yX5_blanksEnd yX5_blanksEnd, Cond.initialized RX5, Cond.code yX5_blanksEnd cX5_blanksEnd 3 (some .int), Cond.fieldLink RX5 15 "WindTaken$Tape" "length" "I", Cond.fieldLink RX5 9 "WindTaken$Tape" "bytes" "[B", Cond.methodLink RX2 141 yX5_lettersEnd, Cond.instanceMethod yX5_lettersEnd]
noncomputable def wsX2_read_r2 : List Cond := [Cond.selects RX5 yX5_lettersEnd yX5_lettersEnd, Cond.code yX5_lettersEnd cX5_lettersEnd 3 (some .int), Cond.methodLink RX2 144 yX5_figuresEnd, Cond.instanceMethod yX5_figuresEnd, Cond.selects RX5 yX5_figuresEnd yX5_figuresEnd, Cond.code yX5_figuresEnd cX5_figuresEnd 3 (some .int), Cond.methodLink RX2 150 yX5_valueOf, Cond.instanceMethod yX5_valueOf, Cond.selects RX5 yX5_valueOf yX5_valueOf, Cond.code yX5_valueOf cX5_valueOf 5 (some .int), Cond.methodLink RX2 33 yX2_readLaw, Cond.instanceMethod yX2_readLaw, Cond.selects RX2 yX2_readLaw yX2_readLaw, Cond.code yX2_readLaw cX2_readLaw 2 none, Cond.fieldLink RX2 53 "WindTaken$Ridge" "take" "I", Cond.fieldLink RX2 56 "WindTaken$Ridge" "due" "I", Cond.fieldLink RX2 59 "WindTaken$Ridge" "price" "I", Cond.methodLink RX2 45 yX2_takeName, Cond.instanceMethod yX2_takeName, Cond.selects RX2 yX2_takeName yX2_takeName, Cond.code yX2_takeName cX2_takeName 2 none, Cond.methodLink RX2 67 yX2_isName, Cond.instanceMethod yX2_isName, Cond.selects RX2 yX2_isName yX2_isName]
noncomputable def wsX2_read_r3 : List Cond := [Cond.code yX2_isName cX2_isName 2 (some .boolean), Cond.methodLink RX2 131 yX5_tells, Cond.instanceMethod yX5_tells, Cond.selects RX5 yX5_tells yX5_tells, Cond.code yX5_tells cX5_tells 5 (some .boolean), Cond.methodLink RX5 19 yJ0_length_8abf5, Cond.instanceMethod yJ0_length_8abf5, Cond.selects RJ0 yJ0_length_8abf5 yJ0_length_8abf5, Cond.initialized RJ0, Cond.code yJ0_length_8abf5 cJ0_length_8abf5 1 (some .int), Cond.fieldLink RJ0 9 "java/lang/String" "value" "[B", Cond.methodLink RJ0 335 yJ0_coder_7d493, Cond.instanceMethod yJ0_coder_7d493, Cond.selects RJ0 yJ0_coder_7d493 yJ0_coder_7d493, Cond.code yJ0_coder_7d493 cJ0_coder_7d493 1 (some .byte), Cond.fieldLink RJ0 38 "java/lang/String" "COMPACT_STRINGS" "Z", Cond.fieldLink RJ0 15 "java/lang/String" "coder" "B", Cond.methodLink RX5 24 yJ0_charAt_5068e, Cond.instanceMethod yJ0_charAt_5068e, Cond.selects RJ0 yJ0_charAt_5068e yJ0_charAt_5068e, Cond.code yJ0_charAt_5068e cJ0_charAt_5068e 2 (some .char), Cond.methodLink RJ0 492 yJ0_isLatin1_aae02, Cond.instanceMethod yJ0_isLatin1_aae02, Cond.selects RJ0 yJ0_isLatin1_aae02 yJ0_isLatin1_aae02]
noncomputable def wsX2_read_r4 : List Cond := [Cond.code yJ0_isLatin1_aae02 cJ0_isLatin1_aae02 1 (some .boolean), Cond.methodLink RJ0 495 yJ1_charAt_3b067, Cond.static yJ1_charAt_3b067, Cond.initialized RJ1, Cond.code yJ1_charAt_3b067 cJ1_charAt_3b067 2 (some .char), Cond.methodLink RJ1 9 yJ0_checkIndex_df160, Cond.static yJ0_checkIndex_df160, Cond.code yJ0_checkIndex_df160 cJ0_checkIndex_df160 2 none, Cond.fieldLink RJ0 1053 "jdk/internal/util/Preconditions" "SIOOBE_FORMATTER" "Ljava/util/function/BiFunction;", Cond.methodLink RJ0 1059 yJ3_checkIndex_8e157, Cond.static yJ3_checkIndex_8e157, Cond.initialized RJ3, Cond.code yJ3_checkIndex_8e157 cJ3_checkIndex_8e157 3 (some .int), Cond.methodLink RJ0 498 yJ2_charAt_3b067, Cond.static yJ2_charAt_3b067, Cond.initialized RJ2, Cond.code yJ2_charAt_3b067 cJ2_charAt_3b067 2 (some .char), Cond.methodLink RJ2 67 yJ2_checkIndex_2214a, Cond.static yJ2_checkIndex_2214a, Cond.code yJ2_checkIndex_2214a cJ2_checkIndex_2214a 2 none, Cond.methodLink RJ2 48 yJ2_length_9d52b, Cond.static yJ2_length_9d52b, Cond.code yJ2_length_9d52b cJ2_length_9d52b 1 (some .int), Cond.methodLink RJ2 414 yJ0_checkIndex_df160]
noncomputable def wsX2_read_r5 : List Cond := [Cond.methodLink RJ2 71 yJ2_getChar_3b067, Cond.static yJ2_getChar_3b067, Cond.code yJ2_getChar_3b067 cJ2_getChar_3b067 2 (some .char), Cond.fieldLink RJ2 44 "java/lang/StringUTF16" "$assertionsDisabled" "Z", Cond.fieldLink RJ2 59 "java/lang/StringUTF16" "HI_BYTE_SHIFT" "I", Cond.fieldLink RJ2 63 "java/lang/StringUTF16" "LO_BYTE_SHIFT" "I", Cond.methodLink RX2 120 yX2_take, Cond.instanceMethod yX2_take, Cond.selects RX2 yX2_take yX2_take, Cond.code yX2_take cX2_take 2 none, Cond.methodLink RX2 71 yX2_refuse, Cond.instanceMethod yX2_refuse, Cond.selects RX2 yX2_refuse yX2_refuse, Cond.code yX2_refuse cX2_refuse 2 none, Cond.fieldLink RX2 117 "WindTaken$Reader" "faultPlace" "I", Cond.methodLink RX2 49 yX2_takeNumber, Cond.instanceMethod yX2_takeNumber, Cond.selects RX2 yX2_takeNumber yX2_takeNumber, Cond.code yX2_takeNumber cX2_takeNumber 4 (some .int), Cond.static yX7_isWithin, Cond.initialized RX7, Cond.code yX7_isWithin cX7_isWithin 3 (some .boolean), Cond.methodLink RX2 62 yX2_takeSign, Cond.instanceMethod yX2_takeSign]
noncomputable def wsX2_read_r6 : List Cond := [Cond.selects RX2 yX2_takeSign yX2_takeSign, Cond.code yX2_takeSign cX2_takeSign 1 none, Cond.methodLink RX2 37 yX2_readMill, Cond.instanceMethod yX2_readMill, Cond.selects RX2 yX2_readMill yX2_readMill, Cond.code yX2_readMill cX2_readMill 4 none, Cond.fieldLink RX2 75 "WindTaken$Ridge" "mills" "[LWindTaken$Mill;", Cond.fieldLink RX2 89 "WindTaken$Mill" "x" "I", Cond.fieldLink RX2 99 "WindTaken$Mill" "y" "I", Cond.fieldLink RX2 102 "WindTaken$Mill" "floors" "I", Cond.fieldLink RX2 105 "WindTaken$Mill" "sails" "I", Cond.fieldLink RX2 108 "WindTaken$Mill" "age" "I", Cond.fieldLink RX2 111 "WindTaken$Mill" "corn" "I", Cond.methodLink RX2 79 yX2_takeSort, Cond.instanceMethod yX2_takeSort, Cond.selects RX2 yX2_takeSort yX2_takeSort, Cond.code yX2_takeSort cX2_takeSort 3 (some .int), Cond.methodLink RX2 123 yX2_sortName, Cond.static yX2_sortName, Cond.code yX2_sortName cX2_sortName 1 (some (.object "java/lang/String")), Cond.methodLink RX2 83 yX0_begin, Cond.instanceMethod yX0_begin, Cond.selects RX0 yX0_begin yX0_begin, Cond.initialized RX0]
noncomputable def wsX2_read_r7 : List Cond := [Cond.code yX0_begin cX0_begin 3 none, Cond.fieldLink RX0 9 "WindTaken$Mill" "number" "I", Cond.fieldLink RX0 15 "WindTaken$Mill" "kind" "I", Cond.fieldLink RX0 18 "WindTaken$Mill" "flour" "I", Cond.fieldLink RX0 21 "WindTaken$Mill" "wear" "I", Cond.fieldLink RX0 24 "WindTaken$Mill" "facing" "I", Cond.fieldLink RX0 27 "WindTaken$Mill" "furled" "Z", Cond.methodLink RX2 95 yX3_isTaken, Cond.instanceMethod yX3_isTaken, Cond.selects RX3 yX3_isTaken yX3_isTaken, Cond.initialized RX3, Cond.code yX3_isTaken cX3_isTaken 4 (some .boolean), Cond.fieldLink RX3 18 "WindTaken$Ridge" "count" "I", Cond.fieldLink RX3 11 "WindTaken$Ridge" "mills" "[LWindTaken$Mill;", Cond.fieldLink RX3 38 "WindTaken$Mill" "x" "I", Cond.fieldLink RX3 41 "WindTaken$Mill" "y" "I"]
noncomputable def wsX2_read : List Cond := .code yX2_read cX2_read 3 (some .int) :: ((wsX2_read_r1 ++ (wsX2_read_r2 ++ (wsX2_read_r3 ++ (wsX2_read_r4 ++ (wsX2_read_r5 ++ (wsX2_read_r6 ++ wsX2_read_r7)))))) ++ wsX20 ++ wsX30 ++ wsX50 ++ wsX00)
noncomputable def wsX3_init : List Cond := .code yX3_init cX3_init 2 none :: ([.methodLink RX3 3 objectInit, .instanceMethod objectInit, .code objectInit ⟨#[0xb1]⟩ 1 none, .classLink RX3 9 RX0, .fieldLink RX3 11 "WindTaken$Ridge" "mills" "[LWindTaken$Mill;", .instantiable RX0 12, .initialized RX0, .instanceMethod yX0_init, .code yX0_init cX0_init 1 none, .methodLink RX0 3 objectInit] ++ wsX30 ++ wsX00)
noncomputable def wsX3_isNone : List Cond := .code yX3_isNone cX3_isNone 1 (some .boolean) :: ([.fieldLink RX3 18 "WindTaken$Ridge" "count" "I"] ++ wsX30)
noncomputable def wsX3_has : List Cond := .code yX3_has cX3_has 2 (some .boolean) :: ([.fieldLink RX3 18 "WindTaken$Ridge" "count" "I"] ++ wsX30)
noncomputable def wsX3_become : List Cond := .code yX3_become cX3_become 3 none :: ([.fieldLink RX3 18 "WindTaken$Ridge" "count" "I", .fieldLink RX3 22 "WindTaken$Ridge" "gone" "I", .fieldLink RX3 25 "WindTaken$Ridge" "take" "I", .fieldLink RX3 28 "WindTaken$Ridge" "due" "I", .fieldLink RX3 31 "WindTaken$Ridge" "price" "I", .fieldLink RX3 11 "WindTaken$Ridge" "mills" "[LWindTaken$Mill;", .methodLink RX3 34 yX0_become, .instanceMethod yX0_become, .selects RX0 yX0_become yX0_become, .initialized RX0, .code yX0_become cX0_become 2 none, .fieldLink RX0 9 "WindTaken$Mill" "number" "I", .fieldLink RX0 15 "WindTaken$Mill" "kind" "I", .fieldLink RX0 31 "WindTaken$Mill" "x" "I", .fieldLink RX0 34 "WindTaken$Mill" "y" "I", .fieldLink RX0 37 "WindTaken$Mill" "floors" "I", .fieldLink RX0 40 "WindTaken$Mill" "sails" "I", .fieldLink RX0 43 "WindTaken$Mill" "age" "I", .fieldLink RX0 46 "WindTaken$Mill" "corn" "I", .fieldLink RX0 18 "WindTaken$Mill" "flour" "I", .fieldLink RX0 21 "WindTaken$Mill" "wear" "I", .fieldLink RX0 24 "WindTaken$Mill" "facing" "I", .fieldLink RX0 27 "WindTaken$Mill" "furled" "Z"] ++ wsX30 ++ wsX00)
noncomputable def wsX3_furledSet : List Cond := .code yX3_furledSet cX3_furledSet 3 (some .int) :: ([.fieldLink RX3 18 "WindTaken$Ridge" "count" "I", .fieldLink RX3 11 "WindTaken$Ridge" "mills" "[LWindTaken$Mill;", .fieldLink RX3 44 "WindTaken$Mill" "furled" "Z", .static yX7_bit, .initialized RX7, .code yX7_bit cX7_bit 1 (some .int)] ++ wsX30 ++ wsX00)
noncomputable def wsX3_flourInAll : List Cond := .code yX3_flourInAll cX3_flourInAll 3 (some .int) :: ([.fieldLink RX3 18 "WindTaken$Ridge" "count" "I", .fieldLink RX3 11 "WindTaken$Ridge" "mills" "[LWindTaken$Mill;", .fieldLink RX3 52 "WindTaken$Mill" "flour" "I"] ++ wsX30 ++ wsX00)
noncomputable def wsX4_init : List Cond := .code yX4_init cX4_init 1 none :: ([.methodLink RX4 3 objectInit, .instanceMethod objectInit, .code objectInit ⟨#[0xb1]⟩ 1 none, .arrayClass .int, .fieldLink RX4 9 "WindTaken$Row" "items" "[I", .fieldLink RX4 15 "WindTaken$Row" "size" "I"] ++ wsX40)
noncomputable def wsX4_isMissing : List Cond := .code yX4_isMissing cX4_isMissing 1 (some .boolean) :: ([.fieldLink RX4 15 "WindTaken$Row" "size" "I"] ++ wsX40)
noncomputable def wsX4_lay : List Cond := .code yX4_lay cX4_lay 4 none :: ([.fieldLink RX4 19 "WindTaken$Row" "lane" "I", .fieldLink RX4 15 "WindTaken$Row" "size" "I", .fieldLink RX4 9 "WindTaken$Row" "items" "[I"] ++ wsX40)
noncomputable def wsX4_covers : List Cond := .code yX4_covers cX4_covers 3 (some .boolean) :: ([.fieldLink RX4 15 "WindTaken$Row" "size" "I"] ++ wsX40)
noncomputable def wsX4_narrowed : List Cond := .code yX4_narrowed cX4_narrowed 2 (some .int) :: ([.fieldLink RX4 19 "WindTaken$Row" "lane" "I"] ++ wsX40)
noncomputable def wsX4_put : List Cond := .code yX4_put cX4_put 3 (some .int) :: ([.fieldLink RX4 9 "WindTaken$Row" "items" "[I", .methodLink RX4 22 yX4_narrowed, .instanceMethod yX4_narrowed, .selects RX4 yX4_narrowed yX4_narrowed, .initialized RX4, .code yX4_narrowed cX4_narrowed 2 (some .int), .fieldLink RX4 19 "WindTaken$Row" "lane" "I"] ++ wsX40)
noncomputable def wsX5_init : List Cond := .code yX5_init cX5_init 1 none :: ([.methodLink RX5 3 objectInit, .instanceMethod objectInit, .code objectInit ⟨#[0xb1]⟩ 1 none, .arrayClass .byte, .fieldLink RX5 9 "WindTaken$Tape" "bytes" "[B"] ++ wsX50)
noncomputable def wsX5_append : List Cond := .code yX5_append cX5_append 5 none :: ([.fieldLink RX5 9 "WindTaken$Tape" "bytes" "[B", .fieldLink RX5 15 "WindTaken$Tape" "length" "I"] ++ wsX50)
noncomputable def wsX6_init : List Cond := .code yX6_init cX6_init 1 none :: ([.methodLink RX6 3 objectInit, .instanceMethod objectInit, .code objectInit ⟨#[0xb1]⟩ 1 none, .arrayClass .int, .fieldLink RX6 9 "WindTaken$Trace" "numbers" "[I"] ++ wsX60)
noncomputable def wsX6_leave : List Cond := .code yX6_leave cX6_leave 2 none :: ([.fieldLink RX6 15 "WindTaken$Trace" "length" "I", .fieldLink RX6 9 "WindTaken$Trace" "numbers" "[I"] ++ wsX60)
noncomputable def wsX7_init_r1 : List Cond := [Cond.methodLink RX7 1 objectInit, Cond.instanceMethod objectInit, Cond.code objectInit ⟨#[0xb1]⟩ 1 none, Cond.classLink RX7 9 RX4, Cond.fieldLink RX7 11 "WindTaken" "rows" "[LWindTaken$Row;", Cond.classLink RX7 15 RX5, Cond.instantiable RX5 2, Cond.initialized RX5, Cond.fieldLink RX7 18 "WindTaken" "tape" "LWindTaken$Tape;", Cond.classLink RX7 22 RX2, Cond.instantiable RX2 7, Cond.initialized RX2, Cond.fieldLink RX7 27 "WindTaken" "reader" "LWindTaken$Reader;", Cond.classLink RX7 31 RX3, Cond.instantiable RX3 6, Cond.initialized RX3, Cond.fieldLink RX7 34 "WindTaken" "ridge" "LWindTaken$Ridge;", Cond.fieldLink RX7 38 "WindTaken" "draft" "LWindTaken$Ridge;", Cond.fieldLink RX7 41 "WindTaken" "images" "[LWindTaken$Ridge;", Cond.classLink RX7 45 RX1, Cond.fieldLink RX7 47 "WindTaken" "quarters" "[LWindTaken$Quarter;", Cond.classLink RX7 51 RX6, Cond.instantiable RX6 2, Cond.initialized RX6]
noncomputable def wsX7_init_r2 : List Cond := [Cond.fieldLink RX7 54 "WindTaken" "trace" "LWindTaken$Trace;", Cond.instantiable RX4 3, Cond.initialized RX4, Cond.instantiable RX1 6, Cond.initialized RX1, Cond.instanceMethod yX5_init, Cond.code yX5_init cX5_init 1 none, Cond.methodLink RX5 3 objectInit, Cond.arrayClass .byte, Cond.fieldLink RX5 9 "WindTaken$Tape" "bytes" "[B", Cond.methodLink RX7 24 yX2_init, Cond.instanceMethod yX2_init, Cond.code yX2_init cX2_init 2 none, Cond.methodLink RX2 3 objectInit, Cond.fieldLink RX2 9 "WindTaken$Reader" "tape" "LWindTaken$Tape;", Cond.methodLink RX7 33 yX3_init, Cond.instanceMethod yX3_init, Cond.code yX3_init cX3_init 2 none, Cond.methodLink RX3 3 objectInit, Cond.classLink RX3 9 RX0, Cond.fieldLink RX3 11 "WindTaken$Ridge" "mills" "[LWindTaken$Mill;", Cond.instantiable RX0 12, Cond.initialized RX0, Cond.instanceMethod yX0_init]
noncomputable def wsX7_init_r3 : List Cond := [Cond.code yX0_init cX0_init 1 none, Cond.methodLink RX0 3 objectInit, Cond.instanceMethod yX6_init, Cond.code yX6_init cX6_init 1 none, Cond.methodLink RX6 3 objectInit, Cond.arrayClass .int, Cond.fieldLink RX6 9 "WindTaken$Trace" "numbers" "[I", Cond.instanceMethod yX4_init, Cond.code yX4_init cX4_init 1 none, Cond.methodLink RX4 3 objectInit, Cond.fieldLink RX4 9 "WindTaken$Row" "items" "[I", Cond.fieldLink RX4 15 "WindTaken$Row" "size" "I", Cond.methodLink RX7 59 yX1_init, Cond.instanceMethod yX1_init, Cond.code yX1_init cX1_init 3 none, Cond.methodLink RX1 3 objectInit, Cond.fieldLink RX1 9 "WindTaken$Quarter" "behind" "[I", Cond.fieldLink RX1 15 "WindTaken$Quarter" "after" "[I", Cond.fieldLink RX1 18 "WindTaken$Quarter" "ridge" "LWindTaken$Ridge;", Cond.fieldLink RX1 22 "WindTaken$Quarter" "q" "I"]
noncomputable def wsX7_init : List Cond := .code yX7_init cX7_init 2 none :: ((wsX7_init_r1 ++ (wsX7_init_r2 ++ wsX7_init_r3)) ++ wsX70 ++ wsX50 ++ wsX20 ++ wsX30 ++ wsX60 ++ wsX40 ++ wsX10 ++ wsX00)
noncomputable def wsX7_isRow : List Cond := .code yX7_isRow cX7_isRow 1 (some .boolean) :: ([.methodLink RX7 66 yX7_isWithin, .static yX7_isWithin, .initialized RX7, .code yX7_isWithin cX7_isWithin 3 (some .boolean)])
noncomputable def wsX7_found : List Cond := .code yX7_found cX7_found 2 (some .int) :: ([.fieldLink RX7 305 "WindTaken" "status" "I", .constant RX7 308 (-1000010)] ++ wsX70)
noncomputable def wsX7_unfound : List Cond := .code yX7_unfound cX7_unfound 2 (some .int) :: ([.fieldLink RX7 305 "WindTaken" "status" "I"] ++ wsX70)
noncomputable def wsX7_row_r1 : List Cond := [Cond.constant RX7 70 (-1000001), Cond.fieldLink RX7 11 "WindTaken" "rows" "[LWindTaken$Row;", Cond.methodLink RX7 62 yX7_isRow, Cond.static yX7_isRow, Cond.initialized RX7, Cond.code yX7_isRow cX7_isRow 1 (some .boolean), Cond.methodLink RX7 66 yX7_isWithin, Cond.static yX7_isWithin, Cond.code yX7_isWithin cX7_isWithin 3 (some .boolean), Cond.methodLink RX7 71 yX7_found, Cond.instanceMethod yX7_found, Cond.selects RX7 yX7_found yX7_found, Cond.code yX7_found cX7_found 2 (some .int), Cond.fieldLink RX7 305 "WindTaken" "status" "I", Cond.constant RX7 308 (-1000010), Cond.methodLink RX7 75 yX4_lay, Cond.instanceMethod yX4_lay, Cond.selects RX4 yX4_lay yX4_lay, Cond.initialized RX4, Cond.code yX4_lay cX4_lay 4 none, Cond.fieldLink RX4 19 "WindTaken$Row" "lane" "I", Cond.fieldLink RX4 15 "WindTaken$Row" "size" "I", Cond.fieldLink RX4 9 "WindTaken$Row" "items" "[I", Cond.methodLink RX7 79 yX7_unfound]
noncomputable def wsX7_row_r2 : List Cond := [Cond.instanceMethod yX7_unfound, Cond.selects RX7 yX7_unfound yX7_unfound, Cond.code yX7_unfound cX7_unfound 2 (some .int)]
noncomputable def wsX7_row : List Cond := .code yX7_row cX7_row 4 (some .int) :: ((wsX7_row_r1 ++ wsX7_row_r2) ++ wsX70 ++ wsX40)
noncomputable def wsX7_set_r1 : List Cond := [Cond.constant RX7 70 (-1000001), Cond.fieldLink RX7 11 "WindTaken" "rows" "[LWindTaken$Row;", Cond.methodLink RX7 62 yX7_isRow, Cond.static yX7_isRow, Cond.initialized RX7, Cond.code yX7_isRow cX7_isRow 1 (some .boolean), Cond.methodLink RX7 66 yX7_isWithin, Cond.static yX7_isWithin, Cond.code yX7_isWithin cX7_isWithin 3 (some .boolean), Cond.methodLink RX7 82 yX4_isMissing, Cond.instanceMethod yX4_isMissing, Cond.selects RX4 yX4_isMissing yX4_isMissing, Cond.initialized RX4, Cond.code yX4_isMissing cX4_isMissing 1 (some .boolean), Cond.fieldLink RX4 15 "WindTaken$Row" "size" "I", Cond.methodLink RX7 71 yX7_found, Cond.instanceMethod yX7_found, Cond.selects RX7 yX7_found yX7_found, Cond.code yX7_found cX7_found 2 (some .int), Cond.fieldLink RX7 305 "WindTaken" "status" "I", Cond.constant RX7 308 (-1000010), Cond.methodLink RX7 86 yX4_covers, Cond.instanceMethod yX4_covers, Cond.selects RX4 yX4_covers yX4_covers]
noncomputable def wsX7_set_r2 : List Cond := [Cond.code yX4_covers cX4_covers 3 (some .boolean), Cond.methodLink RX7 90 yX4_put, Cond.instanceMethod yX4_put, Cond.selects RX4 yX4_put yX4_put, Cond.code yX4_put cX4_put 3 (some .int), Cond.fieldLink RX4 9 "WindTaken$Row" "items" "[I", Cond.methodLink RX4 22 yX4_narrowed, Cond.instanceMethod yX4_narrowed, Cond.selects RX4 yX4_narrowed yX4_narrowed, Cond.code yX4_narrowed cX4_narrowed 2 (some .int), Cond.fieldLink RX4 19 "WindTaken$Row" "lane" "I", Cond.methodLink RX7 79 yX7_unfound, Cond.instanceMethod yX7_unfound, Cond.selects RX7 yX7_unfound yX7_unfound, Cond.code yX7_unfound cX7_unfound 2 (some .int)]
noncomputable def wsX7_set : List Cond := .code yX7_set cX7_set 5 (some .int) :: ((wsX7_set_r1 ++ wsX7_set_r2) ++ wsX70 ++ wsX40)
noncomputable def wsX7_copy_r1 : List Cond := [Cond.constant RX7 70 (-1000001), Cond.fieldLink RX7 11 "WindTaken" "rows" "[LWindTaken$Row;", Cond.fieldLink RX7 94 "WindTaken$Row" "lane" "I", Cond.fieldLink RX7 98 "WindTaken$Row" "items" "[I", Cond.methodLink RX7 102 arraycopyName, Cond.native arraycopyName, Cond.static arraycopyName, Cond.initialized "java/lang/System", Cond.methodLink RX7 62 yX7_isRow, Cond.static yX7_isRow, Cond.initialized RX7, Cond.code yX7_isRow cX7_isRow 1 (some .boolean), Cond.methodLink RX7 66 yX7_isWithin, Cond.static yX7_isWithin, Cond.code yX7_isWithin cX7_isWithin 3 (some .boolean), Cond.methodLink RX7 82 yX4_isMissing, Cond.instanceMethod yX4_isMissing, Cond.selects RX4 yX4_isMissing yX4_isMissing, Cond.initialized RX4, Cond.code yX4_isMissing cX4_isMissing 1 (some .boolean), Cond.fieldLink RX4 15 "WindTaken$Row" "size" "I", Cond.methodLink RX7 71 yX7_found, Cond.instanceMethod yX7_found, Cond.selects RX7 yX7_found yX7_found]
noncomputable def wsX7_copy_r2 : List Cond := [Cond.code yX7_found cX7_found 2 (some .int), Cond.fieldLink RX7 305 "WindTaken" "status" "I", Cond.constant RX7 308 (-1000010), Cond.methodLink RX7 86 yX4_covers, Cond.instanceMethod yX4_covers, Cond.selects RX4 yX4_covers yX4_covers, Cond.code yX4_covers cX4_covers 3 (some .boolean), Cond.methodLink RX7 79 yX7_unfound, Cond.instanceMethod yX7_unfound, Cond.selects RX7 yX7_unfound yX7_unfound, Cond.code yX7_unfound cX7_unfound 2 (some .int)]
noncomputable def wsX7_copy : List Cond := .code yX7_copy cX7_copy 8 (some .int) :: ((wsX7_copy_r1 ++ wsX7_copy_r2) ++ wsX70 ++ wsX40)
noncomputable def wsX7_drop_r1 : List Cond := [Cond.constant RX7 70 (-1000001), Cond.fieldLink RX7 11 "WindTaken" "rows" "[LWindTaken$Row;", Cond.fieldLink RX7 108 "WindTaken$Row" "size" "I", Cond.methodLink RX7 62 yX7_isRow, Cond.static yX7_isRow, Cond.initialized RX7, Cond.code yX7_isRow cX7_isRow 1 (some .boolean), Cond.methodLink RX7 66 yX7_isWithin, Cond.static yX7_isWithin, Cond.code yX7_isWithin cX7_isWithin 3 (some .boolean), Cond.methodLink RX7 82 yX4_isMissing, Cond.instanceMethod yX4_isMissing, Cond.selects RX4 yX4_isMissing yX4_isMissing, Cond.initialized RX4, Cond.code yX4_isMissing cX4_isMissing 1 (some .boolean), Cond.fieldLink RX4 15 "WindTaken$Row" "size" "I", Cond.methodLink RX7 71 yX7_found, Cond.instanceMethod yX7_found, Cond.selects RX7 yX7_found yX7_found, Cond.code yX7_found cX7_found 2 (some .int), Cond.fieldLink RX7 305 "WindTaken" "status" "I", Cond.constant RX7 308 (-1000010), Cond.methodLink RX7 79 yX7_unfound, Cond.instanceMethod yX7_unfound]
noncomputable def wsX7_drop_r2 : List Cond := [Cond.selects RX7 yX7_unfound yX7_unfound, Cond.code yX7_unfound cX7_unfound 2 (some .int)]
noncomputable def wsX7_drop : List Cond := .code yX7_drop cX7_drop 4 (some .int) :: ((wsX7_drop_r1 ++ wsX7_drop_r2) ++ wsX70 ++ wsX40)
noncomputable def wsX7_feed : List Cond := .code yX7_feed cX7_feed 4 (some .int) :: ([.constant RX7 70 (-1000001), .fieldLink RX7 18 "WindTaken" "tape" "LWindTaken$Tape;", .fieldLink RX7 111 "WindTaken$Tape" "length" "I", .constant RX7 114 (-1000003), .methodLink RX7 66 yX7_isWithin, .static yX7_isWithin, .initialized RX7, .code yX7_isWithin cX7_isWithin 3 (some .boolean), .methodLink RX7 115 yX5_append, .instanceMethod yX5_append, .selects RX5 yX5_append yX5_append, .initialized RX5, .code yX5_append cX5_append 5 none, .fieldLink RX5 9 "WindTaken$Tape" "bytes" "[B", .fieldLink RX5 15 "WindTaken$Tape" "length" "I"] ++ wsX70 ++ wsX50)
noncomputable def wsX7_ridge_r1 : List Cond := [Cond.fieldLink RX7 27 "WindTaken" "reader" "LWindTaken$Reader;", Cond.fieldLink RX7 38 "WindTaken" "draft" "LWindTaken$Ridge;", Cond.fieldLink RX7 18 "WindTaken" "tape" "LWindTaken$Tape;", Cond.fieldLink RX7 111 "WindTaken$Tape" "length" "I", Cond.fieldLink RX7 123 "WindTaken" "fault" "I", Cond.constant RX7 126 (-1000100), Cond.fieldLink RX7 127 "WindTaken$Reader" "faultPlace" "I", Cond.fieldLink RX7 34 "WindTaken" "ridge" "LWindTaken$Ridge;", Cond.fieldLink RX7 134 "WindTaken$Ridge" "count" "I", Cond.methodLink RX7 119 yX2_read, Cond.instanceMethod yX2_read, Cond.selects RX2 yX2_read yX2_read, Cond.initialized RX2, Cond.code yX2_read cX2_read 3 (some .int), Cond.fieldLink RX2 15 "WindTaken$Reader" "end" "I", Cond.fieldLink RX2 19 "WindTaken$Reader" "fault" "I", Cond.fieldLink RX2 22 "WindTaken$Ridge" "count" "I", Cond.fieldLink RX2 27 "WindTaken$Ridge" "gone" "I", Cond.fieldLink RX2 40 "WindTaken$Reader" "token" "I", Cond.methodLink RX2 30 yX2_step, Cond.instanceMethod yX2_step, Cond.selects RX2 yX2_step yX2_step, Cond.code yX2_step cX2_step 3 none, Cond.fieldLink RX2 9 "WindTaken$Reader" "tape" "LWindTaken$Tape;"]
noncomputable def wsX7_ridge_r2 : List Cond := [Cond.fieldLink RX2 114 "WindTaken$Reader" "start" "I", Cond.fieldLink RX2 147 "WindTaken$Tape" "length" "I", Cond.fieldLink RX2 92 "WindTaken$Reader" "number" "I", Cond.fieldLink RX2 153 "WindTaken$Tape" "bytes" "[B", Cond.methodLink RX2 137 yX5_blanksEnd, Cond.instanceMethod yX5_blanksEnd, Cond.selects RX5 yX5_blanksEnd yX5_blanksEnd, Cond.initialized RX5, Cond.code yX5_blanksEnd cX5_blanksEnd 3 (some .int), Cond.fieldLink RX5 15 "WindTaken$Tape" "length" "I", Cond.fieldLink RX5 9 "WindTaken$Tape" "bytes" "[B", Cond.methodLink RX2 141 yX5_lettersEnd, Cond.instanceMethod yX5_lettersEnd, Cond.selects RX5 yX5_lettersEnd yX5_lettersEnd, Cond.code yX5_lettersEnd cX5_lettersEnd 3 (some .int), Cond.methodLink RX2 144 yX5_figuresEnd, Cond.instanceMethod yX5_figuresEnd, Cond.selects RX5 yX5_figuresEnd yX5_figuresEnd, Cond.code yX5_figuresEnd cX5_figuresEnd 3 (some .int), Cond.methodLink RX2 150 yX5_valueOf, Cond.instanceMethod yX5_valueOf, Cond.selects RX5 yX5_valueOf yX5_valueOf, Cond.code yX5_valueOf cX5_valueOf 5 (some .int), Cond.methodLink RX2 33 yX2_readLaw]
noncomputable def wsX7_ridge_r3 : List Cond := [Cond.instanceMethod yX2_readLaw, Cond.selects RX2 yX2_readLaw yX2_readLaw, Cond.code yX2_readLaw cX2_readLaw 2 none, Cond.fieldLink RX2 53 "WindTaken$Ridge" "take" "I", Cond.fieldLink RX2 56 "WindTaken$Ridge" "due" "I", Cond.fieldLink RX2 59 "WindTaken$Ridge" "price" "I", Cond.methodLink RX2 45 yX2_takeName, Cond.instanceMethod yX2_takeName, Cond.selects RX2 yX2_takeName yX2_takeName, Cond.code yX2_takeName cX2_takeName 2 none, Cond.methodLink RX2 67 yX2_isName, Cond.instanceMethod yX2_isName, Cond.selects RX2 yX2_isName yX2_isName, Cond.code yX2_isName cX2_isName 2 (some .boolean), Cond.methodLink RX2 131 yX5_tells, Cond.instanceMethod yX5_tells, Cond.selects RX5 yX5_tells yX5_tells, Cond.code yX5_tells cX5_tells 5 (some .boolean), Cond.methodLink RX5 19 yJ0_length_8abf5, Cond.instanceMethod yJ0_length_8abf5, Cond.selects RJ0 yJ0_length_8abf5 yJ0_length_8abf5, Cond.initialized RJ0, Cond.code yJ0_length_8abf5 cJ0_length_8abf5 1 (some .int), Cond.fieldLink RJ0 9 "java/lang/String" "value" "[B"]
noncomputable def wsX7_ridge_r4 : List Cond := [Cond.methodLink RJ0 335 yJ0_coder_7d493, Cond.instanceMethod yJ0_coder_7d493, Cond.selects RJ0 yJ0_coder_7d493 yJ0_coder_7d493, Cond.code yJ0_coder_7d493 cJ0_coder_7d493 1 (some .byte), Cond.fieldLink RJ0 38 "java/lang/String" "COMPACT_STRINGS" "Z", Cond.fieldLink RJ0 15 "java/lang/String" "coder" "B", Cond.methodLink RX5 24 yJ0_charAt_5068e, Cond.instanceMethod yJ0_charAt_5068e, Cond.selects RJ0 yJ0_charAt_5068e yJ0_charAt_5068e, Cond.code yJ0_charAt_5068e cJ0_charAt_5068e 2 (some .char), Cond.methodLink RJ0 492 yJ0_isLatin1_aae02, Cond.instanceMethod yJ0_isLatin1_aae02, Cond.selects RJ0 yJ0_isLatin1_aae02 yJ0_isLatin1_aae02, Cond.code yJ0_isLatin1_aae02 cJ0_isLatin1_aae02 1 (some .boolean), Cond.methodLink RJ0 495 yJ1_charAt_3b067, Cond.static yJ1_charAt_3b067, Cond.initialized RJ1, Cond.code yJ1_charAt_3b067 cJ1_charAt_3b067 2 (some .char), Cond.methodLink RJ1 9 yJ0_checkIndex_df160, Cond.static yJ0_checkIndex_df160, Cond.code yJ0_checkIndex_df160 cJ0_checkIndex_df160 2 none, Cond.fieldLink RJ0 1053 "jdk/internal/util/Preconditions" "SIOOBE_FORMATTER" "Ljava/util/function/BiFunction;", Cond.methodLink RJ0 1059 yJ3_checkIndex_8e157, Cond.static yJ3_checkIndex_8e157]
noncomputable def wsX7_ridge_r5 : List Cond := [Cond.initialized RJ3, Cond.code yJ3_checkIndex_8e157 cJ3_checkIndex_8e157 3 (some .int), Cond.methodLink RJ0 498 yJ2_charAt_3b067, Cond.static yJ2_charAt_3b067, Cond.initialized RJ2, Cond.code yJ2_charAt_3b067 cJ2_charAt_3b067 2 (some .char), Cond.methodLink RJ2 67 yJ2_checkIndex_2214a, Cond.static yJ2_checkIndex_2214a, Cond.code yJ2_checkIndex_2214a cJ2_checkIndex_2214a 2 none, Cond.methodLink RJ2 48 yJ2_length_9d52b, Cond.static yJ2_length_9d52b, Cond.code yJ2_length_9d52b cJ2_length_9d52b 1 (some .int), Cond.methodLink RJ2 414 yJ0_checkIndex_df160, Cond.methodLink RJ2 71 yJ2_getChar_3b067, Cond.static yJ2_getChar_3b067, Cond.code yJ2_getChar_3b067 cJ2_getChar_3b067 2 (some .char), Cond.fieldLink RJ2 44 "java/lang/StringUTF16" "$assertionsDisabled" "Z", Cond.fieldLink RJ2 59 "java/lang/StringUTF16" "HI_BYTE_SHIFT" "I", Cond.fieldLink RJ2 63 "java/lang/StringUTF16" "LO_BYTE_SHIFT" "I", Cond.methodLink RX2 120 yX2_take, Cond.instanceMethod yX2_take, Cond.selects RX2 yX2_take yX2_take, Cond.code yX2_take cX2_take 2 none, Cond.methodLink RX2 71 yX2_refuse]
noncomputable def wsX7_ridge_r6 : List Cond := [Cond.instanceMethod yX2_refuse, Cond.selects RX2 yX2_refuse yX2_refuse, Cond.code yX2_refuse cX2_refuse 2 none, Cond.fieldLink RX2 117 "WindTaken$Reader" "faultPlace" "I", Cond.methodLink RX2 49 yX2_takeNumber, Cond.instanceMethod yX2_takeNumber, Cond.selects RX2 yX2_takeNumber yX2_takeNumber, Cond.code yX2_takeNumber cX2_takeNumber 4 (some .int), Cond.static yX7_isWithin, Cond.initialized RX7, Cond.code yX7_isWithin cX7_isWithin 3 (some .boolean), Cond.methodLink RX2 62 yX2_takeSign, Cond.instanceMethod yX2_takeSign, Cond.selects RX2 yX2_takeSign yX2_takeSign, Cond.code yX2_takeSign cX2_takeSign 1 none, Cond.methodLink RX2 37 yX2_readMill, Cond.instanceMethod yX2_readMill, Cond.selects RX2 yX2_readMill yX2_readMill, Cond.code yX2_readMill cX2_readMill 4 none, Cond.fieldLink RX2 75 "WindTaken$Ridge" "mills" "[LWindTaken$Mill;", Cond.fieldLink RX2 89 "WindTaken$Mill" "x" "I", Cond.fieldLink RX2 99 "WindTaken$Mill" "y" "I", Cond.fieldLink RX2 102 "WindTaken$Mill" "floors" "I", Cond.fieldLink RX2 105 "WindTaken$Mill" "sails" "I"]
noncomputable def wsX7_ridge_r7 : List Cond := [Cond.fieldLink RX2 108 "WindTaken$Mill" "age" "I", Cond.fieldLink RX2 111 "WindTaken$Mill" "corn" "I", Cond.methodLink RX2 79 yX2_takeSort, Cond.instanceMethod yX2_takeSort, Cond.selects RX2 yX2_takeSort yX2_takeSort, Cond.code yX2_takeSort cX2_takeSort 3 (some .int), Cond.methodLink RX2 123 yX2_sortName, Cond.static yX2_sortName, Cond.code yX2_sortName cX2_sortName 1 (some (.object "java/lang/String")), Cond.methodLink RX2 83 yX0_begin, Cond.instanceMethod yX0_begin, Cond.selects RX0 yX0_begin yX0_begin, Cond.initialized RX0, Cond.code yX0_begin cX0_begin 3 none, Cond.fieldLink RX0 9 "WindTaken$Mill" "number" "I", Cond.fieldLink RX0 15 "WindTaken$Mill" "kind" "I", Cond.fieldLink RX0 18 "WindTaken$Mill" "flour" "I", Cond.fieldLink RX0 21 "WindTaken$Mill" "wear" "I", Cond.fieldLink RX0 24 "WindTaken$Mill" "facing" "I", Cond.fieldLink RX0 27 "WindTaken$Mill" "furled" "Z", Cond.methodLink RX2 95 yX3_isTaken, Cond.instanceMethod yX3_isTaken, Cond.selects RX3 yX3_isTaken yX3_isTaken, Cond.initialized RX3]
noncomputable def wsX7_ridge_r8 : List Cond := [Cond.code yX3_isTaken cX3_isTaken 4 (some .boolean), Cond.fieldLink RX3 18 "WindTaken$Ridge" "count" "I", Cond.fieldLink RX3 11 "WindTaken$Ridge" "mills" "[LWindTaken$Mill;", Cond.fieldLink RX3 38 "WindTaken$Mill" "x" "I", Cond.fieldLink RX3 41 "WindTaken$Mill" "y" "I", Cond.methodLink RX7 130 yX3_become, Cond.instanceMethod yX3_become, Cond.selects RX3 yX3_become yX3_become, Cond.code yX3_become cX3_become 3 none, Cond.fieldLink RX3 22 "WindTaken$Ridge" "gone" "I", Cond.fieldLink RX3 25 "WindTaken$Ridge" "take" "I", Cond.fieldLink RX3 28 "WindTaken$Ridge" "due" "I", Cond.fieldLink RX3 31 "WindTaken$Ridge" "price" "I", Cond.methodLink RX3 34 yX0_become, Cond.instanceMethod yX0_become, Cond.selects RX0 yX0_become yX0_become, Cond.code yX0_become cX0_become 2 none, Cond.fieldLink RX0 31 "WindTaken$Mill" "x" "I", Cond.fieldLink RX0 34 "WindTaken$Mill" "y" "I", Cond.fieldLink RX0 37 "WindTaken$Mill" "floors" "I", Cond.fieldLink RX0 40 "WindTaken$Mill" "sails" "I", Cond.fieldLink RX0 43 "WindTaken$Mill" "age" "I", Cond.fieldLink RX0 46 "WindTaken$Mill" "corn" "I"]
noncomputable def wsX7_ridge : List Cond := .code yX7_ridge cX7_ridge 2 (some .int) :: ((wsX7_ridge_r1 ++ (wsX7_ridge_r2 ++ (wsX7_ridge_r3 ++ (wsX7_ridge_r4 ++ (wsX7_ridge_r5 ++ (wsX7_ridge_r6 ++ (wsX7_ridge_r7 ++ wsX7_ridge_r8))))))) ++ wsX70 ++ wsX50 ++ wsX20 ++ wsX30 ++ wsX00)
noncomputable def wsX7_fault : List Cond := .code yX7_fault cX7_fault 1 (some .int) :: ([.fieldLink RX7 123 "WindTaken" "fault" "I"] ++ wsX70)
noncomputable def wsX7_furl : List Cond := .code yX7_furl cX7_furl 4 (some .int) :: ([.fieldLink RX7 34 "WindTaken" "ridge" "LWindTaken$Ridge;", .constant RX7 70 (-1000001), .fieldLink RX7 140 "WindTaken$Ridge" "mills" "[LWindTaken$Mill;", .fieldLink RX7 144 "WindTaken$Mill" "furled" "Z", .methodLink RX7 137 yX3_has, .instanceMethod yX3_has, .selects RX3 yX3_has yX3_has, .initialized RX3, .code yX3_has cX3_has 2 (some .boolean), .fieldLink RX3 18 "WindTaken$Ridge" "count" "I", .methodLink RX7 66 yX7_isWithin, .static yX7_isWithin, .initialized RX7, .code yX7_isWithin cX7_isWithin 3 (some .boolean), .methodLink RX7 150 yX7_bit, .static yX7_bit, .code yX7_bit cX7_bit 1 (some .int)] ++ wsX70 ++ wsX30 ++ wsX00)
noncomputable def wsX7_isQuarter : List Cond := .code yX7_isQuarter cX7_isQuarter 1 (some .boolean) :: ([.methodLink RX7 66 yX7_isWithin, .static yX7_isWithin, .initialized RX7, .code yX7_isWithin cX7_isWithin 3 (some .boolean)])
noncomputable def wsX7_face : List Cond := .code yX7_face cX7_face 5 (some .int) :: ([.fieldLink RX7 34 "WindTaken" "ridge" "LWindTaken$Ridge;", .constant RX7 70 (-1000001), .fieldLink RX7 140 "WindTaken$Ridge" "mills" "[LWindTaken$Mill;", .fieldLink RX7 157 "WindTaken$Mill" "kind" "I", .constant RX7 160 (-1000002), .fieldLink RX7 161 "WindTaken$Mill" "facing" "I", .methodLink RX7 137 yX3_has, .instanceMethod yX3_has, .selects RX3 yX3_has yX3_has, .initialized RX3, .code yX3_has cX3_has 2 (some .boolean), .fieldLink RX3 18 "WindTaken$Ridge" "count" "I", .methodLink RX7 154 yX7_isQuarter, .static yX7_isQuarter, .initialized RX7, .code yX7_isQuarter cX7_isQuarter 1 (some .boolean), .methodLink RX7 66 yX7_isWithin, .static yX7_isWithin, .code yX7_isWithin cX7_isWithin 3 (some .boolean)] ++ wsX70 ++ wsX30 ++ wsX00)
noncomputable def wsX7_build : List Cond := .code yX7_build cX7_build 3 (some .int) :: ([.fieldLink RX7 34 "WindTaken" "ridge" "LWindTaken$Ridge;", .constant RX7 70 (-1000001), .fieldLink RX7 140 "WindTaken$Ridge" "mills" "[LWindTaken$Mill;", .fieldLink RX7 164 "WindTaken$Mill" "floors" "I", .constant RX7 114 (-1000003), .methodLink RX7 137 yX3_has, .instanceMethod yX3_has, .selects RX3 yX3_has yX3_has, .initialized RX3, .code yX3_has cX3_has 2 (some .boolean), .fieldLink RX3 18 "WindTaken$Ridge" "count" "I"] ++ wsX70 ++ wsX30 ++ wsX00)
noncomputable def wsX7_bring : List Cond := .code yX7_bring cX7_bring 4 (some .int) :: ([.fieldLink RX7 34 "WindTaken" "ridge" "LWindTaken$Ridge;", .constant RX7 70 (-1000001), .fieldLink RX7 140 "WindTaken$Ridge" "mills" "[LWindTaken$Mill;", .fieldLink RX7 167 "WindTaken$Mill" "corn" "I", .constant RX7 170 (99999), .methodLink RX7 171 Lib.Math.min.name, .static Lib.Math.min.name, .initialized "java/lang/Math", .code Lib.Math.min.name Lib.Math.min.code 2 (some .int), .methodLink RX7 137 yX3_has, .instanceMethod yX3_has, .selects RX3 yX3_has yX3_has, .initialized RX3, .code yX3_has cX3_has 2 (some .boolean), .fieldLink RX3 18 "WindTaken$Ridge" "count" "I", .methodLink RX7 66 yX7_isWithin, .static yX7_isWithin, .initialized RX7, .code yX7_isWithin cX7_isWithin 3 (some .boolean)] ++ wsX70 ++ wsX30 ++ wsX00)
noncomputable def wsX7_isWind : List Cond := .code yX7_isWind cX7_isWind 2 (some .boolean) :: ([.methodLink RX7 154 yX7_isQuarter, .static yX7_isQuarter, .initialized RX7, .code yX7_isQuarter cX7_isQuarter 1 (some .boolean), .methodLink RX7 66 yX7_isWithin, .static yX7_isWithin, .code yX7_isWithin cX7_isWithin 3 (some .boolean)])
noncomputable def wsX7_windOf_r1 : List Cond := [Cond.fieldLink RX7 47 "WindTaken" "quarters" "[LWindTaken$Quarter;", Cond.methodLink RX7 239 yX1_survey, Cond.instanceMethod yX1_survey, Cond.selects RX1 yX1_survey yX1_survey, Cond.initialized RX1, Cond.code yX1_survey cX1_survey 7 none, Cond.fieldLink RX1 26 "WindTaken$Quarter" "turning" "I", Cond.fieldLink RX1 29 "WindTaken$Quarter" "taking" "I", Cond.fieldLink RX1 18 "WindTaken$Quarter" "ridge" "LWindTaken$Ridge;", Cond.fieldLink RX1 32 "WindTaken$Ridge" "count" "I", Cond.fieldLink RX1 37 "WindTaken$Ridge" "mills" "[LWindTaken$Mill;", Cond.fieldLink RX1 22 "WindTaken$Quarter" "q" "I", Cond.fieldLink RX1 51 "WindTaken$Mill" "kind" "I", Cond.fieldLink RX1 9 "WindTaken$Quarter" "behind" "[I", Cond.methodLink RX1 41 yX0_turnsIn, Cond.instanceMethod yX0_turnsIn, Cond.selects RX0 yX0_turnsIn yX0_turnsIn, Cond.initialized RX0, Cond.code yX0_turnsIn cX0_turnsIn 2 (some .boolean), Cond.fieldLink RX0 27 "WindTaken$Mill" "furled" "Z", Cond.fieldLink RX0 15 "WindTaken$Mill" "kind" "I", Cond.fieldLink RX0 24 "WindTaken$Mill" "facing" "I", Cond.static yX7_bit, Cond.initialized RX7]
noncomputable def wsX7_windOf_r2 : List Cond := [Cond.code yX7_bit cX7_bit 1 (some .int), Cond.methodLink RX1 54 yX1_floorsOf, Cond.instanceMethod yX1_floorsOf, Cond.selects RX1 yX1_floorsOf yX1_floorsOf, Cond.code yX1_floorsOf cX1_floorsOf 4 (some .int), Cond.fieldLink RX1 62 "WindTaken$Mill" "floors" "I", Cond.methodLink RX1 65 Lib.Math.min.name, Cond.static Lib.Math.min.name, Cond.initialized "java/lang/Math", Cond.code Lib.Math.min.name Lib.Math.min.code 2 (some .int), Cond.methodLink RX1 58 yX1_isShaded, Cond.instanceMethod yX1_isShaded, Cond.selects RX1 yX1_isShaded yX1_isShaded, Cond.code yX1_isShaded cX1_isShaded 5 (some .boolean), Cond.fieldLink RX1 70 "WindTaken$Mill" "x" "I", Cond.fieldLink RX1 73 "WindTaken$Mill" "y" "I", Cond.methodLink RX1 76 yX1_isAhead, Cond.static yX1_isAhead, Cond.code yX1_isAhead cX1_isAhead 2 (some .boolean), Cond.static yX7_isWithin, Cond.code yX7_isWithin cX7_isWithin 3 (some .boolean), Cond.methodLink RX7 262 yX1_blow, Cond.instanceMethod yX1_blow, Cond.selects RX1 yX1_blow yX1_blow]
noncomputable def wsX7_windOf_r3 : List Cond := [Cond.code yX1_blow cX1_blow 3 none, Cond.fieldLink RX1 15 "WindTaken$Quarter" "after" "[I", Cond.fieldLink RX1 84 "WindTaken$Ridge" "take" "I"]
noncomputable def wsX7_windOf : List Cond := .code yX7_windOf cX7_windOf 4 (some (.object "WindTaken$Quarter")) :: ((wsX7_windOf_r1 ++ (wsX7_windOf_r2 ++ wsX7_windOf_r3)) ++ wsX70 ++ wsX10 ++ wsX30 ++ wsX00)
noncomputable def wsX7_pass_r1 : List Cond := [Cond.fieldLink RX7 34 "WindTaken" "ridge" "LWindTaken$Ridge;", Cond.fieldLink RX7 134 "WindTaken$Ridge" "count" "I", Cond.fieldLink RX7 140 "WindTaken$Ridge" "mills" "[LWindTaken$Mill;", Cond.fieldLink RX7 167 "WindTaken$Mill" "corn" "I", Cond.fieldLink RX7 197 "WindTaken$Mill" "flour" "I", Cond.fieldLink RX7 200 "WindTaken$Mill" "wear" "I", Cond.fieldLink RX7 291 "WindTaken$Ridge" "gone" "I", Cond.methodLink RX7 209 yX7_windOf, Cond.instanceMethod yX7_windOf, Cond.selects RX7 yX7_windOf yX7_windOf, Cond.initialized RX7, Cond.code yX7_windOf cX7_windOf 4 (some (.object "WindTaken$Quarter")), Cond.fieldLink RX7 47 "WindTaken" "quarters" "[LWindTaken$Quarter;", Cond.methodLink RX7 239 yX1_survey, Cond.instanceMethod yX1_survey, Cond.selects RX1 yX1_survey yX1_survey, Cond.initialized RX1, Cond.code yX1_survey cX1_survey 7 none, Cond.fieldLink RX1 26 "WindTaken$Quarter" "turning" "I", Cond.fieldLink RX1 29 "WindTaken$Quarter" "taking" "I", Cond.fieldLink RX1 18 "WindTaken$Quarter" "ridge" "LWindTaken$Ridge;", Cond.fieldLink RX1 32 "WindTaken$Ridge" "count" "I", Cond.fieldLink RX1 37 "WindTaken$Ridge" "mills" "[LWindTaken$Mill;", Cond.fieldLink RX1 22 "WindTaken$Quarter" "q" "I"]
noncomputable def wsX7_pass_r2 : List Cond := [Cond.fieldLink RX1 51 "WindTaken$Mill" "kind" "I", Cond.fieldLink RX1 9 "WindTaken$Quarter" "behind" "[I", Cond.methodLink RX1 41 yX0_turnsIn, Cond.instanceMethod yX0_turnsIn, Cond.selects RX0 yX0_turnsIn yX0_turnsIn, Cond.initialized RX0, Cond.code yX0_turnsIn cX0_turnsIn 2 (some .boolean), Cond.fieldLink RX0 27 "WindTaken$Mill" "furled" "Z", Cond.fieldLink RX0 15 "WindTaken$Mill" "kind" "I", Cond.fieldLink RX0 24 "WindTaken$Mill" "facing" "I", Cond.static yX7_bit, Cond.code yX7_bit cX7_bit 1 (some .int), Cond.methodLink RX1 54 yX1_floorsOf, Cond.instanceMethod yX1_floorsOf, Cond.selects RX1 yX1_floorsOf yX1_floorsOf, Cond.code yX1_floorsOf cX1_floorsOf 4 (some .int), Cond.fieldLink RX1 62 "WindTaken$Mill" "floors" "I", Cond.methodLink RX1 65 Lib.Math.min.name, Cond.static Lib.Math.min.name, Cond.initialized "java/lang/Math", Cond.code Lib.Math.min.name Lib.Math.min.code 2 (some .int), Cond.methodLink RX1 58 yX1_isShaded, Cond.instanceMethod yX1_isShaded, Cond.selects RX1 yX1_isShaded yX1_isShaded]
noncomputable def wsX7_pass_r3 : List Cond := [Cond.code yX1_isShaded cX1_isShaded 5 (some .boolean), Cond.fieldLink RX1 70 "WindTaken$Mill" "x" "I", Cond.fieldLink RX1 73 "WindTaken$Mill" "y" "I", Cond.methodLink RX1 76 yX1_isAhead, Cond.static yX1_isAhead, Cond.code yX1_isAhead cX1_isAhead 2 (some .boolean), Cond.static yX7_isWithin, Cond.code yX7_isWithin cX7_isWithin 3 (some .boolean), Cond.methodLink RX7 262 yX1_blow, Cond.instanceMethod yX1_blow, Cond.selects RX1 yX1_blow yX1_blow, Cond.code yX1_blow cX1_blow 3 none, Cond.fieldLink RX1 15 "WindTaken$Quarter" "after" "[I", Cond.fieldLink RX1 84 "WindTaken$Ridge" "take" "I", Cond.methodLink RX7 236 yX1_grindsBy, Cond.instanceMethod yX1_grindsBy, Cond.selects RX1 yX1_grindsBy yX1_grindsBy, Cond.code yX1_grindsBy cX1_grindsBy 3 (some .int), Cond.fieldLink RX1 102 "WindTaken$Mill" "corn" "I", Cond.methodLink RX1 99 yX1_strengthOf, Cond.instanceMethod yX1_strengthOf, Cond.selects RX1 yX1_strengthOf yX1_strengthOf, Cond.code yX1_strengthOf cX1_strengthOf 5 (some .int), Cond.fieldLink RX1 93 "WindTaken$Mill" "sails" "I"]
noncomputable def wsX7_pass_r4 : List Cond := [Cond.methodLink RX1 96 yX1_windLeft, Cond.instanceMethod yX1_windLeft, Cond.selects RX1 yX1_windLeft yX1_windLeft, Cond.code yX1_windLeft cX1_windLeft 3 (some .int), Cond.methodLink RX1 87 yJ6_bitCount_0f7a4, Cond.static yJ6_bitCount_0f7a4, Cond.initialized RJ6, Cond.code yJ6_bitCount_0f7a4 cJ6_bitCount_0f7a4 1 (some .int), Cond.constant RJ6 265 (1431655765), Cond.constant RJ6 266 (858993459), Cond.constant RJ6 267 (252645135), Cond.methodLink RX7 309 yX1_wearOf, Cond.instanceMethod yX1_wearOf, Cond.selects RX1 yX1_wearOf yX1_wearOf, Cond.code yX1_wearOf cX1_wearOf 2 (some .int)]
noncomputable def wsX7_pass : List Cond := .code yX7_pass cX7_pass 8 (some .int) :: ((wsX7_pass_r1 ++ (wsX7_pass_r2 ++ (wsX7_pass_r3 ++ wsX7_pass_r4))) ++ wsX70 ++ wsX30 ++ wsX00 ++ wsX10)
noncomputable def wsX7_hour_r1 : List Cond := [Cond.fieldLink RX7 34 "WindTaken" "ridge" "LWindTaken$Ridge;", Cond.constant RX7 160 (-1000002), Cond.constant RX7 70 (-1000001), Cond.methodLink RX7 176 yX3_isNone, Cond.instanceMethod yX3_isNone, Cond.selects RX3 yX3_isNone yX3_isNone, Cond.initialized RX3, Cond.code yX3_isNone cX3_isNone 1 (some .boolean), Cond.fieldLink RX3 18 "WindTaken$Ridge" "count" "I", Cond.methodLink RX7 179 yX7_isWind, Cond.static yX7_isWind, Cond.initialized RX7, Cond.code yX7_isWind cX7_isWind 2 (some .boolean), Cond.methodLink RX7 154 yX7_isQuarter, Cond.static yX7_isQuarter, Cond.code yX7_isQuarter cX7_isQuarter 1 (some .boolean), Cond.methodLink RX7 66 yX7_isWithin, Cond.static yX7_isWithin, Cond.code yX7_isWithin cX7_isWithin 3 (some .boolean), Cond.methodLink RX7 182 yX7_pass, Cond.instanceMethod yX7_pass, Cond.selects RX7 yX7_pass yX7_pass, Cond.code yX7_pass cX7_pass 8 (some .int), Cond.fieldLink RX7 134 "WindTaken$Ridge" "count" "I"]
noncomputable def wsX7_hour_r2 : List Cond := [Cond.fieldLink RX7 140 "WindTaken$Ridge" "mills" "[LWindTaken$Mill;", Cond.fieldLink RX7 167 "WindTaken$Mill" "corn" "I", Cond.fieldLink RX7 197 "WindTaken$Mill" "flour" "I", Cond.fieldLink RX7 200 "WindTaken$Mill" "wear" "I", Cond.fieldLink RX7 291 "WindTaken$Ridge" "gone" "I", Cond.methodLink RX7 209 yX7_windOf, Cond.instanceMethod yX7_windOf, Cond.selects RX7 yX7_windOf yX7_windOf, Cond.code yX7_windOf cX7_windOf 4 (some (.object "WindTaken$Quarter")), Cond.fieldLink RX7 47 "WindTaken" "quarters" "[LWindTaken$Quarter;", Cond.methodLink RX7 239 yX1_survey, Cond.instanceMethod yX1_survey, Cond.selects RX1 yX1_survey yX1_survey, Cond.initialized RX1, Cond.code yX1_survey cX1_survey 7 none, Cond.fieldLink RX1 26 "WindTaken$Quarter" "turning" "I", Cond.fieldLink RX1 29 "WindTaken$Quarter" "taking" "I", Cond.fieldLink RX1 18 "WindTaken$Quarter" "ridge" "LWindTaken$Ridge;", Cond.fieldLink RX1 32 "WindTaken$Ridge" "count" "I", Cond.fieldLink RX1 37 "WindTaken$Ridge" "mills" "[LWindTaken$Mill;", Cond.fieldLink RX1 22 "WindTaken$Quarter" "q" "I", Cond.fieldLink RX1 51 "WindTaken$Mill" "kind" "I", Cond.fieldLink RX1 9 "WindTaken$Quarter" "behind" "[I", Cond.methodLink RX1 41 yX0_turnsIn]
noncomputable def wsX7_hour_r3 : List Cond := [Cond.instanceMethod yX0_turnsIn, Cond.selects RX0 yX0_turnsIn yX0_turnsIn, Cond.initialized RX0, Cond.code yX0_turnsIn cX0_turnsIn 2 (some .boolean), Cond.fieldLink RX0 27 "WindTaken$Mill" "furled" "Z", Cond.fieldLink RX0 15 "WindTaken$Mill" "kind" "I", Cond.fieldLink RX0 24 "WindTaken$Mill" "facing" "I", Cond.static yX7_bit, Cond.code yX7_bit cX7_bit 1 (some .int), Cond.methodLink RX1 54 yX1_floorsOf, Cond.instanceMethod yX1_floorsOf, Cond.selects RX1 yX1_floorsOf yX1_floorsOf, Cond.code yX1_floorsOf cX1_floorsOf 4 (some .int), Cond.fieldLink RX1 62 "WindTaken$Mill" "floors" "I", Cond.methodLink RX1 65 Lib.Math.min.name, Cond.static Lib.Math.min.name, Cond.initialized "java/lang/Math", Cond.code Lib.Math.min.name Lib.Math.min.code 2 (some .int), Cond.methodLink RX1 58 yX1_isShaded, Cond.instanceMethod yX1_isShaded, Cond.selects RX1 yX1_isShaded yX1_isShaded, Cond.code yX1_isShaded cX1_isShaded 5 (some .boolean), Cond.fieldLink RX1 70 "WindTaken$Mill" "x" "I", Cond.fieldLink RX1 73 "WindTaken$Mill" "y" "I"]
noncomputable def wsX7_hour_r4 : List Cond := [Cond.methodLink RX1 76 yX1_isAhead, Cond.static yX1_isAhead, Cond.code yX1_isAhead cX1_isAhead 2 (some .boolean), Cond.methodLink RX7 262 yX1_blow, Cond.instanceMethod yX1_blow, Cond.selects RX1 yX1_blow yX1_blow, Cond.code yX1_blow cX1_blow 3 none, Cond.fieldLink RX1 15 "WindTaken$Quarter" "after" "[I", Cond.fieldLink RX1 84 "WindTaken$Ridge" "take" "I", Cond.methodLink RX7 236 yX1_grindsBy, Cond.instanceMethod yX1_grindsBy, Cond.selects RX1 yX1_grindsBy yX1_grindsBy, Cond.code yX1_grindsBy cX1_grindsBy 3 (some .int), Cond.fieldLink RX1 102 "WindTaken$Mill" "corn" "I", Cond.methodLink RX1 99 yX1_strengthOf, Cond.instanceMethod yX1_strengthOf, Cond.selects RX1 yX1_strengthOf yX1_strengthOf, Cond.code yX1_strengthOf cX1_strengthOf 5 (some .int), Cond.fieldLink RX1 93 "WindTaken$Mill" "sails" "I", Cond.methodLink RX1 96 yX1_windLeft, Cond.instanceMethod yX1_windLeft, Cond.selects RX1 yX1_windLeft yX1_windLeft, Cond.code yX1_windLeft cX1_windLeft 3 (some .int), Cond.methodLink RX1 87 yJ6_bitCount_0f7a4]
noncomputable def wsX7_hour_r5 : List Cond := [Cond.static yJ6_bitCount_0f7a4, Cond.initialized RJ6, Cond.code yJ6_bitCount_0f7a4 cJ6_bitCount_0f7a4 1 (some .int), Cond.constant RJ6 265 (1431655765), Cond.constant RJ6 266 (858993459), Cond.constant RJ6 267 (252645135), Cond.methodLink RX7 309 yX1_wearOf, Cond.instanceMethod yX1_wearOf, Cond.selects RX1 yX1_wearOf yX1_wearOf, Cond.code yX1_wearOf cX1_wearOf 2 (some .int)]
noncomputable def wsX7_hour : List Cond := .code yX7_hour cX7_hour 3 (some .int) :: ((wsX7_hour_r1 ++ (wsX7_hour_r2 ++ (wsX7_hour_r3 ++ (wsX7_hour_r4 ++ wsX7_hour_r5)))) ++ wsX70 ++ wsX30 ++ wsX00 ++ wsX10)
noncomputable def wsX7_quarterOf : List Cond := .code yX7_quarterOf cX7_quarterOf 1 (some .int) :: ([])
noncomputable def wsX7_strengthOf : List Cond := .code yX7_strengthOf cX7_strengthOf 1 (some .int) :: ([])
noncomputable def wsX7_hours_r1 : List Cond := [Cond.fieldLink RX7 34 "WindTaken" "ridge" "LWindTaken$Ridge;", Cond.constant RX7 160 (-1000002), Cond.constant RX7 70 (-1000001), Cond.fieldLink RX7 11 "WindTaken" "rows" "[LWindTaken$Row;", Cond.fieldLink RX7 98 "WindTaken$Row" "items" "[I", Cond.methodLink RX7 176 yX3_isNone, Cond.instanceMethod yX3_isNone, Cond.selects RX3 yX3_isNone yX3_isNone, Cond.initialized RX3, Cond.code yX3_isNone cX3_isNone 1 (some .boolean), Cond.fieldLink RX3 18 "WindTaken$Ridge" "count" "I", Cond.methodLink RX7 62 yX7_isRow, Cond.static yX7_isRow, Cond.initialized RX7, Cond.code yX7_isRow cX7_isRow 1 (some .boolean), Cond.methodLink RX7 66 yX7_isWithin, Cond.static yX7_isWithin, Cond.code yX7_isWithin cX7_isWithin 3 (some .boolean), Cond.methodLink RX7 82 yX4_isMissing, Cond.instanceMethod yX4_isMissing, Cond.selects RX4 yX4_isMissing yX4_isMissing, Cond.initialized RX4, Cond.code yX4_isMissing cX4_isMissing 1 (some .boolean), Cond.fieldLink RX4 15 "WindTaken$Row" "size" "I"]
noncomputable def wsX7_hours_r2 : List Cond := [Cond.methodLink RX7 71 yX7_found, Cond.instanceMethod yX7_found, Cond.selects RX7 yX7_found yX7_found, Cond.code yX7_found cX7_found 2 (some .int), Cond.fieldLink RX7 305 "WindTaken" "status" "I", Cond.constant RX7 308 (-1000010), Cond.methodLink RX7 86 yX4_covers, Cond.instanceMethod yX4_covers, Cond.selects RX4 yX4_covers yX4_covers, Cond.code yX4_covers cX4_covers 3 (some .boolean), Cond.methodLink RX7 185 yX7_quarterOf, Cond.static yX7_quarterOf, Cond.code yX7_quarterOf cX7_quarterOf 1 (some .int), Cond.methodLink RX7 188 yX7_strengthOf, Cond.static yX7_strengthOf, Cond.code yX7_strengthOf cX7_strengthOf 1 (some .int), Cond.methodLink RX7 179 yX7_isWind, Cond.static yX7_isWind, Cond.code yX7_isWind cX7_isWind 2 (some .boolean), Cond.methodLink RX7 154 yX7_isQuarter, Cond.static yX7_isQuarter, Cond.code yX7_isQuarter cX7_isQuarter 1 (some .boolean), Cond.methodLink RX7 182 yX7_pass, Cond.instanceMethod yX7_pass]
noncomputable def wsX7_hours_r3 : List Cond := [Cond.selects RX7 yX7_pass yX7_pass, Cond.code yX7_pass cX7_pass 8 (some .int), Cond.fieldLink RX7 134 "WindTaken$Ridge" "count" "I", Cond.fieldLink RX7 140 "WindTaken$Ridge" "mills" "[LWindTaken$Mill;", Cond.fieldLink RX7 167 "WindTaken$Mill" "corn" "I", Cond.fieldLink RX7 197 "WindTaken$Mill" "flour" "I", Cond.fieldLink RX7 200 "WindTaken$Mill" "wear" "I", Cond.fieldLink RX7 291 "WindTaken$Ridge" "gone" "I", Cond.methodLink RX7 209 yX7_windOf, Cond.instanceMethod yX7_windOf, Cond.selects RX7 yX7_windOf yX7_windOf, Cond.code yX7_windOf cX7_windOf 4 (some (.object "WindTaken$Quarter")), Cond.fieldLink RX7 47 "WindTaken" "quarters" "[LWindTaken$Quarter;", Cond.methodLink RX7 239 yX1_survey, Cond.instanceMethod yX1_survey, Cond.selects RX1 yX1_survey yX1_survey, Cond.initialized RX1, Cond.code yX1_survey cX1_survey 7 none, Cond.fieldLink RX1 26 "WindTaken$Quarter" "turning" "I", Cond.fieldLink RX1 29 "WindTaken$Quarter" "taking" "I", Cond.fieldLink RX1 18 "WindTaken$Quarter" "ridge" "LWindTaken$Ridge;", Cond.fieldLink RX1 32 "WindTaken$Ridge" "count" "I", Cond.fieldLink RX1 37 "WindTaken$Ridge" "mills" "[LWindTaken$Mill;", Cond.fieldLink RX1 22 "WindTaken$Quarter" "q" "I"]
noncomputable def wsX7_hours_r4 : List Cond := [Cond.fieldLink RX1 51 "WindTaken$Mill" "kind" "I", Cond.fieldLink RX1 9 "WindTaken$Quarter" "behind" "[I", Cond.methodLink RX1 41 yX0_turnsIn, Cond.instanceMethod yX0_turnsIn, Cond.selects RX0 yX0_turnsIn yX0_turnsIn, Cond.initialized RX0, Cond.code yX0_turnsIn cX0_turnsIn 2 (some .boolean), Cond.fieldLink RX0 27 "WindTaken$Mill" "furled" "Z", Cond.fieldLink RX0 15 "WindTaken$Mill" "kind" "I", Cond.fieldLink RX0 24 "WindTaken$Mill" "facing" "I", Cond.static yX7_bit, Cond.code yX7_bit cX7_bit 1 (some .int), Cond.methodLink RX1 54 yX1_floorsOf, Cond.instanceMethod yX1_floorsOf, Cond.selects RX1 yX1_floorsOf yX1_floorsOf, Cond.code yX1_floorsOf cX1_floorsOf 4 (some .int), Cond.fieldLink RX1 62 "WindTaken$Mill" "floors" "I", Cond.methodLink RX1 65 Lib.Math.min.name, Cond.static Lib.Math.min.name, Cond.initialized "java/lang/Math", Cond.code Lib.Math.min.name Lib.Math.min.code 2 (some .int), Cond.methodLink RX1 58 yX1_isShaded, Cond.instanceMethod yX1_isShaded, Cond.selects RX1 yX1_isShaded yX1_isShaded]
noncomputable def wsX7_hours_r5 : List Cond := [Cond.code yX1_isShaded cX1_isShaded 5 (some .boolean), Cond.fieldLink RX1 70 "WindTaken$Mill" "x" "I", Cond.fieldLink RX1 73 "WindTaken$Mill" "y" "I", Cond.methodLink RX1 76 yX1_isAhead, Cond.static yX1_isAhead, Cond.code yX1_isAhead cX1_isAhead 2 (some .boolean), Cond.methodLink RX7 262 yX1_blow, Cond.instanceMethod yX1_blow, Cond.selects RX1 yX1_blow yX1_blow, Cond.code yX1_blow cX1_blow 3 none, Cond.fieldLink RX1 15 "WindTaken$Quarter" "after" "[I", Cond.fieldLink RX1 84 "WindTaken$Ridge" "take" "I", Cond.methodLink RX7 236 yX1_grindsBy, Cond.instanceMethod yX1_grindsBy, Cond.selects RX1 yX1_grindsBy yX1_grindsBy, Cond.code yX1_grindsBy cX1_grindsBy 3 (some .int), Cond.fieldLink RX1 102 "WindTaken$Mill" "corn" "I", Cond.methodLink RX1 99 yX1_strengthOf, Cond.instanceMethod yX1_strengthOf, Cond.selects RX1 yX1_strengthOf yX1_strengthOf, Cond.code yX1_strengthOf cX1_strengthOf 5 (some .int), Cond.fieldLink RX1 93 "WindTaken$Mill" "sails" "I", Cond.methodLink RX1 96 yX1_windLeft, Cond.instanceMethod yX1_windLeft]
noncomputable def wsX7_hours_r6 : List Cond := [Cond.selects RX1 yX1_windLeft yX1_windLeft, Cond.code yX1_windLeft cX1_windLeft 3 (some .int), Cond.methodLink RX1 87 yJ6_bitCount_0f7a4, Cond.static yJ6_bitCount_0f7a4, Cond.initialized RJ6, Cond.code yJ6_bitCount_0f7a4 cJ6_bitCount_0f7a4 1 (some .int), Cond.constant RJ6 265 (1431655765), Cond.constant RJ6 266 (858993459), Cond.constant RJ6 267 (252645135), Cond.methodLink RX7 309 yX1_wearOf, Cond.instanceMethod yX1_wearOf, Cond.selects RX1 yX1_wearOf yX1_wearOf, Cond.code yX1_wearOf cX1_wearOf 2 (some .int), Cond.methodLink RX7 79 yX7_unfound, Cond.instanceMethod yX7_unfound, Cond.selects RX7 yX7_unfound yX7_unfound, Cond.code yX7_unfound cX7_unfound 2 (some .int)]
noncomputable def wsX7_hours : List Cond := .code yX7_hours cX7_hours 7 (some .int) :: ((wsX7_hours_r1 ++ (wsX7_hours_r2 ++ (wsX7_hours_r3 ++ (wsX7_hours_r4 ++ (wsX7_hours_r5 ++ wsX7_hours_r6))))) ++ wsX70 ++ wsX40 ++ wsX30 ++ wsX00 ++ wsX10)
noncomputable def wsX7_mill : List Cond := .code yX7_mill cX7_mill 4 (some .int) :: ([.fieldLink RX7 34 "WindTaken" "ridge" "LWindTaken$Ridge;", .constant RX7 70 (-1000001), .fieldLink RX7 140 "WindTaken$Ridge" "mills" "[LWindTaken$Mill;", .fieldLink RX7 164 "WindTaken$Mill" "floors" "I", .fieldLink RX7 191 "WindTaken$Mill" "sails" "I", .fieldLink RX7 194 "WindTaken$Mill" "age" "I", .fieldLink RX7 167 "WindTaken$Mill" "corn" "I", .fieldLink RX7 197 "WindTaken$Mill" "flour" "I", .fieldLink RX7 200 "WindTaken$Mill" "wear" "I", .fieldLink RX7 161 "WindTaken$Mill" "facing" "I", .fieldLink RX7 144 "WindTaken$Mill" "furled" "Z", .fieldLink RX7 203 "WindTaken$Mill" "x" "I", .fieldLink RX7 206 "WindTaken$Mill" "y" "I", .methodLink RX7 137 yX3_has, .instanceMethod yX3_has, .selects RX3 yX3_has yX3_has, .initialized RX3, .code yX3_has cX3_has 2 (some .boolean), .fieldLink RX3 18 "WindTaken$Ridge" "count" "I", .methodLink RX7 150 yX7_bit, .static yX7_bit, .initialized RX7, .code yX7_bit cX7_bit 1 (some .int)] ++ wsX70 ++ wsX30 ++ wsX00)
noncomputable def wsX7_left_r1 : List Cond := [Cond.fieldLink RX7 34 "WindTaken" "ridge" "LWindTaken$Ridge;", Cond.constant RX7 70 (-1000001), Cond.fieldLink RX7 216 "WindTaken$Quarter" "behind" "[I", Cond.methodLink RX7 137 yX3_has, Cond.instanceMethod yX3_has, Cond.selects RX3 yX3_has yX3_has, Cond.initialized RX3, Cond.code yX3_has cX3_has 2 (some .boolean), Cond.fieldLink RX3 18 "WindTaken$Ridge" "count" "I", Cond.methodLink RX7 179 yX7_isWind, Cond.static yX7_isWind, Cond.initialized RX7, Cond.code yX7_isWind cX7_isWind 2 (some .boolean), Cond.methodLink RX7 154 yX7_isQuarter, Cond.static yX7_isQuarter, Cond.code yX7_isQuarter cX7_isQuarter 1 (some .boolean), Cond.methodLink RX7 66 yX7_isWithin, Cond.static yX7_isWithin, Cond.code yX7_isWithin cX7_isWithin 3 (some .boolean), Cond.methodLink RX7 209 yX7_windOf, Cond.instanceMethod yX7_windOf, Cond.selects RX7 yX7_windOf yX7_windOf, Cond.code yX7_windOf cX7_windOf 4 (some (.object "WindTaken$Quarter")), Cond.fieldLink RX7 47 "WindTaken" "quarters" "[LWindTaken$Quarter;"]
noncomputable def wsX7_left_r2 : List Cond := [Cond.methodLink RX7 239 yX1_survey, Cond.instanceMethod yX1_survey, Cond.selects RX1 yX1_survey yX1_survey, Cond.initialized RX1, Cond.code yX1_survey cX1_survey 7 none, Cond.fieldLink RX1 26 "WindTaken$Quarter" "turning" "I", Cond.fieldLink RX1 29 "WindTaken$Quarter" "taking" "I", Cond.fieldLink RX1 18 "WindTaken$Quarter" "ridge" "LWindTaken$Ridge;", Cond.fieldLink RX1 32 "WindTaken$Ridge" "count" "I", Cond.fieldLink RX1 37 "WindTaken$Ridge" "mills" "[LWindTaken$Mill;", Cond.fieldLink RX1 22 "WindTaken$Quarter" "q" "I", Cond.fieldLink RX1 51 "WindTaken$Mill" "kind" "I", Cond.fieldLink RX1 9 "WindTaken$Quarter" "behind" "[I", Cond.methodLink RX1 41 yX0_turnsIn, Cond.instanceMethod yX0_turnsIn, Cond.selects RX0 yX0_turnsIn yX0_turnsIn, Cond.initialized RX0, Cond.code yX0_turnsIn cX0_turnsIn 2 (some .boolean), Cond.fieldLink RX0 27 "WindTaken$Mill" "furled" "Z", Cond.fieldLink RX0 15 "WindTaken$Mill" "kind" "I", Cond.fieldLink RX0 24 "WindTaken$Mill" "facing" "I", Cond.static yX7_bit, Cond.code yX7_bit cX7_bit 1 (some .int), Cond.methodLink RX1 54 yX1_floorsOf]
noncomputable def wsX7_left_r3 : List Cond := [Cond.instanceMethod yX1_floorsOf, Cond.selects RX1 yX1_floorsOf yX1_floorsOf, Cond.code yX1_floorsOf cX1_floorsOf 4 (some .int), Cond.fieldLink RX1 62 "WindTaken$Mill" "floors" "I", Cond.methodLink RX1 65 Lib.Math.min.name, Cond.static Lib.Math.min.name, Cond.initialized "java/lang/Math", Cond.code Lib.Math.min.name Lib.Math.min.code 2 (some .int), Cond.methodLink RX1 58 yX1_isShaded, Cond.instanceMethod yX1_isShaded, Cond.selects RX1 yX1_isShaded yX1_isShaded, Cond.code yX1_isShaded cX1_isShaded 5 (some .boolean), Cond.fieldLink RX1 70 "WindTaken$Mill" "x" "I", Cond.fieldLink RX1 73 "WindTaken$Mill" "y" "I", Cond.methodLink RX1 76 yX1_isAhead, Cond.static yX1_isAhead, Cond.code yX1_isAhead cX1_isAhead 2 (some .boolean), Cond.methodLink RX7 262 yX1_blow, Cond.instanceMethod yX1_blow, Cond.selects RX1 yX1_blow yX1_blow, Cond.code yX1_blow cX1_blow 3 none, Cond.fieldLink RX1 15 "WindTaken$Quarter" "after" "[I", Cond.fieldLink RX1 84 "WindTaken$Ridge" "take" "I", Cond.methodLink RX7 213 yX1_windLeft]
noncomputable def wsX7_left_r4 : List Cond := [Cond.instanceMethod yX1_windLeft, Cond.selects RX1 yX1_windLeft yX1_windLeft, Cond.code yX1_windLeft cX1_windLeft 3 (some .int), Cond.methodLink RX1 87 yJ6_bitCount_0f7a4, Cond.static yJ6_bitCount_0f7a4, Cond.initialized RJ6, Cond.code yJ6_bitCount_0f7a4 cJ6_bitCount_0f7a4 1 (some .int), Cond.constant RJ6 265 (1431655765), Cond.constant RJ6 266 (858993459), Cond.constant RJ6 267 (252645135)]
noncomputable def wsX7_left : List Cond := .code yX7_left cX7_left 6 (some .int) :: ((wsX7_left_r1 ++ (wsX7_left_r2 ++ (wsX7_left_r3 ++ wsX7_left_r4))) ++ wsX70 ++ wsX10 ++ wsX30 ++ wsX00)
noncomputable def wsX7_made_r1 : List Cond := [Cond.fieldLink RX7 34 "WindTaken" "ridge" "LWindTaken$Ridge;", Cond.constant RX7 160 (-1000002), Cond.constant RX7 70 (-1000001), Cond.methodLink RX7 176 yX3_isNone, Cond.instanceMethod yX3_isNone, Cond.selects RX3 yX3_isNone yX3_isNone, Cond.initialized RX3, Cond.code yX3_isNone cX3_isNone 1 (some .boolean), Cond.fieldLink RX3 18 "WindTaken$Ridge" "count" "I", Cond.methodLink RX7 179 yX7_isWind, Cond.static yX7_isWind, Cond.initialized RX7, Cond.code yX7_isWind cX7_isWind 2 (some .boolean), Cond.methodLink RX7 154 yX7_isQuarter, Cond.static yX7_isQuarter, Cond.code yX7_isQuarter cX7_isQuarter 1 (some .boolean), Cond.methodLink RX7 66 yX7_isWithin, Cond.static yX7_isWithin, Cond.code yX7_isWithin cX7_isWithin 3 (some .boolean), Cond.methodLink RX7 209 yX7_windOf, Cond.instanceMethod yX7_windOf, Cond.selects RX7 yX7_windOf yX7_windOf, Cond.code yX7_windOf cX7_windOf 4 (some (.object "WindTaken$Quarter")), Cond.fieldLink RX7 47 "WindTaken" "quarters" "[LWindTaken$Quarter;"]
noncomputable def wsX7_made_r2 : List Cond := [Cond.methodLink RX7 239 yX1_survey, Cond.instanceMethod yX1_survey, Cond.selects RX1 yX1_survey yX1_survey, Cond.initialized RX1, Cond.code yX1_survey cX1_survey 7 none, Cond.fieldLink RX1 26 "WindTaken$Quarter" "turning" "I", Cond.fieldLink RX1 29 "WindTaken$Quarter" "taking" "I", Cond.fieldLink RX1 18 "WindTaken$Quarter" "ridge" "LWindTaken$Ridge;", Cond.fieldLink RX1 32 "WindTaken$Ridge" "count" "I", Cond.fieldLink RX1 37 "WindTaken$Ridge" "mills" "[LWindTaken$Mill;", Cond.fieldLink RX1 22 "WindTaken$Quarter" "q" "I", Cond.fieldLink RX1 51 "WindTaken$Mill" "kind" "I", Cond.fieldLink RX1 9 "WindTaken$Quarter" "behind" "[I", Cond.methodLink RX1 41 yX0_turnsIn, Cond.instanceMethod yX0_turnsIn, Cond.selects RX0 yX0_turnsIn yX0_turnsIn, Cond.initialized RX0, Cond.code yX0_turnsIn cX0_turnsIn 2 (some .boolean), Cond.fieldLink RX0 27 "WindTaken$Mill" "furled" "Z", Cond.fieldLink RX0 15 "WindTaken$Mill" "kind" "I", Cond.fieldLink RX0 24 "WindTaken$Mill" "facing" "I", Cond.static yX7_bit, Cond.code yX7_bit cX7_bit 1 (some .int), Cond.methodLink RX1 54 yX1_floorsOf]
noncomputable def wsX7_made_r3 : List Cond := [Cond.instanceMethod yX1_floorsOf, Cond.selects RX1 yX1_floorsOf yX1_floorsOf, Cond.code yX1_floorsOf cX1_floorsOf 4 (some .int), Cond.fieldLink RX1 62 "WindTaken$Mill" "floors" "I", Cond.methodLink RX1 65 Lib.Math.min.name, Cond.static Lib.Math.min.name, Cond.initialized "java/lang/Math", Cond.code Lib.Math.min.name Lib.Math.min.code 2 (some .int), Cond.methodLink RX1 58 yX1_isShaded, Cond.instanceMethod yX1_isShaded, Cond.selects RX1 yX1_isShaded yX1_isShaded, Cond.code yX1_isShaded cX1_isShaded 5 (some .boolean), Cond.fieldLink RX1 70 "WindTaken$Mill" "x" "I", Cond.fieldLink RX1 73 "WindTaken$Mill" "y" "I", Cond.methodLink RX1 76 yX1_isAhead, Cond.static yX1_isAhead, Cond.code yX1_isAhead cX1_isAhead 2 (some .boolean), Cond.methodLink RX7 262 yX1_blow, Cond.instanceMethod yX1_blow, Cond.selects RX1 yX1_blow yX1_blow, Cond.code yX1_blow cX1_blow 3 none, Cond.fieldLink RX1 15 "WindTaken$Quarter" "after" "[I", Cond.fieldLink RX1 84 "WindTaken$Ridge" "take" "I", Cond.methodLink RX7 219 yX1_madeBy]
noncomputable def wsX7_made_r4 : List Cond := [Cond.instanceMethod yX1_madeBy, Cond.selects RX1 yX1_madeBy yX1_madeBy, Cond.code yX1_madeBy cX1_madeBy 4 (some .int), Cond.methodLink RX1 105 yX1_grindsBy, Cond.instanceMethod yX1_grindsBy, Cond.selects RX1 yX1_grindsBy yX1_grindsBy, Cond.code yX1_grindsBy cX1_grindsBy 3 (some .int), Cond.fieldLink RX1 102 "WindTaken$Mill" "corn" "I", Cond.methodLink RX1 99 yX1_strengthOf, Cond.instanceMethod yX1_strengthOf, Cond.selects RX1 yX1_strengthOf yX1_strengthOf, Cond.code yX1_strengthOf cX1_strengthOf 5 (some .int), Cond.fieldLink RX1 93 "WindTaken$Mill" "sails" "I", Cond.methodLink RX1 96 yX1_windLeft, Cond.instanceMethod yX1_windLeft, Cond.selects RX1 yX1_windLeft yX1_windLeft, Cond.code yX1_windLeft cX1_windLeft 3 (some .int), Cond.methodLink RX1 87 yJ6_bitCount_0f7a4, Cond.static yJ6_bitCount_0f7a4, Cond.initialized RJ6, Cond.code yJ6_bitCount_0f7a4 cJ6_bitCount_0f7a4 1 (some .int), Cond.constant RJ6 265 (1431655765), Cond.constant RJ6 266 (858993459), Cond.constant RJ6 267 (252645135)]
noncomputable def wsX7_made : List Cond := .code yX7_made cX7_made 4 (some .int) :: ((wsX7_made_r1 ++ (wsX7_made_r2 ++ (wsX7_made_r3 ++ wsX7_made_r4))) ++ wsX70 ++ wsX30 ++ wsX10 ++ wsX00)
noncomputable def wsX7_best_r1 : List Cond := [Cond.fieldLink RX7 34 "WindTaken" "ridge" "LWindTaken$Ridge;", Cond.constant RX7 160 (-1000002), Cond.constant RX7 70 (-1000001), Cond.methodLink RX7 176 yX3_isNone, Cond.instanceMethod yX3_isNone, Cond.selects RX3 yX3_isNone yX3_isNone, Cond.initialized RX3, Cond.code yX3_isNone cX3_isNone 1 (some .boolean), Cond.fieldLink RX3 18 "WindTaken$Ridge" "count" "I", Cond.methodLink RX7 179 yX7_isWind, Cond.static yX7_isWind, Cond.initialized RX7, Cond.code yX7_isWind cX7_isWind 2 (some .boolean), Cond.methodLink RX7 154 yX7_isQuarter, Cond.static yX7_isQuarter, Cond.code yX7_isQuarter cX7_isQuarter 1 (some .boolean), Cond.methodLink RX7 66 yX7_isWithin, Cond.static yX7_isWithin, Cond.code yX7_isWithin cX7_isWithin 3 (some .boolean), Cond.methodLink RX7 209 yX7_windOf, Cond.instanceMethod yX7_windOf, Cond.selects RX7 yX7_windOf yX7_windOf, Cond.code yX7_windOf cX7_windOf 4 (some (.object "WindTaken$Quarter")), Cond.fieldLink RX7 47 "WindTaken" "quarters" "[LWindTaken$Quarter;"]
noncomputable def wsX7_best_r2 : List Cond := [Cond.methodLink RX7 239 yX1_survey, Cond.instanceMethod yX1_survey, Cond.selects RX1 yX1_survey yX1_survey, Cond.initialized RX1, Cond.code yX1_survey cX1_survey 7 none, Cond.fieldLink RX1 26 "WindTaken$Quarter" "turning" "I", Cond.fieldLink RX1 29 "WindTaken$Quarter" "taking" "I", Cond.fieldLink RX1 18 "WindTaken$Quarter" "ridge" "LWindTaken$Ridge;", Cond.fieldLink RX1 32 "WindTaken$Ridge" "count" "I", Cond.fieldLink RX1 37 "WindTaken$Ridge" "mills" "[LWindTaken$Mill;", Cond.fieldLink RX1 22 "WindTaken$Quarter" "q" "I", Cond.fieldLink RX1 51 "WindTaken$Mill" "kind" "I", Cond.fieldLink RX1 9 "WindTaken$Quarter" "behind" "[I", Cond.methodLink RX1 41 yX0_turnsIn, Cond.instanceMethod yX0_turnsIn, Cond.selects RX0 yX0_turnsIn yX0_turnsIn, Cond.initialized RX0, Cond.code yX0_turnsIn cX0_turnsIn 2 (some .boolean), Cond.fieldLink RX0 27 "WindTaken$Mill" "furled" "Z", Cond.fieldLink RX0 15 "WindTaken$Mill" "kind" "I", Cond.fieldLink RX0 24 "WindTaken$Mill" "facing" "I", Cond.static yX7_bit, Cond.code yX7_bit cX7_bit 1 (some .int), Cond.methodLink RX1 54 yX1_floorsOf]
noncomputable def wsX7_best_r3 : List Cond := [Cond.instanceMethod yX1_floorsOf, Cond.selects RX1 yX1_floorsOf yX1_floorsOf, Cond.code yX1_floorsOf cX1_floorsOf 4 (some .int), Cond.fieldLink RX1 62 "WindTaken$Mill" "floors" "I", Cond.methodLink RX1 65 Lib.Math.min.name, Cond.static Lib.Math.min.name, Cond.initialized "java/lang/Math", Cond.code Lib.Math.min.name Lib.Math.min.code 2 (some .int), Cond.methodLink RX1 58 yX1_isShaded, Cond.instanceMethod yX1_isShaded, Cond.selects RX1 yX1_isShaded yX1_isShaded, Cond.code yX1_isShaded cX1_isShaded 5 (some .boolean), Cond.fieldLink RX1 70 "WindTaken$Mill" "x" "I", Cond.fieldLink RX1 73 "WindTaken$Mill" "y" "I", Cond.methodLink RX1 76 yX1_isAhead, Cond.static yX1_isAhead, Cond.code yX1_isAhead cX1_isAhead 2 (some .boolean), Cond.methodLink RX7 262 yX1_blow, Cond.instanceMethod yX1_blow, Cond.selects RX1 yX1_blow yX1_blow, Cond.code yX1_blow cX1_blow 3 none, Cond.fieldLink RX1 15 "WindTaken$Quarter" "after" "[I", Cond.fieldLink RX1 84 "WindTaken$Ridge" "take" "I", Cond.methodLink RX7 222 yX1_bestSet]
noncomputable def wsX7_best_r4 : List Cond := [Cond.instanceMethod yX1_bestSet, Cond.selects RX1 yX1_bestSet yX1_bestSet, Cond.code yX1_bestSet cX1_bestSet 6 (some .int), Cond.methodLink RX1 111 yX1_madeBy, Cond.instanceMethod yX1_madeBy, Cond.selects RX1 yX1_madeBy yX1_madeBy, Cond.code yX1_madeBy cX1_madeBy 4 (some .int), Cond.methodLink RX1 105 yX1_grindsBy, Cond.instanceMethod yX1_grindsBy, Cond.selects RX1 yX1_grindsBy yX1_grindsBy, Cond.code yX1_grindsBy cX1_grindsBy 3 (some .int), Cond.fieldLink RX1 102 "WindTaken$Mill" "corn" "I", Cond.methodLink RX1 99 yX1_strengthOf, Cond.instanceMethod yX1_strengthOf, Cond.selects RX1 yX1_strengthOf yX1_strengthOf, Cond.code yX1_strengthOf cX1_strengthOf 5 (some .int), Cond.fieldLink RX1 93 "WindTaken$Mill" "sails" "I", Cond.methodLink RX1 96 yX1_windLeft, Cond.instanceMethod yX1_windLeft, Cond.selects RX1 yX1_windLeft yX1_windLeft, Cond.code yX1_windLeft cX1_windLeft 3 (some .int), Cond.methodLink RX1 87 yJ6_bitCount_0f7a4, Cond.static yJ6_bitCount_0f7a4, Cond.initialized RJ6]
noncomputable def wsX7_best_r5 : List Cond := [Cond.code yJ6_bitCount_0f7a4 cJ6_bitCount_0f7a4 1 (some .int), Cond.constant RJ6 265 (1431655765), Cond.constant RJ6 266 (858993459), Cond.constant RJ6 267 (252645135), Cond.methodLink RX7 219 yX1_madeBy]
noncomputable def wsX7_best : List Cond := .code yX7_best cX7_best 6 (some .int) :: ((wsX7_best_r1 ++ (wsX7_best_r2 ++ (wsX7_best_r3 ++ (wsX7_best_r4 ++ wsX7_best_r5)))) ++ wsX70 ++ wsX30 ++ wsX10 ++ wsX00)
noncomputable def wsX7_part_r1 : List Cond := [Cond.fieldLink RX7 34 "WindTaken" "ridge" "LWindTaken$Ridge;", Cond.constant RX7 70 (-1000001), Cond.fieldLink RX7 134 "WindTaken$Ridge" "count" "I", Cond.constant RX7 229 (-1000000), Cond.methodLink RX7 179 yX7_isWind, Cond.static yX7_isWind, Cond.initialized RX7, Cond.code yX7_isWind cX7_isWind 2 (some .boolean), Cond.methodLink RX7 154 yX7_isQuarter, Cond.static yX7_isQuarter, Cond.code yX7_isQuarter cX7_isQuarter 1 (some .boolean), Cond.methodLink RX7 66 yX7_isWithin, Cond.static yX7_isWithin, Cond.code yX7_isWithin cX7_isWithin 3 (some .boolean), Cond.methodLink RX7 137 yX3_has, Cond.instanceMethod yX3_has, Cond.selects RX3 yX3_has yX3_has, Cond.initialized RX3, Cond.code yX3_has cX3_has 2 (some .boolean), Cond.fieldLink RX3 18 "WindTaken$Ridge" "count" "I", Cond.methodLink RX7 209 yX7_windOf, Cond.instanceMethod yX7_windOf, Cond.selects RX7 yX7_windOf yX7_windOf, Cond.code yX7_windOf cX7_windOf 4 (some (.object "WindTaken$Quarter"))]
noncomputable def wsX7_part_r2 : List Cond := [Cond.fieldLink RX7 47 "WindTaken" "quarters" "[LWindTaken$Quarter;", Cond.methodLink RX7 239 yX1_survey, Cond.instanceMethod yX1_survey, Cond.selects RX1 yX1_survey yX1_survey, Cond.initialized RX1, Cond.code yX1_survey cX1_survey 7 none, Cond.fieldLink RX1 26 "WindTaken$Quarter" "turning" "I", Cond.fieldLink RX1 29 "WindTaken$Quarter" "taking" "I", Cond.fieldLink RX1 18 "WindTaken$Quarter" "ridge" "LWindTaken$Ridge;", Cond.fieldLink RX1 32 "WindTaken$Ridge" "count" "I", Cond.fieldLink RX1 37 "WindTaken$Ridge" "mills" "[LWindTaken$Mill;", Cond.fieldLink RX1 22 "WindTaken$Quarter" "q" "I", Cond.fieldLink RX1 51 "WindTaken$Mill" "kind" "I", Cond.fieldLink RX1 9 "WindTaken$Quarter" "behind" "[I", Cond.methodLink RX1 41 yX0_turnsIn, Cond.instanceMethod yX0_turnsIn, Cond.selects RX0 yX0_turnsIn yX0_turnsIn, Cond.initialized RX0, Cond.code yX0_turnsIn cX0_turnsIn 2 (some .boolean), Cond.fieldLink RX0 27 "WindTaken$Mill" "furled" "Z", Cond.fieldLink RX0 15 "WindTaken$Mill" "kind" "I", Cond.fieldLink RX0 24 "WindTaken$Mill" "facing" "I", Cond.static yX7_bit, Cond.code yX7_bit cX7_bit 1 (some .int)]
noncomputable def wsX7_part_r3 : List Cond := [Cond.methodLink RX1 54 yX1_floorsOf, Cond.instanceMethod yX1_floorsOf, Cond.selects RX1 yX1_floorsOf yX1_floorsOf, Cond.code yX1_floorsOf cX1_floorsOf 4 (some .int), Cond.fieldLink RX1 62 "WindTaken$Mill" "floors" "I", Cond.methodLink RX1 65 Lib.Math.min.name, Cond.static Lib.Math.min.name, Cond.initialized "java/lang/Math", Cond.code Lib.Math.min.name Lib.Math.min.code 2 (some .int), Cond.methodLink RX1 58 yX1_isShaded, Cond.instanceMethod yX1_isShaded, Cond.selects RX1 yX1_isShaded yX1_isShaded, Cond.code yX1_isShaded cX1_isShaded 5 (some .boolean), Cond.fieldLink RX1 70 "WindTaken$Mill" "x" "I", Cond.fieldLink RX1 73 "WindTaken$Mill" "y" "I", Cond.methodLink RX1 76 yX1_isAhead, Cond.static yX1_isAhead, Cond.code yX1_isAhead cX1_isAhead 2 (some .boolean), Cond.methodLink RX7 262 yX1_blow, Cond.instanceMethod yX1_blow, Cond.selects RX1 yX1_blow yX1_blow, Cond.code yX1_blow cX1_blow 3 none, Cond.fieldLink RX1 15 "WindTaken$Quarter" "after" "[I", Cond.fieldLink RX1 84 "WindTaken$Ridge" "take" "I"]
noncomputable def wsX7_part_r4 : List Cond := [Cond.methodLink RX7 222 yX1_bestSet, Cond.instanceMethod yX1_bestSet, Cond.selects RX1 yX1_bestSet yX1_bestSet, Cond.code yX1_bestSet cX1_bestSet 6 (some .int), Cond.methodLink RX1 111 yX1_madeBy, Cond.instanceMethod yX1_madeBy, Cond.selects RX1 yX1_madeBy yX1_madeBy, Cond.code yX1_madeBy cX1_madeBy 4 (some .int), Cond.methodLink RX1 105 yX1_grindsBy, Cond.instanceMethod yX1_grindsBy, Cond.selects RX1 yX1_grindsBy yX1_grindsBy, Cond.code yX1_grindsBy cX1_grindsBy 3 (some .int), Cond.fieldLink RX1 102 "WindTaken$Mill" "corn" "I", Cond.methodLink RX1 99 yX1_strengthOf, Cond.instanceMethod yX1_strengthOf, Cond.selects RX1 yX1_strengthOf yX1_strengthOf, Cond.code yX1_strengthOf cX1_strengthOf 5 (some .int), Cond.fieldLink RX1 93 "WindTaken$Mill" "sails" "I", Cond.methodLink RX1 96 yX1_windLeft, Cond.instanceMethod yX1_windLeft, Cond.selects RX1 yX1_windLeft yX1_windLeft, Cond.code yX1_windLeft cX1_windLeft 3 (some .int), Cond.methodLink RX1 87 yJ6_bitCount_0f7a4, Cond.static yJ6_bitCount_0f7a4]
noncomputable def wsX7_part_r5 : List Cond := [Cond.initialized RJ6, Cond.code yJ6_bitCount_0f7a4 cJ6_bitCount_0f7a4 1 (some .int), Cond.constant RJ6 265 (1431655765), Cond.constant RJ6 266 (858993459), Cond.constant RJ6 267 (252645135), Cond.methodLink RX7 219 yX1_madeBy, Cond.methodLink RX7 226 yX1_lossBy, Cond.instanceMethod yX1_lossBy, Cond.selects RX1 yX1_lossBy yX1_lossBy, Cond.code yX1_lossBy cX1_lossBy 3 (some .int), Cond.methodLink RX1 108 Lib.Math.max.name, Cond.static Lib.Math.max.name, Cond.code Lib.Math.max.name Lib.Math.max.code 2 (some .int)]
noncomputable def wsX7_part : List Cond := .code yX7_part cX7_part 8 (some .int) :: ((wsX7_part_r1 ++ (wsX7_part_r2 ++ (wsX7_part_r3 ++ (wsX7_part_r4 ++ wsX7_part_r5)))) ++ wsX70 ++ wsX30 ++ wsX10 ++ wsX00)
noncomputable def wsX7_still_r1 : List Cond := [Cond.fieldLink RX7 34 "WindTaken" "ridge" "LWindTaken$Ridge;", Cond.constant RX7 70 (-1000001), Cond.fieldLink RX7 233 "WindTaken$Ridge" "price" "I", Cond.methodLink RX7 179 yX7_isWind, Cond.static yX7_isWind, Cond.initialized RX7, Cond.code yX7_isWind cX7_isWind 2 (some .boolean), Cond.methodLink RX7 154 yX7_isQuarter, Cond.static yX7_isQuarter, Cond.code yX7_isQuarter cX7_isQuarter 1 (some .boolean), Cond.methodLink RX7 66 yX7_isWithin, Cond.static yX7_isWithin, Cond.code yX7_isWithin cX7_isWithin 3 (some .boolean), Cond.methodLink RX7 137 yX3_has, Cond.instanceMethod yX3_has, Cond.selects RX3 yX3_has yX3_has, Cond.initialized RX3, Cond.code yX3_has cX3_has 2 (some .boolean), Cond.fieldLink RX3 18 "WindTaken$Ridge" "count" "I", Cond.methodLink RX7 209 yX7_windOf, Cond.instanceMethod yX7_windOf, Cond.selects RX7 yX7_windOf yX7_windOf, Cond.code yX7_windOf cX7_windOf 4 (some (.object "WindTaken$Quarter")), Cond.fieldLink RX7 47 "WindTaken" "quarters" "[LWindTaken$Quarter;"]
noncomputable def wsX7_still_r2 : List Cond := [Cond.methodLink RX7 239 yX1_survey, Cond.instanceMethod yX1_survey, Cond.selects RX1 yX1_survey yX1_survey, Cond.initialized RX1, Cond.code yX1_survey cX1_survey 7 none, Cond.fieldLink RX1 26 "WindTaken$Quarter" "turning" "I", Cond.fieldLink RX1 29 "WindTaken$Quarter" "taking" "I", Cond.fieldLink RX1 18 "WindTaken$Quarter" "ridge" "LWindTaken$Ridge;", Cond.fieldLink RX1 32 "WindTaken$Ridge" "count" "I", Cond.fieldLink RX1 37 "WindTaken$Ridge" "mills" "[LWindTaken$Mill;", Cond.fieldLink RX1 22 "WindTaken$Quarter" "q" "I", Cond.fieldLink RX1 51 "WindTaken$Mill" "kind" "I", Cond.fieldLink RX1 9 "WindTaken$Quarter" "behind" "[I", Cond.methodLink RX1 41 yX0_turnsIn, Cond.instanceMethod yX0_turnsIn, Cond.selects RX0 yX0_turnsIn yX0_turnsIn, Cond.initialized RX0, Cond.code yX0_turnsIn cX0_turnsIn 2 (some .boolean), Cond.fieldLink RX0 27 "WindTaken$Mill" "furled" "Z", Cond.fieldLink RX0 15 "WindTaken$Mill" "kind" "I", Cond.fieldLink RX0 24 "WindTaken$Mill" "facing" "I", Cond.static yX7_bit, Cond.code yX7_bit cX7_bit 1 (some .int), Cond.methodLink RX1 54 yX1_floorsOf]
noncomputable def wsX7_still_r3 : List Cond := [Cond.instanceMethod yX1_floorsOf, Cond.selects RX1 yX1_floorsOf yX1_floorsOf, Cond.code yX1_floorsOf cX1_floorsOf 4 (some .int), Cond.fieldLink RX1 62 "WindTaken$Mill" "floors" "I", Cond.methodLink RX1 65 Lib.Math.min.name, Cond.static Lib.Math.min.name, Cond.initialized "java/lang/Math", Cond.code Lib.Math.min.name Lib.Math.min.code 2 (some .int), Cond.methodLink RX1 58 yX1_isShaded, Cond.instanceMethod yX1_isShaded, Cond.selects RX1 yX1_isShaded yX1_isShaded, Cond.code yX1_isShaded cX1_isShaded 5 (some .boolean), Cond.fieldLink RX1 70 "WindTaken$Mill" "x" "I", Cond.fieldLink RX1 73 "WindTaken$Mill" "y" "I", Cond.methodLink RX1 76 yX1_isAhead, Cond.static yX1_isAhead, Cond.code yX1_isAhead cX1_isAhead 2 (some .boolean), Cond.methodLink RX7 262 yX1_blow, Cond.instanceMethod yX1_blow, Cond.selects RX1 yX1_blow yX1_blow, Cond.code yX1_blow cX1_blow 3 none, Cond.fieldLink RX1 15 "WindTaken$Quarter" "after" "[I", Cond.fieldLink RX1 84 "WindTaken$Ridge" "take" "I", Cond.methodLink RX7 230 yX1_gainBy]
noncomputable def wsX7_still_r4 : List Cond := [Cond.instanceMethod yX1_gainBy, Cond.selects RX1 yX1_gainBy yX1_gainBy, Cond.code yX1_gainBy cX1_gainBy 3 (some .int), Cond.methodLink RX1 108 Lib.Math.max.name, Cond.static Lib.Math.max.name, Cond.code Lib.Math.max.name Lib.Math.max.code 2 (some .int), Cond.methodLink RX1 105 yX1_grindsBy, Cond.instanceMethod yX1_grindsBy, Cond.selects RX1 yX1_grindsBy yX1_grindsBy, Cond.code yX1_grindsBy cX1_grindsBy 3 (some .int), Cond.fieldLink RX1 102 "WindTaken$Mill" "corn" "I", Cond.methodLink RX1 99 yX1_strengthOf, Cond.instanceMethod yX1_strengthOf, Cond.selects RX1 yX1_strengthOf yX1_strengthOf, Cond.code yX1_strengthOf cX1_strengthOf 5 (some .int), Cond.fieldLink RX1 93 "WindTaken$Mill" "sails" "I", Cond.methodLink RX1 96 yX1_windLeft, Cond.instanceMethod yX1_windLeft, Cond.selects RX1 yX1_windLeft yX1_windLeft, Cond.code yX1_windLeft cX1_windLeft 3 (some .int), Cond.methodLink RX1 87 yJ6_bitCount_0f7a4, Cond.static yJ6_bitCount_0f7a4, Cond.initialized RJ6, Cond.code yJ6_bitCount_0f7a4 cJ6_bitCount_0f7a4 1 (some .int)]
noncomputable def wsX7_still_r5 : List Cond := [Cond.constant RJ6 265 (1431655765), Cond.constant RJ6 266 (858993459), Cond.constant RJ6 267 (252645135), Cond.methodLink RX7 226 yX1_lossBy, Cond.instanceMethod yX1_lossBy, Cond.selects RX1 yX1_lossBy yX1_lossBy, Cond.code yX1_lossBy cX1_lossBy 3 (some .int), Cond.methodLink RX7 150 yX7_bit]
noncomputable def wsX7_still : List Cond := .code yX7_still cX7_still 9 (some .int) :: ((wsX7_still_r1 ++ (wsX7_still_r2 ++ (wsX7_still_r3 ++ (wsX7_still_r4 ++ wsX7_still_r5)))) ++ wsX70 ++ wsX30 ++ wsX10 ++ wsX00)
noncomputable def wsX7_higher_r1 : List Cond := [Cond.fieldLink RX7 34 "WindTaken" "ridge" "LWindTaken$Ridge;", Cond.constant RX7 70 (-1000001), Cond.methodLink RX7 179 yX7_isWind, Cond.static yX7_isWind, Cond.initialized RX7, Cond.code yX7_isWind cX7_isWind 2 (some .boolean), Cond.methodLink RX7 154 yX7_isQuarter, Cond.static yX7_isQuarter, Cond.code yX7_isQuarter cX7_isQuarter 1 (some .boolean), Cond.methodLink RX7 66 yX7_isWithin, Cond.static yX7_isWithin, Cond.code yX7_isWithin cX7_isWithin 3 (some .boolean), Cond.methodLink RX7 137 yX3_has, Cond.instanceMethod yX3_has, Cond.selects RX3 yX3_has yX3_has, Cond.initialized RX3, Cond.code yX3_has cX3_has 2 (some .boolean), Cond.fieldLink RX3 18 "WindTaken$Ridge" "count" "I", Cond.methodLink RX7 209 yX7_windOf, Cond.instanceMethod yX7_windOf, Cond.selects RX7 yX7_windOf yX7_windOf, Cond.code yX7_windOf cX7_windOf 4 (some (.object "WindTaken$Quarter")), Cond.fieldLink RX7 47 "WindTaken" "quarters" "[LWindTaken$Quarter;", Cond.methodLink RX7 239 yX1_survey]
noncomputable def wsX7_higher_r2 : List Cond := [Cond.instanceMethod yX1_survey, Cond.selects RX1 yX1_survey yX1_survey, Cond.initialized RX1, Cond.code yX1_survey cX1_survey 7 none, Cond.fieldLink RX1 26 "WindTaken$Quarter" "turning" "I", Cond.fieldLink RX1 29 "WindTaken$Quarter" "taking" "I", Cond.fieldLink RX1 18 "WindTaken$Quarter" "ridge" "LWindTaken$Ridge;", Cond.fieldLink RX1 32 "WindTaken$Ridge" "count" "I", Cond.fieldLink RX1 37 "WindTaken$Ridge" "mills" "[LWindTaken$Mill;", Cond.fieldLink RX1 22 "WindTaken$Quarter" "q" "I", Cond.fieldLink RX1 51 "WindTaken$Mill" "kind" "I", Cond.fieldLink RX1 9 "WindTaken$Quarter" "behind" "[I", Cond.methodLink RX1 41 yX0_turnsIn, Cond.instanceMethod yX0_turnsIn, Cond.selects RX0 yX0_turnsIn yX0_turnsIn, Cond.initialized RX0, Cond.code yX0_turnsIn cX0_turnsIn 2 (some .boolean), Cond.fieldLink RX0 27 "WindTaken$Mill" "furled" "Z", Cond.fieldLink RX0 15 "WindTaken$Mill" "kind" "I", Cond.fieldLink RX0 24 "WindTaken$Mill" "facing" "I", Cond.static yX7_bit, Cond.code yX7_bit cX7_bit 1 (some .int), Cond.methodLink RX1 54 yX1_floorsOf, Cond.instanceMethod yX1_floorsOf]
noncomputable def wsX7_higher_r3 : List Cond := [Cond.selects RX1 yX1_floorsOf yX1_floorsOf, Cond.code yX1_floorsOf cX1_floorsOf 4 (some .int), Cond.fieldLink RX1 62 "WindTaken$Mill" "floors" "I", Cond.methodLink RX1 65 Lib.Math.min.name, Cond.static Lib.Math.min.name, Cond.initialized "java/lang/Math", Cond.code Lib.Math.min.name Lib.Math.min.code 2 (some .int), Cond.methodLink RX1 58 yX1_isShaded, Cond.instanceMethod yX1_isShaded, Cond.selects RX1 yX1_isShaded yX1_isShaded, Cond.code yX1_isShaded cX1_isShaded 5 (some .boolean), Cond.fieldLink RX1 70 "WindTaken$Mill" "x" "I", Cond.fieldLink RX1 73 "WindTaken$Mill" "y" "I", Cond.methodLink RX1 76 yX1_isAhead, Cond.static yX1_isAhead, Cond.code yX1_isAhead cX1_isAhead 2 (some .boolean), Cond.methodLink RX7 262 yX1_blow, Cond.instanceMethod yX1_blow, Cond.selects RX1 yX1_blow yX1_blow, Cond.code yX1_blow cX1_blow 3 none, Cond.fieldLink RX1 15 "WindTaken$Quarter" "after" "[I", Cond.fieldLink RX1 84 "WindTaken$Ridge" "take" "I", Cond.methodLink RX7 236 yX1_grindsBy, Cond.instanceMethod yX1_grindsBy]
noncomputable def wsX7_higher_r4 : List Cond := [Cond.selects RX1 yX1_grindsBy yX1_grindsBy, Cond.code yX1_grindsBy cX1_grindsBy 3 (some .int), Cond.fieldLink RX1 102 "WindTaken$Mill" "corn" "I", Cond.methodLink RX1 99 yX1_strengthOf, Cond.instanceMethod yX1_strengthOf, Cond.selects RX1 yX1_strengthOf yX1_strengthOf, Cond.code yX1_strengthOf cX1_strengthOf 5 (some .int), Cond.fieldLink RX1 93 "WindTaken$Mill" "sails" "I", Cond.methodLink RX1 96 yX1_windLeft, Cond.instanceMethod yX1_windLeft, Cond.selects RX1 yX1_windLeft yX1_windLeft, Cond.code yX1_windLeft cX1_windLeft 3 (some .int), Cond.methodLink RX1 87 yJ6_bitCount_0f7a4, Cond.static yJ6_bitCount_0f7a4, Cond.initialized RJ6, Cond.code yJ6_bitCount_0f7a4 cJ6_bitCount_0f7a4 1 (some .int), Cond.constant RJ6 265 (1431655765), Cond.constant RJ6 266 (858993459), Cond.constant RJ6 267 (252645135), Cond.methodLink RX7 219 yX1_madeBy, Cond.instanceMethod yX1_madeBy, Cond.selects RX1 yX1_madeBy yX1_madeBy, Cond.code yX1_madeBy cX1_madeBy 4 (some .int), Cond.methodLink RX1 105 yX1_grindsBy]
noncomputable def wsX7_higher : List Cond := .code yX7_higher cX7_higher 10 (some .int) :: ((wsX7_higher_r1 ++ (wsX7_higher_r2 ++ (wsX7_higher_r3 ++ wsX7_higher_r4))) ++ wsX70 ++ wsX30 ++ wsX10 ++ wsX00)
noncomputable def wsX7_owes_r1 : List Cond := [Cond.fieldLink RX7 34 "WindTaken" "ridge" "LWindTaken$Ridge;", Cond.constant RX7 70 (-1000001), Cond.fieldLink RX7 140 "WindTaken$Ridge" "mills" "[LWindTaken$Mill;", Cond.fieldLink RX7 194 "WindTaken$Mill" "age" "I", Cond.fieldLink RX7 246 "WindTaken$Ridge" "due" "I", Cond.methodLink RX7 179 yX7_isWind, Cond.static yX7_isWind, Cond.initialized RX7, Cond.code yX7_isWind cX7_isWind 2 (some .boolean), Cond.methodLink RX7 154 yX7_isQuarter, Cond.static yX7_isQuarter, Cond.code yX7_isQuarter cX7_isQuarter 1 (some .boolean), Cond.methodLink RX7 66 yX7_isWithin, Cond.static yX7_isWithin, Cond.code yX7_isWithin cX7_isWithin 3 (some .boolean), Cond.methodLink RX7 137 yX3_has, Cond.instanceMethod yX3_has, Cond.selects RX3 yX3_has yX3_has, Cond.initialized RX3, Cond.code yX3_has cX3_has 2 (some .boolean), Cond.fieldLink RX3 18 "WindTaken$Ridge" "count" "I", Cond.methodLink RX7 209 yX7_windOf, Cond.instanceMethod yX7_windOf, Cond.selects RX7 yX7_windOf yX7_windOf]
noncomputable def wsX7_owes_r2 : List Cond := [Cond.code yX7_windOf cX7_windOf 4 (some (.object "WindTaken$Quarter")), Cond.fieldLink RX7 47 "WindTaken" "quarters" "[LWindTaken$Quarter;", Cond.methodLink RX7 239 yX1_survey, Cond.instanceMethod yX1_survey, Cond.selects RX1 yX1_survey yX1_survey, Cond.initialized RX1, Cond.code yX1_survey cX1_survey 7 none, Cond.fieldLink RX1 26 "WindTaken$Quarter" "turning" "I", Cond.fieldLink RX1 29 "WindTaken$Quarter" "taking" "I", Cond.fieldLink RX1 18 "WindTaken$Quarter" "ridge" "LWindTaken$Ridge;", Cond.fieldLink RX1 32 "WindTaken$Ridge" "count" "I", Cond.fieldLink RX1 37 "WindTaken$Ridge" "mills" "[LWindTaken$Mill;", Cond.fieldLink RX1 22 "WindTaken$Quarter" "q" "I", Cond.fieldLink RX1 51 "WindTaken$Mill" "kind" "I", Cond.fieldLink RX1 9 "WindTaken$Quarter" "behind" "[I", Cond.methodLink RX1 41 yX0_turnsIn, Cond.instanceMethod yX0_turnsIn, Cond.selects RX0 yX0_turnsIn yX0_turnsIn, Cond.initialized RX0, Cond.code yX0_turnsIn cX0_turnsIn 2 (some .boolean), Cond.fieldLink RX0 27 "WindTaken$Mill" "furled" "Z", Cond.fieldLink RX0 15 "WindTaken$Mill" "kind" "I", Cond.fieldLink RX0 24 "WindTaken$Mill" "facing" "I", Cond.static yX7_bit]
noncomputable def wsX7_owes_r3 : List Cond := [Cond.code yX7_bit cX7_bit 1 (some .int), Cond.methodLink RX1 54 yX1_floorsOf, Cond.instanceMethod yX1_floorsOf, Cond.selects RX1 yX1_floorsOf yX1_floorsOf, Cond.code yX1_floorsOf cX1_floorsOf 4 (some .int), Cond.fieldLink RX1 62 "WindTaken$Mill" "floors" "I", Cond.methodLink RX1 65 Lib.Math.min.name, Cond.static Lib.Math.min.name, Cond.initialized "java/lang/Math", Cond.code Lib.Math.min.name Lib.Math.min.code 2 (some .int), Cond.methodLink RX1 58 yX1_isShaded, Cond.instanceMethod yX1_isShaded, Cond.selects RX1 yX1_isShaded yX1_isShaded, Cond.code yX1_isShaded cX1_isShaded 5 (some .boolean), Cond.fieldLink RX1 70 "WindTaken$Mill" "x" "I", Cond.fieldLink RX1 73 "WindTaken$Mill" "y" "I", Cond.methodLink RX1 76 yX1_isAhead, Cond.static yX1_isAhead, Cond.code yX1_isAhead cX1_isAhead 2 (some .boolean), Cond.methodLink RX7 262 yX1_blow, Cond.instanceMethod yX1_blow, Cond.selects RX1 yX1_blow yX1_blow, Cond.code yX1_blow cX1_blow 3 none, Cond.fieldLink RX1 15 "WindTaken$Quarter" "after" "[I"]
noncomputable def wsX7_owes_r4 : List Cond := [Cond.fieldLink RX1 84 "WindTaken$Ridge" "take" "I", Cond.methodLink RX7 243 yX1_takesFrom, Cond.instanceMethod yX1_takesFrom, Cond.selects RX1 yX1_takesFrom yX1_takesFrom, Cond.code yX1_takesFrom cX1_takesFrom 3 (some .boolean), Cond.methodLink RX7 230 yX1_gainBy, Cond.instanceMethod yX1_gainBy, Cond.selects RX1 yX1_gainBy yX1_gainBy, Cond.code yX1_gainBy cX1_gainBy 3 (some .int), Cond.methodLink RX1 108 Lib.Math.max.name, Cond.static Lib.Math.max.name, Cond.code Lib.Math.max.name Lib.Math.max.code 2 (some .int), Cond.methodLink RX1 105 yX1_grindsBy, Cond.instanceMethod yX1_grindsBy, Cond.selects RX1 yX1_grindsBy yX1_grindsBy, Cond.code yX1_grindsBy cX1_grindsBy 3 (some .int), Cond.fieldLink RX1 102 "WindTaken$Mill" "corn" "I", Cond.methodLink RX1 99 yX1_strengthOf, Cond.instanceMethod yX1_strengthOf, Cond.selects RX1 yX1_strengthOf yX1_strengthOf, Cond.code yX1_strengthOf cX1_strengthOf 5 (some .int), Cond.fieldLink RX1 93 "WindTaken$Mill" "sails" "I", Cond.methodLink RX1 96 yX1_windLeft, Cond.instanceMethod yX1_windLeft]
noncomputable def wsX7_owes_r5 : List Cond := [Cond.selects RX1 yX1_windLeft yX1_windLeft, Cond.code yX1_windLeft cX1_windLeft 3 (some .int), Cond.methodLink RX1 87 yJ6_bitCount_0f7a4, Cond.static yJ6_bitCount_0f7a4, Cond.initialized RJ6, Cond.code yJ6_bitCount_0f7a4 cJ6_bitCount_0f7a4 1 (some .int), Cond.constant RJ6 265 (1431655765), Cond.constant RJ6 266 (858993459), Cond.constant RJ6 267 (252645135)]
noncomputable def wsX7_owes : List Cond := .code yX7_owes cX7_owes 7 (some .int) :: ((wsX7_owes_r1 ++ (wsX7_owes_r2 ++ (wsX7_owes_r3 ++ (wsX7_owes_r4 ++ wsX7_owes_r5)))) ++ wsX70 ++ wsX30 ++ wsX00 ++ wsX10)
noncomputable def wsX7_nightSet_r1 : List Cond := [Cond.fieldLink RX7 34 "WindTaken" "ridge" "LWindTaken$Ridge;", Cond.fieldLink RX7 134 "WindTaken$Ridge" "count" "I", Cond.fieldLink RX7 98 "WindTaken$Row" "items" "[I", Cond.constant RX7 229 (-1000000), Cond.methodLink RX7 297 yX3_furledSet, Cond.instanceMethod yX3_furledSet, Cond.selects RX3 yX3_furledSet yX3_furledSet, Cond.initialized RX3, Cond.code yX3_furledSet cX3_furledSet 3 (some .int), Cond.fieldLink RX3 18 "WindTaken$Ridge" "count" "I", Cond.fieldLink RX3 11 "WindTaken$Ridge" "mills" "[LWindTaken$Mill;", Cond.fieldLink RX3 44 "WindTaken$Mill" "furled" "Z", Cond.static yX7_bit, Cond.initialized RX7, Cond.code yX7_bit cX7_bit 1 (some .int), Cond.methodLink RX7 312 yX1_wouldGrind, Cond.instanceMethod yX1_wouldGrind, Cond.selects RX1 yX1_wouldGrind yX1_wouldGrind, Cond.initialized RX1, Cond.code yX1_wouldGrind cX1_wouldGrind 6 (some .boolean), Cond.fieldLink RX1 18 "WindTaken$Quarter" "ridge" "LWindTaken$Ridge;", Cond.fieldLink RX1 32 "WindTaken$Ridge" "count" "I", Cond.fieldLink RX1 37 "WindTaken$Ridge" "mills" "[LWindTaken$Mill;", Cond.fieldLink RX1 102 "WindTaken$Mill" "corn" "I"]
noncomputable def wsX7_nightSet_r2 : List Cond := [Cond.methodLink RX1 65 Lib.Math.min.name, Cond.static Lib.Math.min.name, Cond.initialized "java/lang/Math", Cond.code Lib.Math.min.name Lib.Math.min.code 2 (some .int), Cond.methodLink RX1 99 yX1_strengthOf, Cond.instanceMethod yX1_strengthOf, Cond.selects RX1 yX1_strengthOf yX1_strengthOf, Cond.code yX1_strengthOf cX1_strengthOf 5 (some .int), Cond.fieldLink RX1 26 "WindTaken$Quarter" "turning" "I", Cond.fieldLink RX1 51 "WindTaken$Mill" "kind" "I", Cond.fieldLink RX1 93 "WindTaken$Mill" "sails" "I", Cond.methodLink RX1 96 yX1_windLeft, Cond.instanceMethod yX1_windLeft, Cond.selects RX1 yX1_windLeft yX1_windLeft, Cond.code yX1_windLeft cX1_windLeft 3 (some .int), Cond.fieldLink RX1 15 "WindTaken$Quarter" "after" "[I", Cond.fieldLink RX1 9 "WindTaken$Quarter" "behind" "[I", Cond.fieldLink RX1 29 "WindTaken$Quarter" "taking" "I", Cond.methodLink RX1 87 yJ6_bitCount_0f7a4, Cond.static yJ6_bitCount_0f7a4, Cond.initialized RJ6, Cond.code yJ6_bitCount_0f7a4 cJ6_bitCount_0f7a4 1 (some .int), Cond.constant RJ6 265 (1431655765), Cond.constant RJ6 266 (858993459)]
noncomputable def wsX7_nightSet_r3 : List Cond := [Cond.constant RJ6 267 (252645135)]
noncomputable def wsX7_nightSet : List Cond := .code yX7_nightSet cX7_nightSet 8 (some .int) :: ((wsX7_nightSet_r1 ++ (wsX7_nightSet_r2 ++ wsX7_nightSet_r3)) ++ wsX70 ++ wsX30 ++ wsX40 ++ wsX00 ++ wsX10)
noncomputable def wsX7_night_r1 : List Cond := [Cond.fieldLink RX7 34 "WindTaken" "ridge" "LWindTaken$Ridge;", Cond.constant RX7 160 (-1000002), Cond.constant RX7 70 (-1000001), Cond.fieldLink RX7 11 "WindTaken" "rows" "[LWindTaken$Row;", Cond.fieldLink RX7 134 "WindTaken$Ridge" "count" "I", Cond.methodLink RX7 176 yX3_isNone, Cond.instanceMethod yX3_isNone, Cond.selects RX3 yX3_isNone yX3_isNone, Cond.initialized RX3, Cond.code yX3_isNone cX3_isNone 1 (some .boolean), Cond.fieldLink RX3 18 "WindTaken$Ridge" "count" "I", Cond.methodLink RX7 179 yX7_isWind, Cond.static yX7_isWind, Cond.initialized RX7, Cond.code yX7_isWind cX7_isWind 2 (some .boolean), Cond.methodLink RX7 154 yX7_isQuarter, Cond.static yX7_isQuarter, Cond.code yX7_isQuarter cX7_isQuarter 1 (some .boolean), Cond.methodLink RX7 66 yX7_isWithin, Cond.static yX7_isWithin, Cond.code yX7_isWithin cX7_isWithin 3 (some .boolean), Cond.methodLink RX7 62 yX7_isRow, Cond.static yX7_isRow, Cond.code yX7_isRow cX7_isRow 1 (some .boolean)]
noncomputable def wsX7_night_r2 : List Cond := [Cond.methodLink RX7 82 yX4_isMissing, Cond.instanceMethod yX4_isMissing, Cond.selects RX4 yX4_isMissing yX4_isMissing, Cond.initialized RX4, Cond.code yX4_isMissing cX4_isMissing 1 (some .boolean), Cond.fieldLink RX4 15 "WindTaken$Row" "size" "I", Cond.methodLink RX7 71 yX7_found, Cond.instanceMethod yX7_found, Cond.selects RX7 yX7_found yX7_found, Cond.code yX7_found cX7_found 2 (some .int), Cond.fieldLink RX7 305 "WindTaken" "status" "I", Cond.constant RX7 308 (-1000010), Cond.methodLink RX7 86 yX4_covers, Cond.instanceMethod yX4_covers, Cond.selects RX4 yX4_covers yX4_covers, Cond.code yX4_covers cX4_covers 3 (some .boolean), Cond.methodLink RX7 209 yX7_windOf, Cond.instanceMethod yX7_windOf, Cond.selects RX7 yX7_windOf yX7_windOf, Cond.code yX7_windOf cX7_windOf 4 (some (.object "WindTaken$Quarter")), Cond.fieldLink RX7 47 "WindTaken" "quarters" "[LWindTaken$Quarter;", Cond.methodLink RX7 239 yX1_survey, Cond.instanceMethod yX1_survey, Cond.selects RX1 yX1_survey yX1_survey]
noncomputable def wsX7_night_r3 : List Cond := [Cond.initialized RX1, Cond.code yX1_survey cX1_survey 7 none, Cond.fieldLink RX1 26 "WindTaken$Quarter" "turning" "I", Cond.fieldLink RX1 29 "WindTaken$Quarter" "taking" "I", Cond.fieldLink RX1 18 "WindTaken$Quarter" "ridge" "LWindTaken$Ridge;", Cond.fieldLink RX1 32 "WindTaken$Ridge" "count" "I", Cond.fieldLink RX1 37 "WindTaken$Ridge" "mills" "[LWindTaken$Mill;", Cond.fieldLink RX1 22 "WindTaken$Quarter" "q" "I", Cond.fieldLink RX1 51 "WindTaken$Mill" "kind" "I", Cond.fieldLink RX1 9 "WindTaken$Quarter" "behind" "[I", Cond.methodLink RX1 41 yX0_turnsIn, Cond.instanceMethod yX0_turnsIn, Cond.selects RX0 yX0_turnsIn yX0_turnsIn, Cond.initialized RX0, Cond.code yX0_turnsIn cX0_turnsIn 2 (some .boolean), Cond.fieldLink RX0 27 "WindTaken$Mill" "furled" "Z", Cond.fieldLink RX0 15 "WindTaken$Mill" "kind" "I", Cond.fieldLink RX0 24 "WindTaken$Mill" "facing" "I", Cond.static yX7_bit, Cond.code yX7_bit cX7_bit 1 (some .int), Cond.methodLink RX1 54 yX1_floorsOf, Cond.instanceMethod yX1_floorsOf, Cond.selects RX1 yX1_floorsOf yX1_floorsOf, Cond.code yX1_floorsOf cX1_floorsOf 4 (some .int)]
noncomputable def wsX7_night_r4 : List Cond := [Cond.fieldLink RX1 62 "WindTaken$Mill" "floors" "I", Cond.methodLink RX1 65 Lib.Math.min.name, Cond.static Lib.Math.min.name, Cond.initialized "java/lang/Math", Cond.code Lib.Math.min.name Lib.Math.min.code 2 (some .int), Cond.methodLink RX1 58 yX1_isShaded, Cond.instanceMethod yX1_isShaded, Cond.selects RX1 yX1_isShaded yX1_isShaded, Cond.code yX1_isShaded cX1_isShaded 5 (some .boolean), Cond.fieldLink RX1 70 "WindTaken$Mill" "x" "I", Cond.fieldLink RX1 73 "WindTaken$Mill" "y" "I", Cond.methodLink RX1 76 yX1_isAhead, Cond.static yX1_isAhead, Cond.code yX1_isAhead cX1_isAhead 2 (some .boolean), Cond.methodLink RX7 262 yX1_blow, Cond.instanceMethod yX1_blow, Cond.selects RX1 yX1_blow yX1_blow, Cond.code yX1_blow cX1_blow 3 none, Cond.fieldLink RX1 15 "WindTaken$Quarter" "after" "[I", Cond.fieldLink RX1 84 "WindTaken$Ridge" "take" "I", Cond.methodLink RX7 249 yX7_nightSet, Cond.instanceMethod yX7_nightSet, Cond.selects RX7 yX7_nightSet yX7_nightSet, Cond.code yX7_nightSet cX7_nightSet 8 (some .int)]
noncomputable def wsX7_night_r5 : List Cond := [Cond.fieldLink RX7 98 "WindTaken$Row" "items" "[I", Cond.constant RX7 229 (-1000000), Cond.methodLink RX7 297 yX3_furledSet, Cond.instanceMethod yX3_furledSet, Cond.selects RX3 yX3_furledSet yX3_furledSet, Cond.code yX3_furledSet cX3_furledSet 3 (some .int), Cond.fieldLink RX3 11 "WindTaken$Ridge" "mills" "[LWindTaken$Mill;", Cond.fieldLink RX3 44 "WindTaken$Mill" "furled" "Z", Cond.methodLink RX7 312 yX1_wouldGrind, Cond.instanceMethod yX1_wouldGrind, Cond.selects RX1 yX1_wouldGrind yX1_wouldGrind, Cond.code yX1_wouldGrind cX1_wouldGrind 6 (some .boolean), Cond.fieldLink RX1 102 "WindTaken$Mill" "corn" "I", Cond.methodLink RX1 99 yX1_strengthOf, Cond.instanceMethod yX1_strengthOf, Cond.selects RX1 yX1_strengthOf yX1_strengthOf, Cond.code yX1_strengthOf cX1_strengthOf 5 (some .int), Cond.fieldLink RX1 93 "WindTaken$Mill" "sails" "I", Cond.methodLink RX1 96 yX1_windLeft, Cond.instanceMethod yX1_windLeft, Cond.selects RX1 yX1_windLeft yX1_windLeft, Cond.code yX1_windLeft cX1_windLeft 3 (some .int), Cond.methodLink RX1 87 yJ6_bitCount_0f7a4, Cond.static yJ6_bitCount_0f7a4]
noncomputable def wsX7_night_r6 : List Cond := [Cond.initialized RJ6, Cond.code yJ6_bitCount_0f7a4 cJ6_bitCount_0f7a4 1 (some .int), Cond.constant RJ6 265 (1431655765), Cond.constant RJ6 266 (858993459), Cond.constant RJ6 267 (252645135), Cond.methodLink RX7 79 yX7_unfound, Cond.instanceMethod yX7_unfound, Cond.selects RX7 yX7_unfound yX7_unfound, Cond.code yX7_unfound cX7_unfound 2 (some .int)]
noncomputable def wsX7_night : List Cond := .code yX7_night cX7_night 7 (some .int) :: ((wsX7_night_r1 ++ (wsX7_night_r2 ++ (wsX7_night_r3 ++ (wsX7_night_r4 ++ (wsX7_night_r5 ++ wsX7_night_r6))))) ++ wsX70 ++ wsX30 ++ wsX40 ++ wsX10 ++ wsX00)
noncomputable def wsX7_years_r1 : List Cond := [Cond.fieldLink RX7 34 "WindTaken" "ridge" "LWindTaken$Ridge;", Cond.constant RX7 160 (-1000002), Cond.constant RX7 253 (999999), Cond.constant RX7 70 (-1000001), Cond.fieldLink RX7 47 "WindTaken" "quarters" "[LWindTaken$Quarter;", Cond.constantLong RX7 254 (16807), Cond.constantLong RX7 256 (2147483647), Cond.constantLong RX7 258 (3), Cond.constantLong RX7 260 (101), Cond.methodLink RX7 176 yX3_isNone, Cond.instanceMethod yX3_isNone, Cond.selects RX3 yX3_isNone yX3_isNone, Cond.initialized RX3, Cond.code yX3_isNone cX3_isNone 1 (some .boolean), Cond.fieldLink RX3 18 "WindTaken$Ridge" "count" "I", Cond.methodLink RX7 137 yX3_has, Cond.instanceMethod yX3_has, Cond.selects RX3 yX3_has yX3_has, Cond.code yX3_has cX3_has 2 (some .boolean), Cond.methodLink RX7 66 yX7_isWithin, Cond.static yX7_isWithin, Cond.initialized RX7, Cond.code yX7_isWithin cX7_isWithin 3 (some .boolean), Cond.methodLink RX7 239 yX1_survey]
noncomputable def wsX7_years_r2 : List Cond := [Cond.instanceMethod yX1_survey, Cond.selects RX1 yX1_survey yX1_survey, Cond.initialized RX1, Cond.code yX1_survey cX1_survey 7 none, Cond.fieldLink RX1 26 "WindTaken$Quarter" "turning" "I", Cond.fieldLink RX1 29 "WindTaken$Quarter" "taking" "I", Cond.fieldLink RX1 18 "WindTaken$Quarter" "ridge" "LWindTaken$Ridge;", Cond.fieldLink RX1 32 "WindTaken$Ridge" "count" "I", Cond.fieldLink RX1 37 "WindTaken$Ridge" "mills" "[LWindTaken$Mill;", Cond.fieldLink RX1 22 "WindTaken$Quarter" "q" "I", Cond.fieldLink RX1 51 "WindTaken$Mill" "kind" "I", Cond.fieldLink RX1 9 "WindTaken$Quarter" "behind" "[I", Cond.methodLink RX1 41 yX0_turnsIn, Cond.instanceMethod yX0_turnsIn, Cond.selects RX0 yX0_turnsIn yX0_turnsIn, Cond.initialized RX0, Cond.code yX0_turnsIn cX0_turnsIn 2 (some .boolean), Cond.fieldLink RX0 27 "WindTaken$Mill" "furled" "Z", Cond.fieldLink RX0 15 "WindTaken$Mill" "kind" "I", Cond.fieldLink RX0 24 "WindTaken$Mill" "facing" "I", Cond.static yX7_bit, Cond.code yX7_bit cX7_bit 1 (some .int), Cond.methodLink RX1 54 yX1_floorsOf, Cond.instanceMethod yX1_floorsOf]
noncomputable def wsX7_years_r3 : List Cond := [Cond.selects RX1 yX1_floorsOf yX1_floorsOf, Cond.code yX1_floorsOf cX1_floorsOf 4 (some .int), Cond.fieldLink RX1 62 "WindTaken$Mill" "floors" "I", Cond.methodLink RX1 65 Lib.Math.min.name, Cond.static Lib.Math.min.name, Cond.initialized "java/lang/Math", Cond.code Lib.Math.min.name Lib.Math.min.code 2 (some .int), Cond.methodLink RX1 58 yX1_isShaded, Cond.instanceMethod yX1_isShaded, Cond.selects RX1 yX1_isShaded yX1_isShaded, Cond.code yX1_isShaded cX1_isShaded 5 (some .boolean), Cond.fieldLink RX1 70 "WindTaken$Mill" "x" "I", Cond.fieldLink RX1 73 "WindTaken$Mill" "y" "I", Cond.methodLink RX1 76 yX1_isAhead, Cond.static yX1_isAhead, Cond.code yX1_isAhead cX1_isAhead 2 (some .boolean), Cond.methodLink RX7 262 yX1_blow, Cond.instanceMethod yX1_blow, Cond.selects RX1 yX1_blow yX1_blow, Cond.code yX1_blow cX1_blow 3 none, Cond.fieldLink RX1 15 "WindTaken$Quarter" "after" "[I", Cond.fieldLink RX1 84 "WindTaken$Ridge" "take" "I", Cond.methodLink RX7 265 yX1_strengthOfAll, Cond.instanceMethod yX1_strengthOfAll]
noncomputable def wsX7_years_r4 : List Cond := [Cond.selects RX1 yX1_strengthOfAll yX1_strengthOfAll, Cond.code yX1_strengthOfAll cX1_strengthOfAll 3 (some .int), Cond.methodLink RX1 99 yX1_strengthOf, Cond.instanceMethod yX1_strengthOf, Cond.selects RX1 yX1_strengthOf yX1_strengthOf, Cond.code yX1_strengthOf cX1_strengthOf 5 (some .int), Cond.fieldLink RX1 93 "WindTaken$Mill" "sails" "I", Cond.methodLink RX1 96 yX1_windLeft, Cond.instanceMethod yX1_windLeft, Cond.selects RX1 yX1_windLeft yX1_windLeft, Cond.code yX1_windLeft cX1_windLeft 3 (some .int), Cond.methodLink RX1 87 yJ6_bitCount_0f7a4, Cond.static yJ6_bitCount_0f7a4, Cond.initialized RJ6, Cond.code yJ6_bitCount_0f7a4 cJ6_bitCount_0f7a4 1 (some .int), Cond.constant RJ6 265 (1431655765), Cond.constant RJ6 266 (858993459), Cond.constant RJ6 267 (252645135), Cond.methodLink RX7 268 yX1_strengthOf]
noncomputable def wsX7_years : List Cond := .code yX7_years cX7_years 10 (some .int) :: ((wsX7_years_r1 ++ (wsX7_years_r2 ++ (wsX7_years_r3 ++ wsX7_years_r4))) ++ wsX70 ++ wsX30 ++ wsX10 ++ wsX00)
noncomputable def wsX7_image_r1 : List Cond := [Cond.constant RX7 70 (-1000001), Cond.fieldLink RX7 34 "WindTaken" "ridge" "LWindTaken$Ridge;", Cond.constant RX7 160 (-1000002), Cond.fieldLink RX7 41 "WindTaken" "images" "[LWindTaken$Ridge;", Cond.methodLink RX7 66 yX7_isWithin, Cond.static yX7_isWithin, Cond.initialized RX7, Cond.code yX7_isWithin cX7_isWithin 3 (some .boolean), Cond.methodLink RX7 176 yX3_isNone, Cond.instanceMethod yX3_isNone, Cond.selects RX3 yX3_isNone yX3_isNone, Cond.initialized RX3, Cond.code yX3_isNone cX3_isNone 1 (some .boolean), Cond.fieldLink RX3 18 "WindTaken$Ridge" "count" "I", Cond.methodLink RX7 130 yX3_become, Cond.instanceMethod yX3_become, Cond.selects RX3 yX3_become yX3_become, Cond.code yX3_become cX3_become 3 none, Cond.fieldLink RX3 22 "WindTaken$Ridge" "gone" "I", Cond.fieldLink RX3 25 "WindTaken$Ridge" "take" "I", Cond.fieldLink RX3 28 "WindTaken$Ridge" "due" "I", Cond.fieldLink RX3 31 "WindTaken$Ridge" "price" "I", Cond.fieldLink RX3 11 "WindTaken$Ridge" "mills" "[LWindTaken$Mill;", Cond.methodLink RX3 34 yX0_become]
noncomputable def wsX7_image_r2 : List Cond := [Cond.instanceMethod yX0_become, Cond.selects RX0 yX0_become yX0_become, Cond.initialized RX0, Cond.code yX0_become cX0_become 2 none, Cond.fieldLink RX0 9 "WindTaken$Mill" "number" "I", Cond.fieldLink RX0 15 "WindTaken$Mill" "kind" "I", Cond.fieldLink RX0 31 "WindTaken$Mill" "x" "I", Cond.fieldLink RX0 34 "WindTaken$Mill" "y" "I", Cond.fieldLink RX0 37 "WindTaken$Mill" "floors" "I", Cond.fieldLink RX0 40 "WindTaken$Mill" "sails" "I", Cond.fieldLink RX0 43 "WindTaken$Mill" "age" "I", Cond.fieldLink RX0 46 "WindTaken$Mill" "corn" "I", Cond.fieldLink RX0 18 "WindTaken$Mill" "flour" "I", Cond.fieldLink RX0 21 "WindTaken$Mill" "wear" "I", Cond.fieldLink RX0 24 "WindTaken$Mill" "facing" "I", Cond.fieldLink RX0 27 "WindTaken$Mill" "furled" "Z"]
noncomputable def wsX7_image : List Cond := .code yX7_image cX7_image 2 (some .int) :: ((wsX7_image_r1 ++ wsX7_image_r2) ++ wsX70 ++ wsX30 ++ wsX00)
noncomputable def wsX7_restore_r1 : List Cond := [Cond.constant RX7 70 (-1000001), Cond.fieldLink RX7 41 "WindTaken" "images" "[LWindTaken$Ridge;", Cond.constant RX7 160 (-1000002), Cond.fieldLink RX7 34 "WindTaken" "ridge" "LWindTaken$Ridge;", Cond.methodLink RX7 66 yX7_isWithin, Cond.static yX7_isWithin, Cond.initialized RX7, Cond.code yX7_isWithin cX7_isWithin 3 (some .boolean), Cond.methodLink RX7 176 yX3_isNone, Cond.instanceMethod yX3_isNone, Cond.selects RX3 yX3_isNone yX3_isNone, Cond.initialized RX3, Cond.code yX3_isNone cX3_isNone 1 (some .boolean), Cond.fieldLink RX3 18 "WindTaken$Ridge" "count" "I", Cond.methodLink RX7 130 yX3_become, Cond.instanceMethod yX3_become, Cond.selects RX3 yX3_become yX3_become, Cond.code yX3_become cX3_become 3 none, Cond.fieldLink RX3 22 "WindTaken$Ridge" "gone" "I", Cond.fieldLink RX3 25 "WindTaken$Ridge" "take" "I", Cond.fieldLink RX3 28 "WindTaken$Ridge" "due" "I", Cond.fieldLink RX3 31 "WindTaken$Ridge" "price" "I", Cond.fieldLink RX3 11 "WindTaken$Ridge" "mills" "[LWindTaken$Mill;", Cond.methodLink RX3 34 yX0_become]
noncomputable def wsX7_restore_r2 : List Cond := [Cond.instanceMethod yX0_become, Cond.selects RX0 yX0_become yX0_become, Cond.initialized RX0, Cond.code yX0_become cX0_become 2 none, Cond.fieldLink RX0 9 "WindTaken$Mill" "number" "I", Cond.fieldLink RX0 15 "WindTaken$Mill" "kind" "I", Cond.fieldLink RX0 31 "WindTaken$Mill" "x" "I", Cond.fieldLink RX0 34 "WindTaken$Mill" "y" "I", Cond.fieldLink RX0 37 "WindTaken$Mill" "floors" "I", Cond.fieldLink RX0 40 "WindTaken$Mill" "sails" "I", Cond.fieldLink RX0 43 "WindTaken$Mill" "age" "I", Cond.fieldLink RX0 46 "WindTaken$Mill" "corn" "I", Cond.fieldLink RX0 18 "WindTaken$Mill" "flour" "I", Cond.fieldLink RX0 21 "WindTaken$Mill" "wear" "I", Cond.fieldLink RX0 24 "WindTaken$Mill" "facing" "I", Cond.fieldLink RX0 27 "WindTaken$Mill" "furled" "Z"]
noncomputable def wsX7_restore : List Cond := .code yX7_restore cX7_restore 2 (some .int) :: ((wsX7_restore_r1 ++ wsX7_restore_r2) ++ wsX70 ++ wsX30 ++ wsX00)
noncomputable def wsX7_kind : List Cond := .code yX7_kind cX7_kind 2 (some .int) :: ([.fieldLink RX7 34 "WindTaken" "ridge" "LWindTaken$Ridge;", .fieldLink RX7 140 "WindTaken$Ridge" "mills" "[LWindTaken$Mill;", .fieldLink RX7 157 "WindTaken$Mill" "kind" "I", .constant RX7 70 (-1000001), .methodLink RX7 137 yX3_has, .instanceMethod yX3_has, .selects RX3 yX3_has yX3_has, .initialized RX3, .code yX3_has cX3_has 2 (some .boolean), .fieldLink RX3 18 "WindTaken$Ridge" "count" "I"] ++ wsX70 ++ wsX30 ++ wsX00)
noncomputable def wsX7_isKind : List Cond := .code yX7_isKind cX7_isKind 4 (some .boolean) :: ([.fieldLink RX7 316 "WindTaken" "NEXT_KIND" "[I"])
noncomputable def wsX7_as_r1 : List Cond := [Cond.fieldLink RX7 34 "WindTaken" "ridge" "LWindTaken$Ridge;", Cond.constant RX7 70 (-1000001), Cond.fieldLink RX7 140 "WindTaken$Ridge" "mills" "[LWindTaken$Mill;", Cond.fieldLink RX7 157 "WindTaken$Mill" "kind" "I", Cond.methodLink RX7 137 yX3_has, Cond.instanceMethod yX3_has, Cond.selects RX3 yX3_has yX3_has, Cond.initialized RX3, Cond.code yX3_has cX3_has 2 (some .boolean), Cond.fieldLink RX3 18 "WindTaken$Ridge" "count" "I", Cond.methodLink RX7 66 yX7_isWithin, Cond.static yX7_isWithin, Cond.initialized RX7, Cond.code yX7_isWithin cX7_isWithin 3 (some .boolean), Cond.methodLink RX7 270 yX7_isKind, Cond.static yX7_isKind, Cond.code yX7_isKind cX7_isKind 4 (some .boolean), Cond.fieldLink RX7 316 "WindTaken" "NEXT_KIND" "[I", Cond.methodLink RX7 79 yX7_unfound, Cond.instanceMethod yX7_unfound, Cond.selects RX7 yX7_unfound yX7_unfound, Cond.code yX7_unfound cX7_unfound 2 (some .int), Cond.fieldLink RX7 305 "WindTaken" "status" "I", Cond.methodLink RX7 71 yX7_found]
noncomputable def wsX7_as_r2 : List Cond := [Cond.instanceMethod yX7_found, Cond.selects RX7 yX7_found yX7_found, Cond.code yX7_found cX7_found 2 (some .int), Cond.constant RX7 308 (-1000010)]
noncomputable def wsX7_as : List Cond := .code yX7_as cX7_as 3 (some .int) :: ((wsX7_as_r1 ++ wsX7_as_r2) ++ wsX70 ++ wsX30 ++ wsX00)
noncomputable def wsX7_sizeBody : List Cond := .code yX7_sizeBody cX7_sizeBody 1 (some .int) :: ([.fieldLink RX7 157 "WindTaken$Mill" "kind" "I", .fieldLink RX7 319 "WindTaken" "SIZE_BODY" "[I", .methodLink RX7 66 yX7_isWithin, .static yX7_isWithin, .initialized RX7, .code yX7_isWithin cX7_isWithin 3 (some .boolean)] ++ wsX00)
noncomputable def wsX7_markBody : List Cond := .code yX7_markBody cX7_markBody 1 (some .int) :: ([.fieldLink RX7 157 "WindTaken$Mill" "kind" "I", .fieldLink RX7 322 "WindTaken" "MARK_BODY" "[I", .methodLink RX7 66 yX7_isWithin, .static yX7_isWithin, .initialized RX7, .code yX7_isWithin cX7_isWithin 3 (some .boolean)] ++ wsX00)
noncomputable def wsX7_gives_r1 : List Cond := [Cond.fieldLink RX7 197 "WindTaken$Mill" "flour" "I", Cond.fieldLink RX7 328 "WindTaken$Mill" "number" "I", Cond.fieldLink RX7 164 "WindTaken$Mill" "floors" "I", Cond.fieldLink RX7 194 "WindTaken$Mill" "age" "I", Cond.methodLink RX7 325 yX6_leave, Cond.instanceMethod yX6_leave, Cond.selects RX6 yX6_leave yX6_leave, Cond.initialized RX6, Cond.code yX6_leave cX6_leave 2 none, Cond.fieldLink RX6 15 "WindTaken$Trace" "length" "I", Cond.fieldLink RX6 9 "WindTaken$Trace" "numbers" "[I", Cond.methodLink RX7 281 yX7_gives, Cond.static yX7_gives, Cond.initialized RX7, Cond.methodLink RX7 278 yX7_markBody, Cond.static yX7_markBody, Cond.code yX7_markBody cX7_markBody 1 (some .int), Cond.fieldLink RX7 157 "WindTaken$Mill" "kind" "I", Cond.fieldLink RX7 322 "WindTaken" "MARK_BODY" "[I", Cond.methodLink RX7 66 yX7_isWithin, Cond.static yX7_isWithin, Cond.code yX7_isWithin cX7_isWithin 3 (some .boolean), Cond.methodLink RX7 274 yX7_sizeBody, Cond.static yX7_sizeBody]
noncomputable def wsX7_gives_r2 : List Cond := [Cond.code yX7_sizeBody cX7_sizeBody 1 (some .int), Cond.fieldLink RX7 319 "WindTaken" "SIZE_BODY" "[I"]
noncomputable def wsX7_gives : List Cond := .code yX7_gives cX7_gives 5 (some .int) :: ((wsX7_gives_r1 ++ wsX7_gives_r2) ++ wsX00 ++ wsX60)
noncomputable def wsX7_ask_r1 : List Cond := [Cond.fieldLink RX7 34 "WindTaken" "ridge" "LWindTaken$Ridge;", Cond.constant RX7 70 (-1000001), Cond.fieldLink RX7 140 "WindTaken$Ridge" "mills" "[LWindTaken$Mill;", Cond.fieldLink RX7 54 "WindTaken" "trace" "LWindTaken$Trace;", Cond.fieldLink RX7 273 "WindTaken$Trace" "length" "I", Cond.methodLink RX7 137 yX3_has, Cond.instanceMethod yX3_has, Cond.selects RX3 yX3_has yX3_has, Cond.initialized RX3, Cond.code yX3_has cX3_has 2 (some .boolean), Cond.fieldLink RX3 18 "WindTaken$Ridge" "count" "I", Cond.methodLink RX7 66 yX7_isWithin, Cond.static yX7_isWithin, Cond.initialized RX7, Cond.code yX7_isWithin cX7_isWithin 3 (some .boolean), Cond.methodLink RX7 274 yX7_sizeBody, Cond.static yX7_sizeBody, Cond.code yX7_sizeBody cX7_sizeBody 1 (some .int), Cond.fieldLink RX7 157 "WindTaken$Mill" "kind" "I", Cond.fieldLink RX7 319 "WindTaken" "SIZE_BODY" "[I", Cond.methodLink RX7 278 yX7_markBody, Cond.static yX7_markBody, Cond.code yX7_markBody cX7_markBody 1 (some .int), Cond.fieldLink RX7 322 "WindTaken" "MARK_BODY" "[I"]
noncomputable def wsX7_ask_r2 : List Cond := [Cond.methodLink RX7 281 yX7_gives, Cond.static yX7_gives, Cond.code yX7_gives cX7_gives 5 (some .int), Cond.fieldLink RX7 197 "WindTaken$Mill" "flour" "I", Cond.fieldLink RX7 328 "WindTaken$Mill" "number" "I", Cond.fieldLink RX7 164 "WindTaken$Mill" "floors" "I", Cond.fieldLink RX7 194 "WindTaken$Mill" "age" "I", Cond.methodLink RX7 325 yX6_leave, Cond.instanceMethod yX6_leave, Cond.selects RX6 yX6_leave yX6_leave, Cond.initialized RX6, Cond.code yX6_leave cX6_leave 2 none, Cond.fieldLink RX6 15 "WindTaken$Trace" "length" "I", Cond.fieldLink RX6 9 "WindTaken$Trace" "numbers" "[I"]
noncomputable def wsX7_ask : List Cond := .code yX7_ask cX7_ask 4 (some .int) :: ((wsX7_ask_r1 ++ wsX7_ask_r2) ++ wsX70 ++ wsX30 ++ wsX60 ++ wsX00)
noncomputable def wsX7_trace : List Cond := .code yX7_trace cX7_trace 2 (some .int) :: ([.fieldLink RX7 54 "WindTaken" "trace" "LWindTaken$Trace;", .fieldLink RX7 273 "WindTaken$Trace" "length" "I", .fieldLink RX7 285 "WindTaken$Trace" "numbers" "[I", .constant RX7 229 (-1000000)] ++ wsX70 ++ wsX60)
noncomputable def wsX7_rowsThere : List Cond := .code yX7_rowsThere cX7_rowsThere 3 (some .int) :: ([.fieldLink RX7 11 "WindTaken" "rows" "[LWindTaken$Row;", .methodLink RX7 82 yX4_isMissing, .instanceMethod yX4_isMissing, .selects RX4 yX4_isMissing yX4_isMissing, .initialized RX4, .code yX4_isMissing cX4_isMissing 1 (some .boolean), .fieldLink RX4 15 "WindTaken$Row" "size" "I", .methodLink RX7 150 yX7_bit, .static yX7_bit, .initialized RX7, .code yX7_bit cX7_bit 1 (some .int)] ++ wsX70 ++ wsX40)
noncomputable def wsX7_count_r1 : List Cond := [Cond.fieldLink RX7 34 "WindTaken" "ridge" "LWindTaken$Ridge;", Cond.fieldLink RX7 134 "WindTaken$Ridge" "count" "I", Cond.fieldLink RX7 291 "WindTaken$Ridge" "gone" "I", Cond.fieldLink RX7 18 "WindTaken" "tape" "LWindTaken$Tape;", Cond.fieldLink RX7 111 "WindTaken$Tape" "length" "I", Cond.constant RX7 70 (-1000001), Cond.methodLink RX7 288 yX7_rowsThere, Cond.instanceMethod yX7_rowsThere, Cond.selects RX7 yX7_rowsThere yX7_rowsThere, Cond.initialized RX7, Cond.code yX7_rowsThere cX7_rowsThere 3 (some .int), Cond.fieldLink RX7 11 "WindTaken" "rows" "[LWindTaken$Row;", Cond.methodLink RX7 82 yX4_isMissing, Cond.instanceMethod yX4_isMissing, Cond.selects RX4 yX4_isMissing yX4_isMissing, Cond.initialized RX4, Cond.code yX4_isMissing cX4_isMissing 1 (some .boolean), Cond.fieldLink RX4 15 "WindTaken$Row" "size" "I", Cond.methodLink RX7 150 yX7_bit, Cond.static yX7_bit, Cond.code yX7_bit cX7_bit 1 (some .int), Cond.methodLink RX7 294 yX3_flourInAll, Cond.instanceMethod yX3_flourInAll, Cond.selects RX3 yX3_flourInAll yX3_flourInAll]
noncomputable def wsX7_count_r2 : List Cond := [Cond.initialized RX3, Cond.code yX3_flourInAll cX3_flourInAll 3 (some .int), Cond.fieldLink RX3 18 "WindTaken$Ridge" "count" "I", Cond.fieldLink RX3 11 "WindTaken$Ridge" "mills" "[LWindTaken$Mill;", Cond.fieldLink RX3 52 "WindTaken$Mill" "flour" "I", Cond.methodLink RX7 297 yX3_furledSet, Cond.instanceMethod yX3_furledSet, Cond.selects RX3 yX3_furledSet yX3_furledSet, Cond.code yX3_furledSet cX3_furledSet 3 (some .int), Cond.fieldLink RX3 44 "WindTaken$Mill" "furled" "Z", Cond.methodLink RX7 300 yJ6_bitCount_0f7a4, Cond.static yJ6_bitCount_0f7a4, Cond.initialized RJ6, Cond.code yJ6_bitCount_0f7a4 cJ6_bitCount_0f7a4 1 (some .int), Cond.constant RJ6 265 (1431655765), Cond.constant RJ6 266 (858993459), Cond.constant RJ6 267 (252645135)]
noncomputable def wsX7_count : List Cond := .code yX7_count cX7_count 2 (some .int) :: ((wsX7_count_r1 ++ wsX7_count_r2) ++ wsX70 ++ wsX30 ++ wsX50 ++ wsX40 ++ wsX00)
noncomputable def wsX7_status : List Cond := .code yX7_status cX7_status 1 (some .int) :: ([.fieldLink RX7 305 "WindTaken" "status" "I"] ++ wsX70)
noncomputable def wsX8_init : List Cond := .code yX8_init cX8_init 2 none :: ([.methodLink RX8 1 objectInit, .instanceMethod objectInit, .code objectInit ⟨#[0xb1]⟩ 1 none, .arrayClass .int, .fieldLink RX8 7 "WindTakenModel" "lanes" "[I", .fieldLink RX8 13 "WindTakenModel" "sizes" "[I", .fieldLink RX8 16 "WindTakenModel" "items" "[I", .fieldLink RX8 19 "WindTakenModel" "tape" "[I", .fieldLink RX8 22 "WindTakenModel" "now" "[I", .fieldLink RX8 25 "WindTakenModel" "image0" "[I", .fieldLink RX8 28 "WindTakenModel" "image1" "[I", .fieldLink RX8 31 "WindTakenModel" "read" "[I", .fieldLink RX8 34 "WindTakenModel" "trace" "[I", .fieldLink RX8 37 "WindTakenModel" "lent" "[I", .fieldLink RX8 40 "WindTakenModel" "ground" "[I", .fieldLink RX8 43 "WindTakenModel" "worn" "[I"] ++ wsX80)
noncomputable def wsX8_in : List Cond := .code yX8_in cX8_in 6 (some .boolean) :: ([])
noncomputable def wsX8_has : List Cond := .code yX8_has cX8_has 2 (some .boolean) :: ([])
noncomputable def wsX8_found : List Cond := .code yX8_found cX8_found 3 (some .int) :: ([.fieldLink RX8 46 "WindTakenModel" "status" "I", .constant RX8 50 (-1000010)] ++ wsX80)
noncomputable def wsX8_isRow : List Cond := .code yX8_isRow cX8_isRow 1 (some .boolean) :: ([.constantLong RX8 51 (7), .methodLink RX8 53 yX8_in, .static yX8_in, .initialized RX8, .code yX8_in cX8_in 6 (some .boolean)])
noncomputable def wsX8_isMissing : List Cond := .code yX8_isMissing cX8_isMissing 2 (some .boolean) :: ([.fieldLink RX8 7 "WindTakenModel" "lanes" "[I"] ++ wsX80)
noncomputable def wsX8_row : List Cond := .code yX8_row cX8_row 5 (some .int) :: ([.constantLong RX8 61 (2), .constant RX8 63 (-1000001), .fieldLink RX8 7 "WindTakenModel" "lanes" "[I", .fieldLink RX8 13 "WindTakenModel" "sizes" "[I", .fieldLink RX8 16 "WindTakenModel" "items" "[I", .methodLink RX8 57 yX8_isRow, .static yX8_isRow, .initialized RX8, .code yX8_isRow cX8_isRow 1 (some .boolean), .constantLong RX8 51 (7), .methodLink RX8 53 yX8_in, .static yX8_in, .code yX8_in cX8_in 6 (some .boolean), .methodLink RX8 64 yX8_found, .instanceMethod yX8_found, .selects RX8 yX8_found yX8_found, .code yX8_found cX8_found 3 (some .int), .fieldLink RX8 46 "WindTakenModel" "status" "I", .constant RX8 50 (-1000010)] ++ wsX80)
noncomputable def wsX8_narrow : List Cond := .code yX8_narrow cX8_narrow 2 (some .int) :: ([.constant RX8 68 (65535), .constant RX8 69 (32768)])
noncomputable def wsX8_set_r1 : List Cond := [Cond.constant RX8 63 (-1000001), Cond.fieldLink RX8 13 "WindTakenModel" "sizes" "[I", Cond.fieldLink RX8 16 "WindTakenModel" "items" "[I", Cond.fieldLink RX8 7 "WindTakenModel" "lanes" "[I", Cond.methodLink RX8 57 yX8_isRow, Cond.static yX8_isRow, Cond.initialized RX8, Cond.code yX8_isRow cX8_isRow 1 (some .boolean), Cond.constantLong RX8 51 (7), Cond.methodLink RX8 53 yX8_in, Cond.static yX8_in, Cond.code yX8_in cX8_in 6 (some .boolean), Cond.methodLink RX8 70 yX8_isMissing, Cond.instanceMethod yX8_isMissing, Cond.selects RX8 yX8_isMissing yX8_isMissing, Cond.code yX8_isMissing cX8_isMissing 2 (some .boolean), Cond.methodLink RX8 64 yX8_found, Cond.instanceMethod yX8_found, Cond.selects RX8 yX8_found yX8_found, Cond.code yX8_found cX8_found 3 (some .int), Cond.fieldLink RX8 46 "WindTakenModel" "status" "I", Cond.constant RX8 50 (-1000010), Cond.methodLink RX8 73 yX8_narrow, Cond.static yX8_narrow]
noncomputable def wsX8_set_r2 : List Cond := [Cond.code yX8_narrow cX8_narrow 2 (some .int), Cond.constant RX8 68 (65535), Cond.constant RX8 69 (32768)]
noncomputable def wsX8_set : List Cond := .code yX8_set cX8_set 4 (some .int) :: ((wsX8_set_r1 ++ wsX8_set_r2) ++ wsX80)
noncomputable def wsX8_isWithin : List Cond := .code yX8_isWithin cX8_isWithin 3 (some .boolean) :: ([])
noncomputable def wsX8_copy_r1 : List Cond := [Cond.constant RX8 63 (-1000001), Cond.fieldLink RX8 7 "WindTakenModel" "lanes" "[I", Cond.fieldLink RX8 13 "WindTakenModel" "sizes" "[I", Cond.fieldLink RX8 37 "WindTakenModel" "lent" "[I", Cond.fieldLink RX8 16 "WindTakenModel" "items" "[I", Cond.methodLink RX8 57 yX8_isRow, Cond.static yX8_isRow, Cond.initialized RX8, Cond.code yX8_isRow cX8_isRow 1 (some .boolean), Cond.constantLong RX8 51 (7), Cond.methodLink RX8 53 yX8_in, Cond.static yX8_in, Cond.code yX8_in cX8_in 6 (some .boolean), Cond.methodLink RX8 70 yX8_isMissing, Cond.instanceMethod yX8_isMissing, Cond.selects RX8 yX8_isMissing yX8_isMissing, Cond.code yX8_isMissing cX8_isMissing 2 (some .boolean), Cond.methodLink RX8 64 yX8_found, Cond.instanceMethod yX8_found, Cond.selects RX8 yX8_found yX8_found, Cond.code yX8_found cX8_found 3 (some .int), Cond.fieldLink RX8 46 "WindTakenModel" "status" "I", Cond.constant RX8 50 (-1000010), Cond.methodLink RX8 76 yX8_isWithin]
noncomputable def wsX8_copy_r2 : List Cond := [Cond.static yX8_isWithin, Cond.code yX8_isWithin cX8_isWithin 3 (some .boolean)]
noncomputable def wsX8_copy : List Cond := .code yX8_copy cX8_copy 7 (some .int) :: ((wsX8_copy_r1 ++ wsX8_copy_r2) ++ wsX80)
noncomputable def wsX8_drop : List Cond := .code yX8_drop cX8_drop 2 (some .int) :: ([.constant RX8 63 (-1000001), .fieldLink RX8 7 "WindTakenModel" "lanes" "[I", .fieldLink RX8 13 "WindTakenModel" "sizes" "[I", .methodLink RX8 57 yX8_isRow, .static yX8_isRow, .initialized RX8, .code yX8_isRow cX8_isRow 1 (some .boolean), .constantLong RX8 51 (7), .methodLink RX8 53 yX8_in, .static yX8_in, .code yX8_in cX8_in 6 (some .boolean), .methodLink RX8 70 yX8_isMissing, .instanceMethod yX8_isMissing, .selects RX8 yX8_isMissing yX8_isMissing, .code yX8_isMissing cX8_isMissing 2 (some .boolean), .methodLink RX8 64 yX8_found, .instanceMethod yX8_found, .selects RX8 yX8_found yX8_found, .code yX8_found cX8_found 3 (some .int), .fieldLink RX8 46 "WindTakenModel" "status" "I", .constant RX8 50 (-1000010)] ++ wsX80)
noncomputable def wsX8_feed : List Cond := .code yX8_feed cX8_feed 5 (some .int) :: ([.constantLong RX8 80 (8), .constant RX8 63 (-1000001), .fieldLink RX8 82 "WindTakenModel" "tapeLong" "I", .constant RX8 85 (-1000003), .fieldLink RX8 19 "WindTakenModel" "tape" "[I", .constantLong RX8 86 (255), .methodLink RX8 53 yX8_in, .static yX8_in, .initialized RX8, .code yX8_in cX8_in 6 (some .boolean)] ++ wsX80)
noncomputable def wsX8_byteAt : List Cond := .code yX8_byteAt cX8_byteAt 2 (some .int) :: ([.fieldLink RX8 82 "WindTakenModel" "tapeLong" "I", .fieldLink RX8 19 "WindTakenModel" "tape" "[I"] ++ wsX80)
noncomputable def wsX8_nextToken : List Cond := .code yX8_nextToken cX8_nextToken 2 none :: ([.fieldLink RX8 88 "WindTakenModel" "behind" "I", .fieldLink RX8 91 "WindTakenModel" "begins" "I", .fieldLink RX8 82 "WindTakenModel" "tapeLong" "I", .fieldLink RX8 98 "WindTakenModel" "worth" "J", .fieldLink RX8 102 "WindTakenModel" "kind" "I", .constantLong RX8 105 (97), .constantLong RX8 107 (122), .constantLong RX8 109 (27), .constantLong RX8 111 (96), .constantLong RX8 113 (-1), .constantLong RX8 115 (48), .constantLong RX8 117 (57), .constantLong RX8 119 (10), .methodLink RX8 94 yX8_byteAt, .instanceMethod yX8_byteAt, .selects RX8 yX8_byteAt yX8_byteAt, .initialized RX8, .code yX8_byteAt cX8_byteAt 2 (some .int), .fieldLink RX8 19 "WindTakenModel" "tape" "[I", .methodLink RX8 53 yX8_in, .static yX8_in, .code yX8_in cX8_in 6 (some .boolean)] ++ wsX80)
noncomputable def wsX8_isNumber_r1 : List Cond := [Cond.fieldLink RX8 102 "WindTakenModel" "kind" "I", Cond.fieldLink RX8 98 "WindTakenModel" "worth" "J", Cond.fieldLink RX8 124 "WindTakenModel" "wrong" "I", Cond.methodLink RX8 121 yX8_nextToken, Cond.instanceMethod yX8_nextToken, Cond.selects RX8 yX8_nextToken yX8_nextToken, Cond.initialized RX8, Cond.code yX8_nextToken cX8_nextToken 2 none, Cond.fieldLink RX8 88 "WindTakenModel" "behind" "I", Cond.fieldLink RX8 91 "WindTakenModel" "begins" "I", Cond.fieldLink RX8 82 "WindTakenModel" "tapeLong" "I", Cond.constantLong RX8 105 (97), Cond.constantLong RX8 107 (122), Cond.constantLong RX8 109 (27), Cond.constantLong RX8 111 (96), Cond.constantLong RX8 113 (-1), Cond.constantLong RX8 115 (48), Cond.constantLong RX8 117 (57), Cond.constantLong RX8 119 (10), Cond.methodLink RX8 94 yX8_byteAt, Cond.instanceMethod yX8_byteAt, Cond.selects RX8 yX8_byteAt yX8_byteAt, Cond.code yX8_byteAt cX8_byteAt 2 (some .int), Cond.fieldLink RX8 19 "WindTakenModel" "tape" "[I"]
noncomputable def wsX8_isNumber_r2 : List Cond := [Cond.methodLink RX8 53 yX8_in, Cond.static yX8_in, Cond.code yX8_in cX8_in 6 (some .boolean)]
noncomputable def wsX8_isNumber : List Cond := .code yX8_isNumber cX8_isNumber 3 (some .boolean) :: ((wsX8_isNumber_r1 ++ wsX8_isNumber_r2) ++ wsX80)
noncomputable def wsX8_isEnd_r1 : List Cond := [Cond.fieldLink RX8 102 "WindTakenModel" "kind" "I", Cond.fieldLink RX8 124 "WindTakenModel" "wrong" "I", Cond.methodLink RX8 121 yX8_nextToken, Cond.instanceMethod yX8_nextToken, Cond.selects RX8 yX8_nextToken yX8_nextToken, Cond.initialized RX8, Cond.code yX8_nextToken cX8_nextToken 2 none, Cond.fieldLink RX8 88 "WindTakenModel" "behind" "I", Cond.fieldLink RX8 91 "WindTakenModel" "begins" "I", Cond.fieldLink RX8 82 "WindTakenModel" "tapeLong" "I", Cond.fieldLink RX8 98 "WindTakenModel" "worth" "J", Cond.constantLong RX8 105 (97), Cond.constantLong RX8 107 (122), Cond.constantLong RX8 109 (27), Cond.constantLong RX8 111 (96), Cond.constantLong RX8 113 (-1), Cond.constantLong RX8 115 (48), Cond.constantLong RX8 117 (57), Cond.constantLong RX8 119 (10), Cond.methodLink RX8 94 yX8_byteAt, Cond.instanceMethod yX8_byteAt, Cond.selects RX8 yX8_byteAt yX8_byteAt, Cond.code yX8_byteAt cX8_byteAt 2 (some .int), Cond.fieldLink RX8 19 "WindTakenModel" "tape" "[I"]
noncomputable def wsX8_isEnd_r2 : List Cond := [Cond.methodLink RX8 53 yX8_in, Cond.static yX8_in, Cond.code yX8_in cX8_in 6 (some .boolean)]
noncomputable def wsX8_isEnd : List Cond := .code yX8_isEnd cX8_isEnd 1 (some .boolean) :: ((wsX8_isEnd_r1 ++ wsX8_isEnd_r2) ++ wsX80)
noncomputable def wsX8_readLaw_r1 : List Cond := [Cond.fieldLink RX8 102 "WindTakenModel" "kind" "I", Cond.fieldLink RX8 98 "WindTakenModel" "worth" "J", Cond.constantLong RX8 127 (8798), Cond.fieldLink RX8 124 "WindTakenModel" "wrong" "I", Cond.fieldLink RX8 31 "WindTakenModel" "read" "[I", Cond.methodLink RX8 121 yX8_nextToken, Cond.instanceMethod yX8_nextToken, Cond.selects RX8 yX8_nextToken yX8_nextToken, Cond.initialized RX8, Cond.code yX8_nextToken cX8_nextToken 2 none, Cond.fieldLink RX8 88 "WindTakenModel" "behind" "I", Cond.fieldLink RX8 91 "WindTakenModel" "begins" "I", Cond.fieldLink RX8 82 "WindTakenModel" "tapeLong" "I", Cond.constantLong RX8 105 (97), Cond.constantLong RX8 107 (122), Cond.constantLong RX8 109 (27), Cond.constantLong RX8 111 (96), Cond.constantLong RX8 113 (-1), Cond.constantLong RX8 115 (48), Cond.constantLong RX8 117 (57), Cond.constantLong RX8 119 (10), Cond.methodLink RX8 94 yX8_byteAt, Cond.instanceMethod yX8_byteAt, Cond.selects RX8 yX8_byteAt yX8_byteAt]
noncomputable def wsX8_readLaw_r2 : List Cond := [Cond.code yX8_byteAt cX8_byteAt 2 (some .int), Cond.fieldLink RX8 19 "WindTakenModel" "tape" "[I", Cond.methodLink RX8 53 yX8_in, Cond.static yX8_in, Cond.code yX8_in cX8_in 6 (some .boolean), Cond.methodLink RX8 129 yX8_isNumber, Cond.instanceMethod yX8_isNumber, Cond.selects RX8 yX8_isNumber yX8_isNumber, Cond.code yX8_isNumber cX8_isNumber 3 (some .boolean), Cond.methodLink RX8 133 yX8_isEnd, Cond.instanceMethod yX8_isEnd, Cond.selects RX8 yX8_isEnd yX8_isEnd, Cond.code yX8_isEnd cX8_isEnd 1 (some .boolean)]
noncomputable def wsX8_readLaw : List Cond := .code yX8_readLaw cX8_readLaw 1 (some .boolean) :: ((wsX8_readLaw_r1 ++ wsX8_readLaw_r2) ++ wsX80)
noncomputable def wsX8_kindOf : List Cond := .code yX8_kindOf cX8_kindOf 2 (some .int) :: ([.constantLong RX8 137 (3383428), .constantLong RX8 139 (123061171), .constantLong RX8 141 (158523), .constantLong RX8 143 (12257559), .constantLong RX8 145 (369860)])
noncomputable def wsX8_isTaken : List Cond := .code yX8_isTaken cX8_isTaken 6 (some .boolean) :: ([.fieldLink RX8 31 "WindTakenModel" "read" "[I"] ++ wsX80)
noncomputable def wsX8_readMill_r1 : List Cond := [Cond.fieldLink RX8 31 "WindTakenModel" "read" "[I", Cond.fieldLink RX8 102 "WindTakenModel" "kind" "I", Cond.fieldLink RX8 98 "WindTakenModel" "worth" "J", Cond.constantLong RX8 147 (262776), Cond.fieldLink RX8 124 "WindTakenModel" "wrong" "I", Cond.methodLink RX8 121 yX8_nextToken, Cond.instanceMethod yX8_nextToken, Cond.selects RX8 yX8_nextToken yX8_nextToken, Cond.initialized RX8, Cond.code yX8_nextToken cX8_nextToken 2 none, Cond.fieldLink RX8 88 "WindTakenModel" "behind" "I", Cond.fieldLink RX8 91 "WindTakenModel" "begins" "I", Cond.fieldLink RX8 82 "WindTakenModel" "tapeLong" "I", Cond.constantLong RX8 105 (97), Cond.constantLong RX8 107 (122), Cond.constantLong RX8 109 (27), Cond.constantLong RX8 111 (96), Cond.constantLong RX8 113 (-1), Cond.constantLong RX8 115 (48), Cond.constantLong RX8 117 (57), Cond.constantLong RX8 119 (10), Cond.methodLink RX8 94 yX8_byteAt, Cond.instanceMethod yX8_byteAt, Cond.selects RX8 yX8_byteAt yX8_byteAt]
noncomputable def wsX8_readMill_r2 : List Cond := [Cond.code yX8_byteAt cX8_byteAt 2 (some .int), Cond.fieldLink RX8 19 "WindTakenModel" "tape" "[I", Cond.methodLink RX8 53 yX8_in, Cond.static yX8_in, Cond.code yX8_in cX8_in 6 (some .boolean), Cond.methodLink RX8 149 yX8_kindOf, Cond.static yX8_kindOf, Cond.code yX8_kindOf cX8_kindOf 2 (some .int), Cond.constantLong RX8 137 (3383428), Cond.constantLong RX8 139 (123061171), Cond.constantLong RX8 141 (158523), Cond.constantLong RX8 143 (12257559), Cond.constantLong RX8 145 (369860), Cond.methodLink RX8 129 yX8_isNumber, Cond.instanceMethod yX8_isNumber, Cond.selects RX8 yX8_isNumber yX8_isNumber, Cond.code yX8_isNumber cX8_isNumber 3 (some .boolean), Cond.methodLink RX8 153 yX8_isTaken, Cond.instanceMethod yX8_isTaken, Cond.selects RX8 yX8_isTaken yX8_isTaken, Cond.code yX8_isTaken cX8_isTaken 6 (some .boolean), Cond.methodLink RX8 133 yX8_isEnd, Cond.instanceMethod yX8_isEnd, Cond.selects RX8 yX8_isEnd yX8_isEnd]
noncomputable def wsX8_readMill_r3 : List Cond := [Cond.code yX8_isEnd cX8_isEnd 1 (some .boolean)]
noncomputable def wsX8_readMill : List Cond := .code yX8_readMill cX8_readMill 6 (some .boolean) :: ((wsX8_readMill_r1 ++ (wsX8_readMill_r2 ++ wsX8_readMill_r3)) ++ wsX80)
noncomputable def wsX8_readAll_r1 : List Cond := [Cond.fieldLink RX8 31 "WindTakenModel" "read" "[I", Cond.fieldLink RX8 88 "WindTakenModel" "behind" "I", Cond.fieldLink RX8 124 "WindTakenModel" "wrong" "I", Cond.fieldLink RX8 102 "WindTakenModel" "kind" "I", Cond.methodLink RX8 157 yX8_readLaw, Cond.instanceMethod yX8_readLaw, Cond.selects RX8 yX8_readLaw yX8_readLaw, Cond.initialized RX8, Cond.code yX8_readLaw cX8_readLaw 1 (some .boolean), Cond.fieldLink RX8 98 "WindTakenModel" "worth" "J", Cond.constantLong RX8 127 (8798), Cond.methodLink RX8 121 yX8_nextToken, Cond.instanceMethod yX8_nextToken, Cond.selects RX8 yX8_nextToken yX8_nextToken, Cond.code yX8_nextToken cX8_nextToken 2 none, Cond.fieldLink RX8 91 "WindTakenModel" "begins" "I", Cond.fieldLink RX8 82 "WindTakenModel" "tapeLong" "I", Cond.constantLong RX8 105 (97), Cond.constantLong RX8 107 (122), Cond.constantLong RX8 109 (27), Cond.constantLong RX8 111 (96), Cond.constantLong RX8 113 (-1), Cond.constantLong RX8 115 (48), Cond.constantLong RX8 117 (57)]
noncomputable def wsX8_readAll_r2 : List Cond := [Cond.constantLong RX8 119 (10), Cond.methodLink RX8 94 yX8_byteAt, Cond.instanceMethod yX8_byteAt, Cond.selects RX8 yX8_byteAt yX8_byteAt, Cond.code yX8_byteAt cX8_byteAt 2 (some .int), Cond.fieldLink RX8 19 "WindTakenModel" "tape" "[I", Cond.methodLink RX8 53 yX8_in, Cond.static yX8_in, Cond.code yX8_in cX8_in 6 (some .boolean), Cond.methodLink RX8 129 yX8_isNumber, Cond.instanceMethod yX8_isNumber, Cond.selects RX8 yX8_isNumber yX8_isNumber, Cond.code yX8_isNumber cX8_isNumber 3 (some .boolean), Cond.methodLink RX8 133 yX8_isEnd, Cond.instanceMethod yX8_isEnd, Cond.selects RX8 yX8_isEnd yX8_isEnd, Cond.code yX8_isEnd cX8_isEnd 1 (some .boolean), Cond.methodLink RX8 160 yX8_readMill, Cond.instanceMethod yX8_readMill, Cond.selects RX8 yX8_readMill yX8_readMill, Cond.code yX8_readMill cX8_readMill 6 (some .boolean), Cond.constantLong RX8 147 (262776), Cond.methodLink RX8 149 yX8_kindOf, Cond.static yX8_kindOf]
noncomputable def wsX8_readAll_r3 : List Cond := [Cond.code yX8_kindOf cX8_kindOf 2 (some .int), Cond.constantLong RX8 137 (3383428), Cond.constantLong RX8 139 (123061171), Cond.constantLong RX8 141 (158523), Cond.constantLong RX8 143 (12257559), Cond.constantLong RX8 145 (369860), Cond.methodLink RX8 153 yX8_isTaken, Cond.instanceMethod yX8_isTaken, Cond.selects RX8 yX8_isTaken yX8_isTaken, Cond.code yX8_isTaken cX8_isTaken 6 (some .boolean)]
noncomputable def wsX8_readAll : List Cond := .code yX8_readAll cX8_readAll 1 (some .boolean) :: ((wsX8_readAll_r1 ++ (wsX8_readAll_r2 ++ wsX8_readAll_r3)) ++ wsX80)
noncomputable def wsX8_copyRow : List Cond := .code yX8_copyRow cX8_copyRow 3 none :: ([])
noncomputable def wsX8_ridge_r1 : List Cond := [Cond.fieldLink RX8 91 "WindTakenModel" "begins" "I", Cond.fieldLink RX8 82 "WindTakenModel" "tapeLong" "I", Cond.fieldLink RX8 124 "WindTakenModel" "wrong" "I", Cond.fieldLink RX8 166 "WindTakenModel" "fault" "I", Cond.constant RX8 169 (-1000100), Cond.fieldLink RX8 31 "WindTakenModel" "read" "[I", Cond.fieldLink RX8 22 "WindTakenModel" "now" "[I", Cond.methodLink RX8 163 yX8_readAll, Cond.instanceMethod yX8_readAll, Cond.selects RX8 yX8_readAll yX8_readAll, Cond.initialized RX8, Cond.code yX8_readAll cX8_readAll 1 (some .boolean), Cond.fieldLink RX8 88 "WindTakenModel" "behind" "I", Cond.fieldLink RX8 102 "WindTakenModel" "kind" "I", Cond.methodLink RX8 157 yX8_readLaw, Cond.instanceMethod yX8_readLaw, Cond.selects RX8 yX8_readLaw yX8_readLaw, Cond.code yX8_readLaw cX8_readLaw 1 (some .boolean), Cond.fieldLink RX8 98 "WindTakenModel" "worth" "J", Cond.constantLong RX8 127 (8798), Cond.methodLink RX8 121 yX8_nextToken, Cond.instanceMethod yX8_nextToken, Cond.selects RX8 yX8_nextToken yX8_nextToken, Cond.code yX8_nextToken cX8_nextToken 2 none]
noncomputable def wsX8_ridge_r2 : List Cond := [Cond.constantLong RX8 105 (97), Cond.constantLong RX8 107 (122), Cond.constantLong RX8 109 (27), Cond.constantLong RX8 111 (96), Cond.constantLong RX8 113 (-1), Cond.constantLong RX8 115 (48), Cond.constantLong RX8 117 (57), Cond.constantLong RX8 119 (10), Cond.methodLink RX8 94 yX8_byteAt, Cond.instanceMethod yX8_byteAt, Cond.selects RX8 yX8_byteAt yX8_byteAt, Cond.code yX8_byteAt cX8_byteAt 2 (some .int), Cond.fieldLink RX8 19 "WindTakenModel" "tape" "[I", Cond.methodLink RX8 53 yX8_in, Cond.static yX8_in, Cond.code yX8_in cX8_in 6 (some .boolean), Cond.methodLink RX8 129 yX8_isNumber, Cond.instanceMethod yX8_isNumber, Cond.selects RX8 yX8_isNumber yX8_isNumber, Cond.code yX8_isNumber cX8_isNumber 3 (some .boolean), Cond.methodLink RX8 133 yX8_isEnd, Cond.instanceMethod yX8_isEnd, Cond.selects RX8 yX8_isEnd yX8_isEnd, Cond.code yX8_isEnd cX8_isEnd 1 (some .boolean)]
noncomputable def wsX8_ridge_r3 : List Cond := [Cond.methodLink RX8 160 yX8_readMill, Cond.instanceMethod yX8_readMill, Cond.selects RX8 yX8_readMill yX8_readMill, Cond.code yX8_readMill cX8_readMill 6 (some .boolean), Cond.constantLong RX8 147 (262776), Cond.methodLink RX8 149 yX8_kindOf, Cond.static yX8_kindOf, Cond.code yX8_kindOf cX8_kindOf 2 (some .int), Cond.constantLong RX8 137 (3383428), Cond.constantLong RX8 139 (123061171), Cond.constantLong RX8 141 (158523), Cond.constantLong RX8 143 (12257559), Cond.constantLong RX8 145 (369860), Cond.methodLink RX8 153 yX8_isTaken, Cond.instanceMethod yX8_isTaken, Cond.selects RX8 yX8_isTaken yX8_isTaken, Cond.code yX8_isTaken cX8_isTaken 6 (some .boolean), Cond.methodLink RX8 170 yX8_copyRow, Cond.static yX8_copyRow, Cond.code yX8_copyRow cX8_copyRow 3 none]
noncomputable def wsX8_ridge : List Cond := .code yX8_ridge cX8_ridge 3 (some .int) :: ((wsX8_ridge_r1 ++ (wsX8_ridge_r2 ++ wsX8_ridge_r3)) ++ wsX80)
noncomputable def wsX8_fault : List Cond := .code yX8_fault cX8_fault 1 (some .int) :: ([.fieldLink RX8 166 "WindTakenModel" "fault" "I"] ++ wsX80)
noncomputable def wsX8_isMill : List Cond := .code yX8_isMill cX8_isMill 2 (some .boolean) :: ([.fieldLink RX8 22 "WindTakenModel" "now" "[I", .methodLink RX8 53 yX8_in, .static yX8_in, .initialized RX8, .code yX8_in cX8_in 6 (some .boolean)] ++ wsX80)
noncomputable def wsX8_isNoRidge : List Cond := .code yX8_isNoRidge cX8_isNoRidge 1 (some .boolean) :: ([.fieldLink RX8 22 "WindTakenModel" "now" "[I"] ++ wsX80)
noncomputable def wsX8_of : List Cond := .code yX8_of cX8_of 3 (some .int) :: ([.fieldLink RX8 22 "WindTakenModel" "now" "[I"] ++ wsX80)
noncomputable def wsX8_furl : List Cond := .code yX8_furl cX8_furl 4 (some .int) :: ([.constant RX8 63 (-1000001), .fieldLink RX8 22 "WindTakenModel" "now" "[I", .methodLink RX8 174 yX8_isMill, .instanceMethod yX8_isMill, .selects RX8 yX8_isMill yX8_isMill, .initialized RX8, .code yX8_isMill cX8_isMill 2 (some .boolean), .methodLink RX8 53 yX8_in, .static yX8_in, .code yX8_in cX8_in 6 (some .boolean), .methodLink RX8 177 yX8_of, .instanceMethod yX8_of, .selects RX8 yX8_of yX8_of, .code yX8_of cX8_of 3 (some .int)] ++ wsX80)
noncomputable def wsX8_isQuarter : List Cond := .code yX8_isQuarter cX8_isQuarter 1 (some .boolean) :: ([.constantLong RX8 180 (3), .methodLink RX8 53 yX8_in, .static yX8_in, .initialized RX8, .code yX8_in cX8_in 6 (some .boolean)])
noncomputable def wsX8_face : List Cond := .code yX8_face cX8_face 4 (some .int) :: ([.constant RX8 63 (-1000001), .fieldLink RX8 22 "WindTakenModel" "now" "[I", .constant RX8 185 (-1000002), .methodLink RX8 174 yX8_isMill, .instanceMethod yX8_isMill, .selects RX8 yX8_isMill yX8_isMill, .initialized RX8, .code yX8_isMill cX8_isMill 2 (some .boolean), .methodLink RX8 53 yX8_in, .static yX8_in, .code yX8_in cX8_in 6 (some .boolean), .methodLink RX8 182 yX8_isQuarter, .static yX8_isQuarter, .code yX8_isQuarter cX8_isQuarter 1 (some .boolean), .constantLong RX8 180 (3), .methodLink RX8 177 yX8_of, .instanceMethod yX8_of, .selects RX8 yX8_of yX8_of, .code yX8_of cX8_of 3 (some .int)] ++ wsX80)
noncomputable def wsX8_build : List Cond := .code yX8_build cX8_build 2 (some .int) :: ([.constant RX8 63 (-1000001), .constant RX8 85 (-1000003), .fieldLink RX8 22 "WindTakenModel" "now" "[I", .methodLink RX8 174 yX8_isMill, .instanceMethod yX8_isMill, .selects RX8 yX8_isMill yX8_isMill, .initialized RX8, .code yX8_isMill cX8_isMill 2 (some .boolean), .methodLink RX8 53 yX8_in, .static yX8_in, .code yX8_in cX8_in 6 (some .boolean), .methodLink RX8 177 yX8_of, .instanceMethod yX8_of, .selects RX8 yX8_of yX8_of, .code yX8_of cX8_of 3 (some .int)] ++ wsX80)
noncomputable def wsX8_bring : List Cond := .code yX8_bring cX8_bring 4 (some .int) :: ([.constantLong RX8 186 (999), .constant RX8 63 (-1000001), .fieldLink RX8 22 "WindTakenModel" "now" "[I", .constant RX8 188 (99999), .methodLink RX8 174 yX8_isMill, .instanceMethod yX8_isMill, .selects RX8 yX8_isMill yX8_isMill, .initialized RX8, .code yX8_isMill cX8_isMill 2 (some .boolean), .methodLink RX8 53 yX8_in, .static yX8_in, .code yX8_in cX8_in 6 (some .boolean), .methodLink RX8 177 yX8_of, .instanceMethod yX8_of, .selects RX8 yX8_of yX8_of, .code yX8_of cX8_of 3 (some .int)] ++ wsX80)
noncomputable def wsX8_mill : List Cond := .code yX8_mill cX8_mill 3 (some .int) :: ([.constantLong RX8 189 (9), .constant RX8 63 (-1000001), .methodLink RX8 174 yX8_isMill, .instanceMethod yX8_isMill, .selects RX8 yX8_isMill yX8_isMill, .initialized RX8, .code yX8_isMill cX8_isMill 2 (some .boolean), .fieldLink RX8 22 "WindTakenModel" "now" "[I", .methodLink RX8 53 yX8_in, .static yX8_in, .code yX8_in cX8_in 6 (some .boolean), .methodLink RX8 177 yX8_of, .instanceMethod yX8_of, .selects RX8 yX8_of yX8_of, .code yX8_of cX8_of 3 (some .int)] ++ wsX80)
noncomputable def wsX8_isBehind : List Cond := .code yX8_isBehind cX8_isBehind 11 (some .boolean) :: ([.constantLong RX8 191 (6), .constantLong RX8 113 (-1), .methodLink RX8 177 yX8_of, .instanceMethod yX8_of, .selects RX8 yX8_of yX8_of, .initialized RX8, .code yX8_of cX8_of 3 (some .int), .fieldLink RX8 22 "WindTakenModel" "now" "[I", .methodLink RX8 53 yX8_in, .static yX8_in, .code yX8_in cX8_in 6 (some .boolean)] ++ wsX80)
noncomputable def wsX8_turns : List Cond := .code yX8_turns cX8_turns 5 (some .boolean) :: ([.fieldLink RX8 22 "WindTakenModel" "now" "[I", .methodLink RX8 177 yX8_of, .instanceMethod yX8_of, .selects RX8 yX8_of yX8_of, .initialized RX8, .code yX8_of cX8_of 3 (some .int), .methodLink RX8 193 yX8_has, .static yX8_has, .code yX8_has cX8_has 2 (some .boolean)] ++ wsX80)
noncomputable def wsX8_takes : List Cond := .code yX8_takes cX8_takes 4 (some .boolean) :: ([.fieldLink RX8 22 "WindTakenModel" "now" "[I", .methodLink RX8 196 yX8_turns, .instanceMethod yX8_turns, .selects RX8 yX8_turns yX8_turns, .initialized RX8, .code yX8_turns cX8_turns 5 (some .boolean), .methodLink RX8 177 yX8_of, .instanceMethod yX8_of, .selects RX8 yX8_of yX8_of, .code yX8_of cX8_of 3 (some .int), .methodLink RX8 193 yX8_has, .static yX8_has, .code yX8_has cX8_has 2 (some .boolean)] ++ wsX80)
noncomputable def wsX8_leftAt_r1 : List Cond := [Cond.fieldLink RX8 22 "WindTakenModel" "now" "[I", Cond.methodLink RX8 199 yX8_isBehind, Cond.instanceMethod yX8_isBehind, Cond.selects RX8 yX8_isBehind yX8_isBehind, Cond.initialized RX8, Cond.code yX8_isBehind cX8_isBehind 11 (some .boolean), Cond.constantLong RX8 191 (6), Cond.constantLong RX8 113 (-1), Cond.methodLink RX8 177 yX8_of, Cond.instanceMethod yX8_of, Cond.selects RX8 yX8_of yX8_of, Cond.code yX8_of cX8_of 3 (some .int), Cond.methodLink RX8 53 yX8_in, Cond.static yX8_in, Cond.code yX8_in cX8_in 6 (some .boolean), Cond.methodLink RX8 203 yX8_takes, Cond.instanceMethod yX8_takes, Cond.selects RX8 yX8_takes yX8_takes, Cond.code yX8_takes cX8_takes 4 (some .boolean), Cond.methodLink RX8 196 yX8_turns, Cond.instanceMethod yX8_turns, Cond.selects RX8 yX8_turns yX8_turns, Cond.code yX8_turns cX8_turns 5 (some .boolean), Cond.methodLink RX8 193 yX8_has]
noncomputable def wsX8_leftAt_r2 : List Cond := [Cond.static yX8_has, Cond.code yX8_has cX8_has 2 (some .boolean)]
noncomputable def wsX8_leftAt : List Cond := .code yX8_leftAt cX8_leftAt 8 (some .int) :: ((wsX8_leftAt_r1 ++ wsX8_leftAt_r2) ++ wsX80)
noncomputable def wsX8_grindsFree_r1 : List Cond := [Cond.fieldLink RX8 22 "WindTakenModel" "now" "[I", Cond.methodLink RX8 196 yX8_turns, Cond.instanceMethod yX8_turns, Cond.selects RX8 yX8_turns yX8_turns, Cond.initialized RX8, Cond.code yX8_turns cX8_turns 5 (some .boolean), Cond.methodLink RX8 177 yX8_of, Cond.instanceMethod yX8_of, Cond.selects RX8 yX8_of yX8_of, Cond.code yX8_of cX8_of 3 (some .int), Cond.methodLink RX8 193 yX8_has, Cond.static yX8_has, Cond.code yX8_has cX8_has 2 (some .boolean), Cond.methodLink RX8 206 yX8_leftAt, Cond.instanceMethod yX8_leftAt, Cond.selects RX8 yX8_leftAt yX8_leftAt, Cond.code yX8_leftAt cX8_leftAt 8 (some .int), Cond.methodLink RX8 199 yX8_isBehind, Cond.instanceMethod yX8_isBehind, Cond.selects RX8 yX8_isBehind yX8_isBehind, Cond.code yX8_isBehind cX8_isBehind 11 (some .boolean), Cond.constantLong RX8 191 (6), Cond.constantLong RX8 113 (-1), Cond.methodLink RX8 53 yX8_in]
noncomputable def wsX8_grindsFree_r2 : List Cond := [Cond.static yX8_in, Cond.code yX8_in cX8_in 6 (some .boolean), Cond.methodLink RX8 203 yX8_takes, Cond.instanceMethod yX8_takes, Cond.selects RX8 yX8_takes yX8_takes, Cond.code yX8_takes cX8_takes 4 (some .boolean)]
noncomputable def wsX8_grindsFree : List Cond := .code yX8_grindsFree cX8_grindsFree 7 (some .int) :: ((wsX8_grindsFree_r1 ++ wsX8_grindsFree_r2) ++ wsX80)
noncomputable def wsX8_grinds_r1 : List Cond := [Cond.methodLink RX8 210 yX8_grindsFree, Cond.instanceMethod yX8_grindsFree, Cond.selects RX8 yX8_grindsFree yX8_grindsFree, Cond.initialized RX8, Cond.code yX8_grindsFree cX8_grindsFree 7 (some .int), Cond.fieldLink RX8 22 "WindTakenModel" "now" "[I", Cond.methodLink RX8 196 yX8_turns, Cond.instanceMethod yX8_turns, Cond.selects RX8 yX8_turns yX8_turns, Cond.code yX8_turns cX8_turns 5 (some .boolean), Cond.methodLink RX8 177 yX8_of, Cond.instanceMethod yX8_of, Cond.selects RX8 yX8_of yX8_of, Cond.code yX8_of cX8_of 3 (some .int), Cond.methodLink RX8 193 yX8_has, Cond.static yX8_has, Cond.code yX8_has cX8_has 2 (some .boolean), Cond.methodLink RX8 206 yX8_leftAt, Cond.instanceMethod yX8_leftAt, Cond.selects RX8 yX8_leftAt yX8_leftAt, Cond.code yX8_leftAt cX8_leftAt 8 (some .int), Cond.methodLink RX8 199 yX8_isBehind, Cond.instanceMethod yX8_isBehind, Cond.selects RX8 yX8_isBehind yX8_isBehind]
noncomputable def wsX8_grinds_r2 : List Cond := [Cond.code yX8_isBehind cX8_isBehind 11 (some .boolean), Cond.constantLong RX8 191 (6), Cond.constantLong RX8 113 (-1), Cond.methodLink RX8 53 yX8_in, Cond.static yX8_in, Cond.code yX8_in cX8_in 6 (some .boolean), Cond.methodLink RX8 203 yX8_takes, Cond.instanceMethod yX8_takes, Cond.selects RX8 yX8_takes yX8_takes, Cond.code yX8_takes cX8_takes 4 (some .boolean)]
noncomputable def wsX8_grinds : List Cond := .code yX8_grinds cX8_grinds 7 (some .int) :: ((wsX8_grinds_r1 ++ wsX8_grinds_r2) ++ wsX80)
noncomputable def wsX8_isWind : List Cond := .code yX8_isWind cX8_isWind 2 (some .boolean) :: ([.constantLong RX8 213 (100), .methodLink RX8 182 yX8_isQuarter, .static yX8_isQuarter, .initialized RX8, .code yX8_isQuarter cX8_isQuarter 1 (some .boolean), .constantLong RX8 180 (3), .methodLink RX8 53 yX8_in, .static yX8_in, .code yX8_in cX8_in 6 (some .boolean)])
noncomputable def wsX8_goHour_r1 : List Cond := [Cond.fieldLink RX8 22 "WindTakenModel" "now" "[I", Cond.fieldLink RX8 40 "WindTakenModel" "ground" "[I", Cond.constant RX8 215 (-1000000), Cond.fieldLink RX8 43 "WindTakenModel" "worn" "[I", Cond.methodLink RX8 216 yX8_grinds, Cond.instanceMethod yX8_grinds, Cond.selects RX8 yX8_grinds yX8_grinds, Cond.initialized RX8, Cond.code yX8_grinds cX8_grinds 7 (some .int), Cond.methodLink RX8 210 yX8_grindsFree, Cond.instanceMethod yX8_grindsFree, Cond.selects RX8 yX8_grindsFree yX8_grindsFree, Cond.code yX8_grindsFree cX8_grindsFree 7 (some .int), Cond.methodLink RX8 196 yX8_turns, Cond.instanceMethod yX8_turns, Cond.selects RX8 yX8_turns yX8_turns, Cond.code yX8_turns cX8_turns 5 (some .boolean), Cond.methodLink RX8 177 yX8_of, Cond.instanceMethod yX8_of, Cond.selects RX8 yX8_of yX8_of, Cond.code yX8_of cX8_of 3 (some .int), Cond.methodLink RX8 193 yX8_has, Cond.static yX8_has, Cond.code yX8_has cX8_has 2 (some .boolean)]
noncomputable def wsX8_goHour_r2 : List Cond := [Cond.methodLink RX8 206 yX8_leftAt, Cond.instanceMethod yX8_leftAt, Cond.selects RX8 yX8_leftAt yX8_leftAt, Cond.code yX8_leftAt cX8_leftAt 8 (some .int), Cond.methodLink RX8 199 yX8_isBehind, Cond.instanceMethod yX8_isBehind, Cond.selects RX8 yX8_isBehind yX8_isBehind, Cond.code yX8_isBehind cX8_isBehind 11 (some .boolean), Cond.constantLong RX8 191 (6), Cond.constantLong RX8 113 (-1), Cond.methodLink RX8 53 yX8_in, Cond.static yX8_in, Cond.code yX8_in cX8_in 6 (some .boolean), Cond.methodLink RX8 203 yX8_takes, Cond.instanceMethod yX8_takes, Cond.selects RX8 yX8_takes yX8_takes, Cond.code yX8_takes cX8_takes 4 (some .boolean)]
noncomputable def wsX8_goHour : List Cond := .code yX8_goHour cX8_goHour 5 (some .int) :: ((wsX8_goHour_r1 ++ wsX8_goHour_r2) ++ wsX80)
noncomputable def wsX8_hour_r1 : List Cond := [Cond.constant RX8 185 (-1000002), Cond.constant RX8 63 (-1000001), Cond.methodLink RX8 219 yX8_isNoRidge, Cond.instanceMethod yX8_isNoRidge, Cond.selects RX8 yX8_isNoRidge yX8_isNoRidge, Cond.initialized RX8, Cond.code yX8_isNoRidge cX8_isNoRidge 1 (some .boolean), Cond.fieldLink RX8 22 "WindTakenModel" "now" "[I", Cond.methodLink RX8 222 yX8_isWind, Cond.static yX8_isWind, Cond.code yX8_isWind cX8_isWind 2 (some .boolean), Cond.constantLong RX8 213 (100), Cond.methodLink RX8 182 yX8_isQuarter, Cond.static yX8_isQuarter, Cond.code yX8_isQuarter cX8_isQuarter 1 (some .boolean), Cond.constantLong RX8 180 (3), Cond.methodLink RX8 53 yX8_in, Cond.static yX8_in, Cond.code yX8_in cX8_in 6 (some .boolean), Cond.methodLink RX8 225 yX8_goHour, Cond.instanceMethod yX8_goHour, Cond.selects RX8 yX8_goHour yX8_goHour, Cond.code yX8_goHour cX8_goHour 5 (some .int), Cond.fieldLink RX8 40 "WindTakenModel" "ground" "[I"]
noncomputable def wsX8_hour_r2 : List Cond := [Cond.constant RX8 215 (-1000000), Cond.fieldLink RX8 43 "WindTakenModel" "worn" "[I", Cond.methodLink RX8 216 yX8_grinds, Cond.instanceMethod yX8_grinds, Cond.selects RX8 yX8_grinds yX8_grinds, Cond.code yX8_grinds cX8_grinds 7 (some .int), Cond.methodLink RX8 210 yX8_grindsFree, Cond.instanceMethod yX8_grindsFree, Cond.selects RX8 yX8_grindsFree yX8_grindsFree, Cond.code yX8_grindsFree cX8_grindsFree 7 (some .int), Cond.methodLink RX8 196 yX8_turns, Cond.instanceMethod yX8_turns, Cond.selects RX8 yX8_turns yX8_turns, Cond.code yX8_turns cX8_turns 5 (some .boolean), Cond.methodLink RX8 177 yX8_of, Cond.instanceMethod yX8_of, Cond.selects RX8 yX8_of yX8_of, Cond.code yX8_of cX8_of 3 (some .int), Cond.methodLink RX8 193 yX8_has, Cond.static yX8_has, Cond.code yX8_has cX8_has 2 (some .boolean), Cond.methodLink RX8 206 yX8_leftAt, Cond.instanceMethod yX8_leftAt, Cond.selects RX8 yX8_leftAt yX8_leftAt]
noncomputable def wsX8_hour_r3 : List Cond := [Cond.code yX8_leftAt cX8_leftAt 8 (some .int), Cond.methodLink RX8 199 yX8_isBehind, Cond.instanceMethod yX8_isBehind, Cond.selects RX8 yX8_isBehind yX8_isBehind, Cond.code yX8_isBehind cX8_isBehind 11 (some .boolean), Cond.constantLong RX8 191 (6), Cond.constantLong RX8 113 (-1), Cond.methodLink RX8 203 yX8_takes, Cond.instanceMethod yX8_takes, Cond.selects RX8 yX8_takes yX8_takes, Cond.code yX8_takes cX8_takes 4 (some .boolean)]
noncomputable def wsX8_hour : List Cond := .code yX8_hour cX8_hour 3 (some .int) :: ((wsX8_hour_r1 ++ (wsX8_hour_r2 ++ wsX8_hour_r3)) ++ wsX80)
noncomputable def wsX8_hours_r1 : List Cond := [Cond.constant RX8 185 (-1000002), Cond.constantLong RX8 228 (24), Cond.constant RX8 63 (-1000001), Cond.fieldLink RX8 13 "WindTakenModel" "sizes" "[I", Cond.fieldLink RX8 16 "WindTakenModel" "items" "[I", Cond.methodLink RX8 219 yX8_isNoRidge, Cond.instanceMethod yX8_isNoRidge, Cond.selects RX8 yX8_isNoRidge yX8_isNoRidge, Cond.initialized RX8, Cond.code yX8_isNoRidge cX8_isNoRidge 1 (some .boolean), Cond.fieldLink RX8 22 "WindTakenModel" "now" "[I", Cond.methodLink RX8 57 yX8_isRow, Cond.static yX8_isRow, Cond.code yX8_isRow cX8_isRow 1 (some .boolean), Cond.constantLong RX8 51 (7), Cond.methodLink RX8 53 yX8_in, Cond.static yX8_in, Cond.code yX8_in cX8_in 6 (some .boolean), Cond.methodLink RX8 70 yX8_isMissing, Cond.instanceMethod yX8_isMissing, Cond.selects RX8 yX8_isMissing yX8_isMissing, Cond.code yX8_isMissing cX8_isMissing 2 (some .boolean), Cond.fieldLink RX8 7 "WindTakenModel" "lanes" "[I", Cond.methodLink RX8 64 yX8_found]
noncomputable def wsX8_hours_r2 : List Cond := [Cond.instanceMethod yX8_found, Cond.selects RX8 yX8_found yX8_found, Cond.code yX8_found cX8_found 3 (some .int), Cond.fieldLink RX8 46 "WindTakenModel" "status" "I", Cond.constant RX8 50 (-1000010), Cond.methodLink RX8 76 yX8_isWithin, Cond.static yX8_isWithin, Cond.code yX8_isWithin cX8_isWithin 3 (some .boolean), Cond.methodLink RX8 222 yX8_isWind, Cond.static yX8_isWind, Cond.code yX8_isWind cX8_isWind 2 (some .boolean), Cond.constantLong RX8 213 (100), Cond.methodLink RX8 182 yX8_isQuarter, Cond.static yX8_isQuarter, Cond.code yX8_isQuarter cX8_isQuarter 1 (some .boolean), Cond.constantLong RX8 180 (3), Cond.methodLink RX8 225 yX8_goHour, Cond.instanceMethod yX8_goHour, Cond.selects RX8 yX8_goHour yX8_goHour, Cond.code yX8_goHour cX8_goHour 5 (some .int), Cond.fieldLink RX8 40 "WindTakenModel" "ground" "[I", Cond.constant RX8 215 (-1000000), Cond.fieldLink RX8 43 "WindTakenModel" "worn" "[I", Cond.methodLink RX8 216 yX8_grinds]
noncomputable def wsX8_hours_r3 : List Cond := [Cond.instanceMethod yX8_grinds, Cond.selects RX8 yX8_grinds yX8_grinds, Cond.code yX8_grinds cX8_grinds 7 (some .int), Cond.methodLink RX8 210 yX8_grindsFree, Cond.instanceMethod yX8_grindsFree, Cond.selects RX8 yX8_grindsFree yX8_grindsFree, Cond.code yX8_grindsFree cX8_grindsFree 7 (some .int), Cond.methodLink RX8 196 yX8_turns, Cond.instanceMethod yX8_turns, Cond.selects RX8 yX8_turns yX8_turns, Cond.code yX8_turns cX8_turns 5 (some .boolean), Cond.methodLink RX8 177 yX8_of, Cond.instanceMethod yX8_of, Cond.selects RX8 yX8_of yX8_of, Cond.code yX8_of cX8_of 3 (some .int), Cond.methodLink RX8 193 yX8_has, Cond.static yX8_has, Cond.code yX8_has cX8_has 2 (some .boolean), Cond.methodLink RX8 206 yX8_leftAt, Cond.instanceMethod yX8_leftAt, Cond.selects RX8 yX8_leftAt yX8_leftAt, Cond.code yX8_leftAt cX8_leftAt 8 (some .int), Cond.methodLink RX8 199 yX8_isBehind, Cond.instanceMethod yX8_isBehind]
noncomputable def wsX8_hours_r4 : List Cond := [Cond.selects RX8 yX8_isBehind yX8_isBehind, Cond.code yX8_isBehind cX8_isBehind 11 (some .boolean), Cond.constantLong RX8 191 (6), Cond.constantLong RX8 113 (-1), Cond.methodLink RX8 203 yX8_takes, Cond.instanceMethod yX8_takes, Cond.selects RX8 yX8_takes yX8_takes, Cond.code yX8_takes cX8_takes 4 (some .boolean)]
noncomputable def wsX8_hours : List Cond := .code yX8_hours cX8_hours 6 (some .int) :: ((wsX8_hours_r1 ++ (wsX8_hours_r2 ++ (wsX8_hours_r3 ++ wsX8_hours_r4))) ++ wsX80)
noncomputable def wsX8_left_r1 : List Cond := [Cond.constant RX8 63 (-1000001), Cond.constant RX8 215 (-1000000), Cond.fieldLink RX8 22 "WindTakenModel" "now" "[I", Cond.methodLink RX8 174 yX8_isMill, Cond.instanceMethod yX8_isMill, Cond.selects RX8 yX8_isMill yX8_isMill, Cond.initialized RX8, Cond.code yX8_isMill cX8_isMill 2 (some .boolean), Cond.methodLink RX8 53 yX8_in, Cond.static yX8_in, Cond.code yX8_in cX8_in 6 (some .boolean), Cond.methodLink RX8 222 yX8_isWind, Cond.static yX8_isWind, Cond.code yX8_isWind cX8_isWind 2 (some .boolean), Cond.constantLong RX8 213 (100), Cond.methodLink RX8 182 yX8_isQuarter, Cond.static yX8_isQuarter, Cond.code yX8_isQuarter cX8_isQuarter 1 (some .boolean), Cond.constantLong RX8 180 (3), Cond.methodLink RX8 206 yX8_leftAt, Cond.instanceMethod yX8_leftAt, Cond.selects RX8 yX8_leftAt yX8_leftAt, Cond.code yX8_leftAt cX8_leftAt 8 (some .int), Cond.methodLink RX8 199 yX8_isBehind]
noncomputable def wsX8_left_r2 : List Cond := [Cond.instanceMethod yX8_isBehind, Cond.selects RX8 yX8_isBehind yX8_isBehind, Cond.code yX8_isBehind cX8_isBehind 11 (some .boolean), Cond.constantLong RX8 191 (6), Cond.constantLong RX8 113 (-1), Cond.methodLink RX8 177 yX8_of, Cond.instanceMethod yX8_of, Cond.selects RX8 yX8_of yX8_of, Cond.code yX8_of cX8_of 3 (some .int), Cond.methodLink RX8 203 yX8_takes, Cond.instanceMethod yX8_takes, Cond.selects RX8 yX8_takes yX8_takes, Cond.code yX8_takes cX8_takes 4 (some .boolean), Cond.methodLink RX8 196 yX8_turns, Cond.instanceMethod yX8_turns, Cond.selects RX8 yX8_turns yX8_turns, Cond.code yX8_turns cX8_turns 5 (some .boolean), Cond.methodLink RX8 193 yX8_has, Cond.static yX8_has, Cond.code yX8_has cX8_has 2 (some .boolean)]
noncomputable def wsX8_left : List Cond := .code yX8_left cX8_left 7 (some .int) :: ((wsX8_left_r1 ++ wsX8_left_r2) ++ wsX80)
noncomputable def wsX8_madeBy_r1 : List Cond := [Cond.fieldLink RX8 22 "WindTakenModel" "now" "[I", Cond.constant RX8 215 (-1000000), Cond.methodLink RX8 216 yX8_grinds, Cond.instanceMethod yX8_grinds, Cond.selects RX8 yX8_grinds yX8_grinds, Cond.initialized RX8, Cond.code yX8_grinds cX8_grinds 7 (some .int), Cond.methodLink RX8 210 yX8_grindsFree, Cond.instanceMethod yX8_grindsFree, Cond.selects RX8 yX8_grindsFree yX8_grindsFree, Cond.code yX8_grindsFree cX8_grindsFree 7 (some .int), Cond.methodLink RX8 196 yX8_turns, Cond.instanceMethod yX8_turns, Cond.selects RX8 yX8_turns yX8_turns, Cond.code yX8_turns cX8_turns 5 (some .boolean), Cond.methodLink RX8 177 yX8_of, Cond.instanceMethod yX8_of, Cond.selects RX8 yX8_of yX8_of, Cond.code yX8_of cX8_of 3 (some .int), Cond.methodLink RX8 193 yX8_has, Cond.static yX8_has, Cond.code yX8_has cX8_has 2 (some .boolean), Cond.methodLink RX8 206 yX8_leftAt, Cond.instanceMethod yX8_leftAt]
noncomputable def wsX8_madeBy_r2 : List Cond := [Cond.selects RX8 yX8_leftAt yX8_leftAt, Cond.code yX8_leftAt cX8_leftAt 8 (some .int), Cond.methodLink RX8 199 yX8_isBehind, Cond.instanceMethod yX8_isBehind, Cond.selects RX8 yX8_isBehind yX8_isBehind, Cond.code yX8_isBehind cX8_isBehind 11 (some .boolean), Cond.constantLong RX8 191 (6), Cond.constantLong RX8 113 (-1), Cond.methodLink RX8 53 yX8_in, Cond.static yX8_in, Cond.code yX8_in cX8_in 6 (some .boolean), Cond.methodLink RX8 203 yX8_takes, Cond.instanceMethod yX8_takes, Cond.selects RX8 yX8_takes yX8_takes, Cond.code yX8_takes cX8_takes 4 (some .boolean)]
noncomputable def wsX8_madeBy : List Cond := .code yX8_madeBy cX8_madeBy 6 (some .int) :: ((wsX8_madeBy_r1 ++ wsX8_madeBy_r2) ++ wsX80)
noncomputable def wsX8_made_r1 : List Cond := [Cond.constant RX8 185 (-1000002), Cond.constantLong RX8 86 (255), Cond.constant RX8 63 (-1000001), Cond.methodLink RX8 219 yX8_isNoRidge, Cond.instanceMethod yX8_isNoRidge, Cond.selects RX8 yX8_isNoRidge yX8_isNoRidge, Cond.initialized RX8, Cond.code yX8_isNoRidge cX8_isNoRidge 1 (some .boolean), Cond.fieldLink RX8 22 "WindTakenModel" "now" "[I", Cond.methodLink RX8 222 yX8_isWind, Cond.static yX8_isWind, Cond.code yX8_isWind cX8_isWind 2 (some .boolean), Cond.constantLong RX8 213 (100), Cond.methodLink RX8 182 yX8_isQuarter, Cond.static yX8_isQuarter, Cond.code yX8_isQuarter cX8_isQuarter 1 (some .boolean), Cond.constantLong RX8 180 (3), Cond.methodLink RX8 53 yX8_in, Cond.static yX8_in, Cond.code yX8_in cX8_in 6 (some .boolean), Cond.methodLink RX8 230 yX8_madeBy, Cond.instanceMethod yX8_madeBy, Cond.selects RX8 yX8_madeBy yX8_madeBy, Cond.code yX8_madeBy cX8_madeBy 6 (some .int)]
noncomputable def wsX8_made_r2 : List Cond := [Cond.constant RX8 215 (-1000000), Cond.methodLink RX8 216 yX8_grinds, Cond.instanceMethod yX8_grinds, Cond.selects RX8 yX8_grinds yX8_grinds, Cond.code yX8_grinds cX8_grinds 7 (some .int), Cond.methodLink RX8 210 yX8_grindsFree, Cond.instanceMethod yX8_grindsFree, Cond.selects RX8 yX8_grindsFree yX8_grindsFree, Cond.code yX8_grindsFree cX8_grindsFree 7 (some .int), Cond.methodLink RX8 196 yX8_turns, Cond.instanceMethod yX8_turns, Cond.selects RX8 yX8_turns yX8_turns, Cond.code yX8_turns cX8_turns 5 (some .boolean), Cond.methodLink RX8 177 yX8_of, Cond.instanceMethod yX8_of, Cond.selects RX8 yX8_of yX8_of, Cond.code yX8_of cX8_of 3 (some .int), Cond.methodLink RX8 193 yX8_has, Cond.static yX8_has, Cond.code yX8_has cX8_has 2 (some .boolean), Cond.methodLink RX8 206 yX8_leftAt, Cond.instanceMethod yX8_leftAt, Cond.selects RX8 yX8_leftAt yX8_leftAt, Cond.code yX8_leftAt cX8_leftAt 8 (some .int)]
noncomputable def wsX8_made_r3 : List Cond := [Cond.methodLink RX8 199 yX8_isBehind, Cond.instanceMethod yX8_isBehind, Cond.selects RX8 yX8_isBehind yX8_isBehind, Cond.code yX8_isBehind cX8_isBehind 11 (some .boolean), Cond.constantLong RX8 191 (6), Cond.constantLong RX8 113 (-1), Cond.methodLink RX8 203 yX8_takes, Cond.instanceMethod yX8_takes, Cond.selects RX8 yX8_takes yX8_takes, Cond.code yX8_takes cX8_takes 4 (some .boolean)]
noncomputable def wsX8_made : List Cond := .code yX8_made cX8_made 4 (some .int) :: ((wsX8_made_r1 ++ (wsX8_made_r2 ++ wsX8_made_r3)) ++ wsX80)
noncomputable def wsX8_bits : List Cond := .code yX8_bits cX8_bits 3 (some .int) :: ([])
noncomputable def wsX8_bestSet_r1 : List Cond := [Cond.fieldLink RX8 22 "WindTakenModel" "now" "[I", Cond.methodLink RX8 230 yX8_madeBy, Cond.instanceMethod yX8_madeBy, Cond.selects RX8 yX8_madeBy yX8_madeBy, Cond.initialized RX8, Cond.code yX8_madeBy cX8_madeBy 6 (some .int), Cond.constant RX8 215 (-1000000), Cond.methodLink RX8 216 yX8_grinds, Cond.instanceMethod yX8_grinds, Cond.selects RX8 yX8_grinds yX8_grinds, Cond.code yX8_grinds cX8_grinds 7 (some .int), Cond.methodLink RX8 210 yX8_grindsFree, Cond.instanceMethod yX8_grindsFree, Cond.selects RX8 yX8_grindsFree yX8_grindsFree, Cond.code yX8_grindsFree cX8_grindsFree 7 (some .int), Cond.methodLink RX8 196 yX8_turns, Cond.instanceMethod yX8_turns, Cond.selects RX8 yX8_turns yX8_turns, Cond.code yX8_turns cX8_turns 5 (some .boolean), Cond.methodLink RX8 177 yX8_of, Cond.instanceMethod yX8_of, Cond.selects RX8 yX8_of yX8_of, Cond.code yX8_of cX8_of 3 (some .int), Cond.methodLink RX8 193 yX8_has]
noncomputable def wsX8_bestSet_r2 : List Cond := [Cond.static yX8_has, Cond.code yX8_has cX8_has 2 (some .boolean), Cond.methodLink RX8 206 yX8_leftAt, Cond.instanceMethod yX8_leftAt, Cond.selects RX8 yX8_leftAt yX8_leftAt, Cond.code yX8_leftAt cX8_leftAt 8 (some .int), Cond.methodLink RX8 199 yX8_isBehind, Cond.instanceMethod yX8_isBehind, Cond.selects RX8 yX8_isBehind yX8_isBehind, Cond.code yX8_isBehind cX8_isBehind 11 (some .boolean), Cond.constantLong RX8 191 (6), Cond.constantLong RX8 113 (-1), Cond.methodLink RX8 53 yX8_in, Cond.static yX8_in, Cond.code yX8_in cX8_in 6 (some .boolean), Cond.methodLink RX8 203 yX8_takes, Cond.instanceMethod yX8_takes, Cond.selects RX8 yX8_takes yX8_takes, Cond.code yX8_takes cX8_takes 4 (some .boolean), Cond.methodLink RX8 234 yX8_bits, Cond.static yX8_bits, Cond.code yX8_bits cX8_bits 3 (some .int)]
noncomputable def wsX8_bestSet : List Cond := .code yX8_bestSet cX8_bestSet 8 (some .int) :: ((wsX8_bestSet_r1 ++ wsX8_bestSet_r2) ++ wsX80)
noncomputable def wsX8_best_r1 : List Cond := [Cond.constant RX8 185 (-1000002), Cond.constant RX8 63 (-1000001), Cond.methodLink RX8 219 yX8_isNoRidge, Cond.instanceMethod yX8_isNoRidge, Cond.selects RX8 yX8_isNoRidge yX8_isNoRidge, Cond.initialized RX8, Cond.code yX8_isNoRidge cX8_isNoRidge 1 (some .boolean), Cond.fieldLink RX8 22 "WindTakenModel" "now" "[I", Cond.methodLink RX8 222 yX8_isWind, Cond.static yX8_isWind, Cond.code yX8_isWind cX8_isWind 2 (some .boolean), Cond.constantLong RX8 213 (100), Cond.methodLink RX8 182 yX8_isQuarter, Cond.static yX8_isQuarter, Cond.code yX8_isQuarter cX8_isQuarter 1 (some .boolean), Cond.constantLong RX8 180 (3), Cond.methodLink RX8 53 yX8_in, Cond.static yX8_in, Cond.code yX8_in cX8_in 6 (some .boolean), Cond.methodLink RX8 237 yX8_bestSet, Cond.instanceMethod yX8_bestSet, Cond.selects RX8 yX8_bestSet yX8_bestSet, Cond.code yX8_bestSet cX8_bestSet 8 (some .int), Cond.methodLink RX8 230 yX8_madeBy]
noncomputable def wsX8_best_r2 : List Cond := [Cond.instanceMethod yX8_madeBy, Cond.selects RX8 yX8_madeBy yX8_madeBy, Cond.code yX8_madeBy cX8_madeBy 6 (some .int), Cond.constant RX8 215 (-1000000), Cond.methodLink RX8 216 yX8_grinds, Cond.instanceMethod yX8_grinds, Cond.selects RX8 yX8_grinds yX8_grinds, Cond.code yX8_grinds cX8_grinds 7 (some .int), Cond.methodLink RX8 210 yX8_grindsFree, Cond.instanceMethod yX8_grindsFree, Cond.selects RX8 yX8_grindsFree yX8_grindsFree, Cond.code yX8_grindsFree cX8_grindsFree 7 (some .int), Cond.methodLink RX8 196 yX8_turns, Cond.instanceMethod yX8_turns, Cond.selects RX8 yX8_turns yX8_turns, Cond.code yX8_turns cX8_turns 5 (some .boolean), Cond.methodLink RX8 177 yX8_of, Cond.instanceMethod yX8_of, Cond.selects RX8 yX8_of yX8_of, Cond.code yX8_of cX8_of 3 (some .int), Cond.methodLink RX8 193 yX8_has, Cond.static yX8_has, Cond.code yX8_has cX8_has 2 (some .boolean), Cond.methodLink RX8 206 yX8_leftAt]
noncomputable def wsX8_best_r3 : List Cond := [Cond.instanceMethod yX8_leftAt, Cond.selects RX8 yX8_leftAt yX8_leftAt, Cond.code yX8_leftAt cX8_leftAt 8 (some .int), Cond.methodLink RX8 199 yX8_isBehind, Cond.instanceMethod yX8_isBehind, Cond.selects RX8 yX8_isBehind yX8_isBehind, Cond.code yX8_isBehind cX8_isBehind 11 (some .boolean), Cond.constantLong RX8 191 (6), Cond.constantLong RX8 113 (-1), Cond.methodLink RX8 203 yX8_takes, Cond.instanceMethod yX8_takes, Cond.selects RX8 yX8_takes yX8_takes, Cond.code yX8_takes cX8_takes 4 (some .boolean), Cond.methodLink RX8 234 yX8_bits, Cond.static yX8_bits, Cond.code yX8_bits cX8_bits 3 (some .int)]
noncomputable def wsX8_best : List Cond := .code yX8_best cX8_best 5 (some .int) :: ((wsX8_best_r1 ++ (wsX8_best_r2 ++ wsX8_best_r3)) ++ wsX80)
noncomputable def wsX8_loses_r1 : List Cond := [Cond.constant RX8 215 (-1000000), Cond.methodLink RX8 216 yX8_grinds, Cond.instanceMethod yX8_grinds, Cond.selects RX8 yX8_grinds yX8_grinds, Cond.initialized RX8, Cond.code yX8_grinds cX8_grinds 7 (some .int), Cond.methodLink RX8 210 yX8_grindsFree, Cond.instanceMethod yX8_grindsFree, Cond.selects RX8 yX8_grindsFree yX8_grindsFree, Cond.code yX8_grindsFree cX8_grindsFree 7 (some .int), Cond.fieldLink RX8 22 "WindTakenModel" "now" "[I", Cond.methodLink RX8 196 yX8_turns, Cond.instanceMethod yX8_turns, Cond.selects RX8 yX8_turns yX8_turns, Cond.code yX8_turns cX8_turns 5 (some .boolean), Cond.methodLink RX8 177 yX8_of, Cond.instanceMethod yX8_of, Cond.selects RX8 yX8_of yX8_of, Cond.code yX8_of cX8_of 3 (some .int), Cond.methodLink RX8 193 yX8_has, Cond.static yX8_has, Cond.code yX8_has cX8_has 2 (some .boolean), Cond.methodLink RX8 206 yX8_leftAt, Cond.instanceMethod yX8_leftAt]
noncomputable def wsX8_loses_r2 : List Cond := [Cond.selects RX8 yX8_leftAt yX8_leftAt, Cond.code yX8_leftAt cX8_leftAt 8 (some .int), Cond.methodLink RX8 199 yX8_isBehind, Cond.instanceMethod yX8_isBehind, Cond.selects RX8 yX8_isBehind yX8_isBehind, Cond.code yX8_isBehind cX8_isBehind 11 (some .boolean), Cond.constantLong RX8 191 (6), Cond.constantLong RX8 113 (-1), Cond.methodLink RX8 53 yX8_in, Cond.static yX8_in, Cond.code yX8_in cX8_in 6 (some .boolean), Cond.methodLink RX8 203 yX8_takes, Cond.instanceMethod yX8_takes, Cond.selects RX8 yX8_takes yX8_takes, Cond.code yX8_takes cX8_takes 4 (some .boolean)]
noncomputable def wsX8_loses : List Cond := .code yX8_loses cX8_loses 6 (some .int) :: ((wsX8_loses_r1 ++ wsX8_loses_r2) ++ wsX80)
noncomputable def wsX8_part_r1 : List Cond := [Cond.constant RX8 63 (-1000001), Cond.fieldLink RX8 22 "WindTakenModel" "now" "[I", Cond.constant RX8 215 (-1000000), Cond.methodLink RX8 222 yX8_isWind, Cond.static yX8_isWind, Cond.initialized RX8, Cond.code yX8_isWind cX8_isWind 2 (some .boolean), Cond.constantLong RX8 213 (100), Cond.methodLink RX8 182 yX8_isQuarter, Cond.static yX8_isQuarter, Cond.code yX8_isQuarter cX8_isQuarter 1 (some .boolean), Cond.constantLong RX8 180 (3), Cond.methodLink RX8 53 yX8_in, Cond.static yX8_in, Cond.code yX8_in cX8_in 6 (some .boolean), Cond.methodLink RX8 174 yX8_isMill, Cond.instanceMethod yX8_isMill, Cond.selects RX8 yX8_isMill yX8_isMill, Cond.code yX8_isMill cX8_isMill 2 (some .boolean), Cond.methodLink RX8 237 yX8_bestSet, Cond.instanceMethod yX8_bestSet, Cond.selects RX8 yX8_bestSet yX8_bestSet, Cond.code yX8_bestSet cX8_bestSet 8 (some .int), Cond.methodLink RX8 230 yX8_madeBy]
noncomputable def wsX8_part_r2 : List Cond := [Cond.instanceMethod yX8_madeBy, Cond.selects RX8 yX8_madeBy yX8_madeBy, Cond.code yX8_madeBy cX8_madeBy 6 (some .int), Cond.methodLink RX8 216 yX8_grinds, Cond.instanceMethod yX8_grinds, Cond.selects RX8 yX8_grinds yX8_grinds, Cond.code yX8_grinds cX8_grinds 7 (some .int), Cond.methodLink RX8 210 yX8_grindsFree, Cond.instanceMethod yX8_grindsFree, Cond.selects RX8 yX8_grindsFree yX8_grindsFree, Cond.code yX8_grindsFree cX8_grindsFree 7 (some .int), Cond.methodLink RX8 196 yX8_turns, Cond.instanceMethod yX8_turns, Cond.selects RX8 yX8_turns yX8_turns, Cond.code yX8_turns cX8_turns 5 (some .boolean), Cond.methodLink RX8 177 yX8_of, Cond.instanceMethod yX8_of, Cond.selects RX8 yX8_of yX8_of, Cond.code yX8_of cX8_of 3 (some .int), Cond.methodLink RX8 193 yX8_has, Cond.static yX8_has, Cond.code yX8_has cX8_has 2 (some .boolean), Cond.methodLink RX8 206 yX8_leftAt, Cond.instanceMethod yX8_leftAt]
noncomputable def wsX8_part_r3 : List Cond := [Cond.selects RX8 yX8_leftAt yX8_leftAt, Cond.code yX8_leftAt cX8_leftAt 8 (some .int), Cond.methodLink RX8 199 yX8_isBehind, Cond.instanceMethod yX8_isBehind, Cond.selects RX8 yX8_isBehind yX8_isBehind, Cond.code yX8_isBehind cX8_isBehind 11 (some .boolean), Cond.constantLong RX8 191 (6), Cond.constantLong RX8 113 (-1), Cond.methodLink RX8 203 yX8_takes, Cond.instanceMethod yX8_takes, Cond.selects RX8 yX8_takes yX8_takes, Cond.code yX8_takes cX8_takes 4 (some .boolean), Cond.methodLink RX8 234 yX8_bits, Cond.static yX8_bits, Cond.code yX8_bits cX8_bits 3 (some .int), Cond.methodLink RX8 240 yX8_loses, Cond.instanceMethod yX8_loses, Cond.selects RX8 yX8_loses yX8_loses, Cond.code yX8_loses cX8_loses 6 (some .int)]
noncomputable def wsX8_part : List Cond := .code yX8_part cX8_part 7 (some .int) :: ((wsX8_part_r1 ++ (wsX8_part_r2 ++ wsX8_part_r3)) ++ wsX80)
noncomputable def wsX8_still_r1 : List Cond := [Cond.constantLong RX8 61 (2), Cond.constant RX8 63 (-1000001), Cond.constant RX8 215 (-1000000), Cond.fieldLink RX8 22 "WindTakenModel" "now" "[I", Cond.methodLink RX8 222 yX8_isWind, Cond.static yX8_isWind, Cond.initialized RX8, Cond.code yX8_isWind cX8_isWind 2 (some .boolean), Cond.constantLong RX8 213 (100), Cond.methodLink RX8 182 yX8_isQuarter, Cond.static yX8_isQuarter, Cond.code yX8_isQuarter cX8_isQuarter 1 (some .boolean), Cond.constantLong RX8 180 (3), Cond.methodLink RX8 53 yX8_in, Cond.static yX8_in, Cond.code yX8_in cX8_in 6 (some .boolean), Cond.methodLink RX8 174 yX8_isMill, Cond.instanceMethod yX8_isMill, Cond.selects RX8 yX8_isMill yX8_isMill, Cond.code yX8_isMill cX8_isMill 2 (some .boolean), Cond.methodLink RX8 216 yX8_grinds, Cond.instanceMethod yX8_grinds, Cond.selects RX8 yX8_grinds yX8_grinds, Cond.code yX8_grinds cX8_grinds 7 (some .int)]
noncomputable def wsX8_still_r2 : List Cond := [Cond.methodLink RX8 210 yX8_grindsFree, Cond.instanceMethod yX8_grindsFree, Cond.selects RX8 yX8_grindsFree yX8_grindsFree, Cond.code yX8_grindsFree cX8_grindsFree 7 (some .int), Cond.methodLink RX8 196 yX8_turns, Cond.instanceMethod yX8_turns, Cond.selects RX8 yX8_turns yX8_turns, Cond.code yX8_turns cX8_turns 5 (some .boolean), Cond.methodLink RX8 177 yX8_of, Cond.instanceMethod yX8_of, Cond.selects RX8 yX8_of yX8_of, Cond.code yX8_of cX8_of 3 (some .int), Cond.methodLink RX8 193 yX8_has, Cond.static yX8_has, Cond.code yX8_has cX8_has 2 (some .boolean), Cond.methodLink RX8 206 yX8_leftAt, Cond.instanceMethod yX8_leftAt, Cond.selects RX8 yX8_leftAt yX8_leftAt, Cond.code yX8_leftAt cX8_leftAt 8 (some .int), Cond.methodLink RX8 199 yX8_isBehind, Cond.instanceMethod yX8_isBehind, Cond.selects RX8 yX8_isBehind yX8_isBehind, Cond.code yX8_isBehind cX8_isBehind 11 (some .boolean), Cond.constantLong RX8 191 (6)]
noncomputable def wsX8_still_r3 : List Cond := [Cond.constantLong RX8 113 (-1), Cond.methodLink RX8 203 yX8_takes, Cond.instanceMethod yX8_takes, Cond.selects RX8 yX8_takes yX8_takes, Cond.code yX8_takes cX8_takes 4 (some .boolean)]
noncomputable def wsX8_still : List Cond := .code yX8_still cX8_still 8 (some .int) :: ((wsX8_still_r1 ++ (wsX8_still_r2 ++ wsX8_still_r3)) ++ wsX80)
noncomputable def wsX8_othersBy_r1 : List Cond := [Cond.fieldLink RX8 22 "WindTakenModel" "now" "[I", Cond.methodLink RX8 216 yX8_grinds, Cond.instanceMethod yX8_grinds, Cond.selects RX8 yX8_grinds yX8_grinds, Cond.initialized RX8, Cond.code yX8_grinds cX8_grinds 7 (some .int), Cond.methodLink RX8 210 yX8_grindsFree, Cond.instanceMethod yX8_grindsFree, Cond.selects RX8 yX8_grindsFree yX8_grindsFree, Cond.code yX8_grindsFree cX8_grindsFree 7 (some .int), Cond.methodLink RX8 196 yX8_turns, Cond.instanceMethod yX8_turns, Cond.selects RX8 yX8_turns yX8_turns, Cond.code yX8_turns cX8_turns 5 (some .boolean), Cond.methodLink RX8 177 yX8_of, Cond.instanceMethod yX8_of, Cond.selects RX8 yX8_of yX8_of, Cond.code yX8_of cX8_of 3 (some .int), Cond.methodLink RX8 193 yX8_has, Cond.static yX8_has, Cond.code yX8_has cX8_has 2 (some .boolean), Cond.methodLink RX8 206 yX8_leftAt, Cond.instanceMethod yX8_leftAt, Cond.selects RX8 yX8_leftAt yX8_leftAt]
noncomputable def wsX8_othersBy_r2 : List Cond := [Cond.code yX8_leftAt cX8_leftAt 8 (some .int), Cond.methodLink RX8 199 yX8_isBehind, Cond.instanceMethod yX8_isBehind, Cond.selects RX8 yX8_isBehind yX8_isBehind, Cond.code yX8_isBehind cX8_isBehind 11 (some .boolean), Cond.constantLong RX8 191 (6), Cond.constantLong RX8 113 (-1), Cond.methodLink RX8 53 yX8_in, Cond.static yX8_in, Cond.code yX8_in cX8_in 6 (some .boolean), Cond.methodLink RX8 203 yX8_takes, Cond.instanceMethod yX8_takes, Cond.selects RX8 yX8_takes yX8_takes, Cond.code yX8_takes cX8_takes 4 (some .boolean)]
noncomputable def wsX8_othersBy : List Cond := .code yX8_othersBy cX8_othersBy 8 (some .int) :: ((wsX8_othersBy_r1 ++ wsX8_othersBy_r2) ++ wsX80)
noncomputable def wsX8_higher_r1 : List Cond := [Cond.constantLong RX8 61 (2), Cond.constant RX8 63 (-1000001), Cond.constant RX8 215 (-1000000), Cond.methodLink RX8 222 yX8_isWind, Cond.static yX8_isWind, Cond.initialized RX8, Cond.code yX8_isWind cX8_isWind 2 (some .boolean), Cond.constantLong RX8 213 (100), Cond.methodLink RX8 182 yX8_isQuarter, Cond.static yX8_isQuarter, Cond.code yX8_isQuarter cX8_isQuarter 1 (some .boolean), Cond.constantLong RX8 180 (3), Cond.methodLink RX8 53 yX8_in, Cond.static yX8_in, Cond.code yX8_in cX8_in 6 (some .boolean), Cond.methodLink RX8 174 yX8_isMill, Cond.instanceMethod yX8_isMill, Cond.selects RX8 yX8_isMill yX8_isMill, Cond.code yX8_isMill cX8_isMill 2 (some .boolean), Cond.fieldLink RX8 22 "WindTakenModel" "now" "[I", Cond.methodLink RX8 177 yX8_of, Cond.instanceMethod yX8_of, Cond.selects RX8 yX8_of yX8_of, Cond.code yX8_of cX8_of 3 (some .int)]
noncomputable def wsX8_higher_r2 : List Cond := [Cond.methodLink RX8 244 yX8_othersBy, Cond.instanceMethod yX8_othersBy, Cond.selects RX8 yX8_othersBy yX8_othersBy, Cond.code yX8_othersBy cX8_othersBy 8 (some .int), Cond.methodLink RX8 216 yX8_grinds, Cond.instanceMethod yX8_grinds, Cond.selects RX8 yX8_grinds yX8_grinds, Cond.code yX8_grinds cX8_grinds 7 (some .int), Cond.methodLink RX8 210 yX8_grindsFree, Cond.instanceMethod yX8_grindsFree, Cond.selects RX8 yX8_grindsFree yX8_grindsFree, Cond.code yX8_grindsFree cX8_grindsFree 7 (some .int), Cond.methodLink RX8 196 yX8_turns, Cond.instanceMethod yX8_turns, Cond.selects RX8 yX8_turns yX8_turns, Cond.code yX8_turns cX8_turns 5 (some .boolean), Cond.methodLink RX8 193 yX8_has, Cond.static yX8_has, Cond.code yX8_has cX8_has 2 (some .boolean), Cond.methodLink RX8 206 yX8_leftAt, Cond.instanceMethod yX8_leftAt, Cond.selects RX8 yX8_leftAt yX8_leftAt, Cond.code yX8_leftAt cX8_leftAt 8 (some .int), Cond.methodLink RX8 199 yX8_isBehind]
noncomputable def wsX8_higher_r3 : List Cond := [Cond.instanceMethod yX8_isBehind, Cond.selects RX8 yX8_isBehind yX8_isBehind, Cond.code yX8_isBehind cX8_isBehind 11 (some .boolean), Cond.constantLong RX8 191 (6), Cond.constantLong RX8 113 (-1), Cond.methodLink RX8 203 yX8_takes, Cond.instanceMethod yX8_takes, Cond.selects RX8 yX8_takes yX8_takes, Cond.code yX8_takes cX8_takes 4 (some .boolean)]
noncomputable def wsX8_higher : List Cond := .code yX8_higher cX8_higher 7 (some .int) :: ((wsX8_higher_r1 ++ (wsX8_higher_r2 ++ wsX8_higher_r3)) ++ wsX80)
noncomputable def wsX8_owes_r1 : List Cond := [Cond.constant RX8 63 (-1000001), Cond.constant RX8 215 (-1000000), Cond.fieldLink RX8 22 "WindTakenModel" "now" "[I", Cond.methodLink RX8 222 yX8_isWind, Cond.static yX8_isWind, Cond.initialized RX8, Cond.code yX8_isWind cX8_isWind 2 (some .boolean), Cond.constantLong RX8 213 (100), Cond.methodLink RX8 182 yX8_isQuarter, Cond.static yX8_isQuarter, Cond.code yX8_isQuarter cX8_isQuarter 1 (some .boolean), Cond.constantLong RX8 180 (3), Cond.methodLink RX8 53 yX8_in, Cond.static yX8_in, Cond.code yX8_in cX8_in 6 (some .boolean), Cond.methodLink RX8 174 yX8_isMill, Cond.instanceMethod yX8_isMill, Cond.selects RX8 yX8_isMill yX8_isMill, Cond.code yX8_isMill cX8_isMill 2 (some .boolean), Cond.methodLink RX8 203 yX8_takes, Cond.instanceMethod yX8_takes, Cond.selects RX8 yX8_takes yX8_takes, Cond.code yX8_takes cX8_takes 4 (some .boolean), Cond.methodLink RX8 196 yX8_turns]
noncomputable def wsX8_owes_r2 : List Cond := [Cond.instanceMethod yX8_turns, Cond.selects RX8 yX8_turns yX8_turns, Cond.code yX8_turns cX8_turns 5 (some .boolean), Cond.methodLink RX8 177 yX8_of, Cond.instanceMethod yX8_of, Cond.selects RX8 yX8_of yX8_of, Cond.code yX8_of cX8_of 3 (some .int), Cond.methodLink RX8 193 yX8_has, Cond.static yX8_has, Cond.code yX8_has cX8_has 2 (some .boolean), Cond.methodLink RX8 199 yX8_isBehind, Cond.instanceMethod yX8_isBehind, Cond.selects RX8 yX8_isBehind yX8_isBehind, Cond.code yX8_isBehind cX8_isBehind 11 (some .boolean), Cond.constantLong RX8 191 (6), Cond.constantLong RX8 113 (-1), Cond.methodLink RX8 216 yX8_grinds, Cond.instanceMethod yX8_grinds, Cond.selects RX8 yX8_grinds yX8_grinds, Cond.code yX8_grinds cX8_grinds 7 (some .int), Cond.methodLink RX8 210 yX8_grindsFree, Cond.instanceMethod yX8_grindsFree, Cond.selects RX8 yX8_grindsFree yX8_grindsFree, Cond.code yX8_grindsFree cX8_grindsFree 7 (some .int)]
noncomputable def wsX8_owes_r3 : List Cond := [Cond.methodLink RX8 206 yX8_leftAt, Cond.instanceMethod yX8_leftAt, Cond.selects RX8 yX8_leftAt yX8_leftAt, Cond.code yX8_leftAt cX8_leftAt 8 (some .int)]
noncomputable def wsX8_owes : List Cond := .code yX8_owes cX8_owes 6 (some .int) :: ((wsX8_owes_r1 ++ (wsX8_owes_r2 ++ wsX8_owes_r3)) ++ wsX80)
noncomputable def wsX8_isNight_r1 : List Cond := [Cond.fieldLink RX8 22 "WindTakenModel" "now" "[I", Cond.constant RX8 215 (-1000000), Cond.fieldLink RX8 16 "WindTakenModel" "items" "[I", Cond.methodLink RX8 210 yX8_grindsFree, Cond.instanceMethod yX8_grindsFree, Cond.selects RX8 yX8_grindsFree yX8_grindsFree, Cond.initialized RX8, Cond.code yX8_grindsFree cX8_grindsFree 7 (some .int), Cond.methodLink RX8 196 yX8_turns, Cond.instanceMethod yX8_turns, Cond.selects RX8 yX8_turns yX8_turns, Cond.code yX8_turns cX8_turns 5 (some .boolean), Cond.methodLink RX8 177 yX8_of, Cond.instanceMethod yX8_of, Cond.selects RX8 yX8_of yX8_of, Cond.code yX8_of cX8_of 3 (some .int), Cond.methodLink RX8 193 yX8_has, Cond.static yX8_has, Cond.code yX8_has cX8_has 2 (some .boolean), Cond.methodLink RX8 206 yX8_leftAt, Cond.instanceMethod yX8_leftAt, Cond.selects RX8 yX8_leftAt yX8_leftAt, Cond.code yX8_leftAt cX8_leftAt 8 (some .int), Cond.methodLink RX8 199 yX8_isBehind]
noncomputable def wsX8_isNight_r2 : List Cond := [Cond.instanceMethod yX8_isBehind, Cond.selects RX8 yX8_isBehind yX8_isBehind, Cond.code yX8_isBehind cX8_isBehind 11 (some .boolean), Cond.constantLong RX8 191 (6), Cond.constantLong RX8 113 (-1), Cond.methodLink RX8 53 yX8_in, Cond.static yX8_in, Cond.code yX8_in cX8_in 6 (some .boolean), Cond.methodLink RX8 203 yX8_takes, Cond.instanceMethod yX8_takes, Cond.selects RX8 yX8_takes yX8_takes, Cond.code yX8_takes cX8_takes 4 (some .boolean)]
noncomputable def wsX8_isNight : List Cond := .code yX8_isNight cX8_isNight 9 (some .boolean) :: ((wsX8_isNight_r1 ++ wsX8_isNight_r2) ++ wsX80)
noncomputable def wsX8_night_r1 : List Cond := [Cond.constant RX8 185 (-1000002), Cond.constantLong RX8 228 (24), Cond.constant RX8 63 (-1000001), Cond.fieldLink RX8 13 "WindTakenModel" "sizes" "[I", Cond.fieldLink RX8 22 "WindTakenModel" "now" "[I", Cond.constant RX8 215 (-1000000), Cond.methodLink RX8 219 yX8_isNoRidge, Cond.instanceMethod yX8_isNoRidge, Cond.selects RX8 yX8_isNoRidge yX8_isNoRidge, Cond.initialized RX8, Cond.code yX8_isNoRidge cX8_isNoRidge 1 (some .boolean), Cond.methodLink RX8 222 yX8_isWind, Cond.static yX8_isWind, Cond.code yX8_isWind cX8_isWind 2 (some .boolean), Cond.constantLong RX8 213 (100), Cond.methodLink RX8 182 yX8_isQuarter, Cond.static yX8_isQuarter, Cond.code yX8_isQuarter cX8_isQuarter 1 (some .boolean), Cond.constantLong RX8 180 (3), Cond.methodLink RX8 53 yX8_in, Cond.static yX8_in, Cond.code yX8_in cX8_in 6 (some .boolean), Cond.methodLink RX8 57 yX8_isRow, Cond.static yX8_isRow]
noncomputable def wsX8_night_r2 : List Cond := [Cond.code yX8_isRow cX8_isRow 1 (some .boolean), Cond.constantLong RX8 51 (7), Cond.methodLink RX8 70 yX8_isMissing, Cond.instanceMethod yX8_isMissing, Cond.selects RX8 yX8_isMissing yX8_isMissing, Cond.code yX8_isMissing cX8_isMissing 2 (some .boolean), Cond.fieldLink RX8 7 "WindTakenModel" "lanes" "[I", Cond.methodLink RX8 64 yX8_found, Cond.instanceMethod yX8_found, Cond.selects RX8 yX8_found yX8_found, Cond.code yX8_found cX8_found 3 (some .int), Cond.fieldLink RX8 46 "WindTakenModel" "status" "I", Cond.constant RX8 50 (-1000010), Cond.methodLink RX8 193 yX8_has, Cond.static yX8_has, Cond.code yX8_has cX8_has 2 (some .boolean), Cond.methodLink RX8 177 yX8_of, Cond.instanceMethod yX8_of, Cond.selects RX8 yX8_of yX8_of, Cond.code yX8_of cX8_of 3 (some .int), Cond.methodLink RX8 247 yX8_isNight, Cond.instanceMethod yX8_isNight, Cond.selects RX8 yX8_isNight yX8_isNight, Cond.code yX8_isNight cX8_isNight 9 (some .boolean)]
noncomputable def wsX8_night_r3 : List Cond := [Cond.fieldLink RX8 16 "WindTakenModel" "items" "[I", Cond.methodLink RX8 210 yX8_grindsFree, Cond.instanceMethod yX8_grindsFree, Cond.selects RX8 yX8_grindsFree yX8_grindsFree, Cond.code yX8_grindsFree cX8_grindsFree 7 (some .int), Cond.methodLink RX8 196 yX8_turns, Cond.instanceMethod yX8_turns, Cond.selects RX8 yX8_turns yX8_turns, Cond.code yX8_turns cX8_turns 5 (some .boolean), Cond.methodLink RX8 206 yX8_leftAt, Cond.instanceMethod yX8_leftAt, Cond.selects RX8 yX8_leftAt yX8_leftAt, Cond.code yX8_leftAt cX8_leftAt 8 (some .int), Cond.methodLink RX8 199 yX8_isBehind, Cond.instanceMethod yX8_isBehind, Cond.selects RX8 yX8_isBehind yX8_isBehind, Cond.code yX8_isBehind cX8_isBehind 11 (some .boolean), Cond.constantLong RX8 191 (6), Cond.constantLong RX8 113 (-1), Cond.methodLink RX8 203 yX8_takes, Cond.instanceMethod yX8_takes, Cond.selects RX8 yX8_takes yX8_takes, Cond.code yX8_takes cX8_takes 4 (some .boolean)]
noncomputable def wsX8_night : List Cond := .code yX8_night cX8_night 11 (some .int) :: ((wsX8_night_r1 ++ (wsX8_night_r2 ++ wsX8_night_r3)) ++ wsX80)
noncomputable def wsX8_years_r1 : List Cond := [Cond.constant RX8 185 (-1000002), Cond.constantLong RX8 251 (1000), Cond.constantLong RX8 253 (999999), Cond.constant RX8 63 (-1000001), Cond.constantLong RX8 255 (16807), Cond.constantLong RX8 257 (2147483647), Cond.constantLong RX8 259 (4), Cond.constantLong RX8 261 (101), Cond.fieldLink RX8 22 "WindTakenModel" "now" "[I", Cond.constant RX8 215 (-1000000), Cond.methodLink RX8 219 yX8_isNoRidge, Cond.instanceMethod yX8_isNoRidge, Cond.selects RX8 yX8_isNoRidge yX8_isNoRidge, Cond.initialized RX8, Cond.code yX8_isNoRidge cX8_isNoRidge 1 (some .boolean), Cond.methodLink RX8 53 yX8_in, Cond.static yX8_in, Cond.code yX8_in cX8_in 6 (some .boolean), Cond.methodLink RX8 174 yX8_isMill, Cond.instanceMethod yX8_isMill, Cond.selects RX8 yX8_isMill yX8_isMill, Cond.code yX8_isMill cX8_isMill 2 (some .boolean), Cond.methodLink RX8 210 yX8_grindsFree, Cond.instanceMethod yX8_grindsFree]
noncomputable def wsX8_years_r2 : List Cond := [Cond.selects RX8 yX8_grindsFree yX8_grindsFree, Cond.code yX8_grindsFree cX8_grindsFree 7 (some .int), Cond.methodLink RX8 196 yX8_turns, Cond.instanceMethod yX8_turns, Cond.selects RX8 yX8_turns yX8_turns, Cond.code yX8_turns cX8_turns 5 (some .boolean), Cond.methodLink RX8 177 yX8_of, Cond.instanceMethod yX8_of, Cond.selects RX8 yX8_of yX8_of, Cond.code yX8_of cX8_of 3 (some .int), Cond.methodLink RX8 193 yX8_has, Cond.static yX8_has, Cond.code yX8_has cX8_has 2 (some .boolean), Cond.methodLink RX8 206 yX8_leftAt, Cond.instanceMethod yX8_leftAt, Cond.selects RX8 yX8_leftAt yX8_leftAt, Cond.code yX8_leftAt cX8_leftAt 8 (some .int), Cond.methodLink RX8 199 yX8_isBehind, Cond.instanceMethod yX8_isBehind, Cond.selects RX8 yX8_isBehind yX8_isBehind, Cond.code yX8_isBehind cX8_isBehind 11 (some .boolean), Cond.constantLong RX8 191 (6), Cond.constantLong RX8 113 (-1), Cond.methodLink RX8 203 yX8_takes]
noncomputable def wsX8_years_r3 : List Cond := [Cond.instanceMethod yX8_takes, Cond.selects RX8 yX8_takes yX8_takes, Cond.code yX8_takes cX8_takes 4 (some .boolean)]
noncomputable def wsX8_years : List Cond := .code yX8_years cX8_years 11 (some .int) :: ((wsX8_years_r1 ++ (wsX8_years_r2 ++ wsX8_years_r3)) ++ wsX80)
noncomputable def wsX8_image : List Cond := .code yX8_image cX8_image 2 (some .int) :: ([.constant RX8 63 (-1000001), .constant RX8 185 (-1000002), .fieldLink RX8 22 "WindTakenModel" "now" "[I", .fieldLink RX8 25 "WindTakenModel" "image0" "[I", .fieldLink RX8 28 "WindTakenModel" "image1" "[I", .methodLink RX8 53 yX8_in, .static yX8_in, .initialized RX8, .code yX8_in cX8_in 6 (some .boolean), .methodLink RX8 219 yX8_isNoRidge, .instanceMethod yX8_isNoRidge, .selects RX8 yX8_isNoRidge yX8_isNoRidge, .code yX8_isNoRidge cX8_isNoRidge 1 (some .boolean), .methodLink RX8 170 yX8_copyRow, .static yX8_copyRow, .code yX8_copyRow cX8_copyRow 3 none] ++ wsX80)
noncomputable def wsX8_restore : List Cond := .code yX8_restore cX8_restore 2 (some .int) :: ([.constant RX8 63 (-1000001), .fieldLink RX8 25 "WindTakenModel" "image0" "[I", .fieldLink RX8 28 "WindTakenModel" "image1" "[I", .constant RX8 185 (-1000002), .fieldLink RX8 22 "WindTakenModel" "now" "[I", .methodLink RX8 53 yX8_in, .static yX8_in, .initialized RX8, .code yX8_in cX8_in 6 (some .boolean), .methodLink RX8 170 yX8_copyRow, .static yX8_copyRow, .code yX8_copyRow cX8_copyRow 3 none] ++ wsX80)
noncomputable def wsX8_kind : List Cond := .code yX8_kind cX8_kind 2 (some .int) :: ([.fieldLink RX8 22 "WindTakenModel" "now" "[I", .constant RX8 63 (-1000001), .methodLink RX8 174 yX8_isMill, .instanceMethod yX8_isMill, .selects RX8 yX8_isMill yX8_isMill, .initialized RX8, .code yX8_isMill cX8_isMill 2 (some .boolean), .methodLink RX8 53 yX8_in, .static yX8_in, .code yX8_in cX8_in 6 (some .boolean)] ++ wsX80)
noncomputable def wsX8_isKind : List Cond := .code yX8_isKind cX8_isKind 2 (some .boolean) :: ([])
noncomputable def wsX8_as : List Cond := .code yX8_as cX8_as 3 (some .int) :: ([.constantLong RX8 263 (5), .constant RX8 63 (-1000001), .fieldLink RX8 22 "WindTakenModel" "now" "[I", .methodLink RX8 174 yX8_isMill, .instanceMethod yX8_isMill, .selects RX8 yX8_isMill yX8_isMill, .initialized RX8, .code yX8_isMill cX8_isMill 2 (some .boolean), .methodLink RX8 53 yX8_in, .static yX8_in, .code yX8_in cX8_in 6 (some .boolean), .methodLink RX8 265 yX8_isKind, .static yX8_isKind, .code yX8_isKind cX8_isKind 2 (some .boolean), .methodLink RX8 64 yX8_found, .instanceMethod yX8_found, .selects RX8 yX8_found yX8_found, .code yX8_found cX8_found 3 (some .int), .fieldLink RX8 46 "WindTakenModel" "status" "I", .constant RX8 50 (-1000010)] ++ wsX80)
noncomputable def wsX8_leave : List Cond := .code yX8_leave cX8_leave 2 none :: ([.fieldLink RX8 268 "WindTakenModel" "traced" "I", .fieldLink RX8 34 "WindTakenModel" "trace" "[I"] ++ wsX80)
noncomputable def wsX8_markOfFixed : List Cond := .code yX8_markOfFixed cX8_markOfFixed 2 (some .int) :: ([.methodLink RX8 271 yX8_leave, .instanceMethod yX8_leave, .selects RX8 yX8_leave yX8_leave, .initialized RX8, .code yX8_leave cX8_leave 2 none, .fieldLink RX8 268 "WindTakenModel" "traced" "I", .fieldLink RX8 34 "WindTakenModel" "trace" "[I", .methodLink RX8 177 yX8_of, .instanceMethod yX8_of, .selects RX8 yX8_of yX8_of, .code yX8_of cX8_of 3 (some .int), .fieldLink RX8 22 "WindTakenModel" "now" "[I"] ++ wsX80)
noncomputable def wsX8_markOfHooded : List Cond := .code yX8_markOfHooded cX8_markOfHooded 2 (some .int) :: ([.methodLink RX8 271 yX8_leave, .instanceMethod yX8_leave, .selects RX8 yX8_leave yX8_leave, .initialized RX8, .code yX8_leave cX8_leave 2 none, .fieldLink RX8 268 "WindTakenModel" "traced" "I", .fieldLink RX8 34 "WindTakenModel" "trace" "[I", .methodLink RX8 275 yX8_markOfFixed, .instanceMethod yX8_markOfFixed, .selects RX8 yX8_markOfFixed yX8_markOfFixed, .code yX8_markOfFixed cX8_markOfFixed 2 (some .int), .methodLink RX8 177 yX8_of, .instanceMethod yX8_of, .selects RX8 yX8_of yX8_of, .code yX8_of cX8_of 3 (some .int), .fieldLink RX8 22 "WindTakenModel" "now" "[I"] ++ wsX80)
noncomputable def wsX8_sizeOfMill : List Cond := .code yX8_sizeOfMill cX8_sizeOfMill 2 (some .int) :: ([.methodLink RX8 271 yX8_leave, .instanceMethod yX8_leave, .selects RX8 yX8_leave yX8_leave, .initialized RX8, .code yX8_leave cX8_leave 2 none, .fieldLink RX8 268 "WindTakenModel" "traced" "I", .fieldLink RX8 34 "WindTakenModel" "trace" "[I", .methodLink RX8 177 yX8_of, .instanceMethod yX8_of, .selects RX8 yX8_of yX8_of, .code yX8_of cX8_of 3 (some .int), .fieldLink RX8 22 "WindTakenModel" "now" "[I"] ++ wsX80)
noncomputable def wsX8_sizeOfWater : List Cond := .code yX8_sizeOfWater cX8_sizeOfWater 2 (some .int) :: ([.methodLink RX8 271 yX8_leave, .instanceMethod yX8_leave, .selects RX8 yX8_leave yX8_leave, .initialized RX8, .code yX8_leave cX8_leave 2 none, .fieldLink RX8 268 "WindTakenModel" "traced" "I", .fieldLink RX8 34 "WindTakenModel" "trace" "[I", .methodLink RX8 278 yX8_sizeOfMill, .instanceMethod yX8_sizeOfMill, .selects RX8 yX8_sizeOfMill yX8_sizeOfMill, .code yX8_sizeOfMill cX8_sizeOfMill 2 (some .int), .methodLink RX8 177 yX8_of, .instanceMethod yX8_of, .selects RX8 yX8_of yX8_of, .code yX8_of cX8_of 3 (some .int), .fieldLink RX8 22 "WindTakenModel" "now" "[I"] ++ wsX80)
noncomputable def wsX8_mark_r1 : List Cond := [Cond.fieldLink RX8 22 "WindTakenModel" "now" "[I", Cond.methodLink RX8 281 yX8_markOfHooded, Cond.instanceMethod yX8_markOfHooded, Cond.selects RX8 yX8_markOfHooded yX8_markOfHooded, Cond.initialized RX8, Cond.code yX8_markOfHooded cX8_markOfHooded 2 (some .int), Cond.methodLink RX8 271 yX8_leave, Cond.instanceMethod yX8_leave, Cond.selects RX8 yX8_leave yX8_leave, Cond.code yX8_leave cX8_leave 2 none, Cond.fieldLink RX8 268 "WindTakenModel" "traced" "I", Cond.fieldLink RX8 34 "WindTakenModel" "trace" "[I", Cond.methodLink RX8 275 yX8_markOfFixed, Cond.instanceMethod yX8_markOfFixed, Cond.selects RX8 yX8_markOfFixed yX8_markOfFixed, Cond.code yX8_markOfFixed cX8_markOfFixed 2 (some .int), Cond.methodLink RX8 177 yX8_of, Cond.instanceMethod yX8_of, Cond.selects RX8 yX8_of yX8_of, Cond.code yX8_of cX8_of 3 (some .int), Cond.methodLink RX8 284 yX8_sizeOfWater, Cond.instanceMethod yX8_sizeOfWater, Cond.selects RX8 yX8_sizeOfWater yX8_sizeOfWater, Cond.code yX8_sizeOfWater cX8_sizeOfWater 2 (some .int)]
noncomputable def wsX8_mark_r2 : List Cond := [Cond.methodLink RX8 278 yX8_sizeOfMill, Cond.instanceMethod yX8_sizeOfMill, Cond.selects RX8 yX8_sizeOfMill yX8_sizeOfMill, Cond.code yX8_sizeOfMill cX8_sizeOfMill 2 (some .int)]
noncomputable def wsX8_mark : List Cond := .code yX8_mark cX8_mark 2 (some .int) :: ((wsX8_mark_r1 ++ wsX8_mark_r2) ++ wsX80)
noncomputable def wsX8_sizeOfFixed_r1 : List Cond := [Cond.methodLink RX8 271 yX8_leave, Cond.instanceMethod yX8_leave, Cond.selects RX8 yX8_leave yX8_leave, Cond.initialized RX8, Cond.code yX8_leave cX8_leave 2 none, Cond.fieldLink RX8 268 "WindTakenModel" "traced" "I", Cond.fieldLink RX8 34 "WindTakenModel" "trace" "[I", Cond.methodLink RX8 278 yX8_sizeOfMill, Cond.instanceMethod yX8_sizeOfMill, Cond.selects RX8 yX8_sizeOfMill yX8_sizeOfMill, Cond.code yX8_sizeOfMill cX8_sizeOfMill 2 (some .int), Cond.methodLink RX8 177 yX8_of, Cond.instanceMethod yX8_of, Cond.selects RX8 yX8_of yX8_of, Cond.code yX8_of cX8_of 3 (some .int), Cond.fieldLink RX8 22 "WindTakenModel" "now" "[I", Cond.methodLink RX8 287 yX8_mark, Cond.instanceMethod yX8_mark, Cond.selects RX8 yX8_mark yX8_mark, Cond.code yX8_mark cX8_mark 2 (some .int), Cond.methodLink RX8 281 yX8_markOfHooded, Cond.instanceMethod yX8_markOfHooded, Cond.selects RX8 yX8_markOfHooded yX8_markOfHooded, Cond.code yX8_markOfHooded cX8_markOfHooded 2 (some .int)]
noncomputable def wsX8_sizeOfFixed_r2 : List Cond := [Cond.methodLink RX8 275 yX8_markOfFixed, Cond.instanceMethod yX8_markOfFixed, Cond.selects RX8 yX8_markOfFixed yX8_markOfFixed, Cond.code yX8_markOfFixed cX8_markOfFixed 2 (some .int), Cond.methodLink RX8 284 yX8_sizeOfWater, Cond.instanceMethod yX8_sizeOfWater, Cond.selects RX8 yX8_sizeOfWater yX8_sizeOfWater, Cond.code yX8_sizeOfWater cX8_sizeOfWater 2 (some .int)]
noncomputable def wsX8_sizeOfFixed : List Cond := .code yX8_sizeOfFixed cX8_sizeOfFixed 2 (some .int) :: ((wsX8_sizeOfFixed_r1 ++ wsX8_sizeOfFixed_r2) ++ wsX80)
noncomputable def wsX8_size_r1 : List Cond := [Cond.fieldLink RX8 22 "WindTakenModel" "now" "[I", Cond.methodLink RX8 271 yX8_leave, Cond.instanceMethod yX8_leave, Cond.selects RX8 yX8_leave yX8_leave, Cond.initialized RX8, Cond.code yX8_leave cX8_leave 2 none, Cond.fieldLink RX8 268 "WindTakenModel" "traced" "I", Cond.fieldLink RX8 34 "WindTakenModel" "trace" "[I", Cond.methodLink RX8 290 yX8_sizeOfFixed, Cond.instanceMethod yX8_sizeOfFixed, Cond.selects RX8 yX8_sizeOfFixed yX8_sizeOfFixed, Cond.code yX8_sizeOfFixed cX8_sizeOfFixed 2 (some .int), Cond.methodLink RX8 278 yX8_sizeOfMill, Cond.instanceMethod yX8_sizeOfMill, Cond.selects RX8 yX8_sizeOfMill yX8_sizeOfMill, Cond.code yX8_sizeOfMill cX8_sizeOfMill 2 (some .int), Cond.methodLink RX8 177 yX8_of, Cond.instanceMethod yX8_of, Cond.selects RX8 yX8_of yX8_of, Cond.code yX8_of cX8_of 3 (some .int), Cond.methodLink RX8 287 yX8_mark, Cond.instanceMethod yX8_mark, Cond.selects RX8 yX8_mark yX8_mark, Cond.code yX8_mark cX8_mark 2 (some .int)]
noncomputable def wsX8_size_r2 : List Cond := [Cond.methodLink RX8 281 yX8_markOfHooded, Cond.instanceMethod yX8_markOfHooded, Cond.selects RX8 yX8_markOfHooded yX8_markOfHooded, Cond.code yX8_markOfHooded cX8_markOfHooded 2 (some .int), Cond.methodLink RX8 275 yX8_markOfFixed, Cond.instanceMethod yX8_markOfFixed, Cond.selects RX8 yX8_markOfFixed yX8_markOfFixed, Cond.code yX8_markOfFixed cX8_markOfFixed 2 (some .int), Cond.methodLink RX8 284 yX8_sizeOfWater, Cond.instanceMethod yX8_sizeOfWater, Cond.selects RX8 yX8_sizeOfWater yX8_sizeOfWater, Cond.code yX8_sizeOfWater cX8_sizeOfWater 2 (some .int)]
noncomputable def wsX8_size : List Cond := .code yX8_size cX8_size 2 (some .int) :: ((wsX8_size_r1 ++ wsX8_size_r2) ++ wsX80)
noncomputable def wsX8_ask_r1 : List Cond := [Cond.constant RX8 63 (-1000001), Cond.fieldLink RX8 268 "WindTakenModel" "traced" "I", Cond.methodLink RX8 174 yX8_isMill, Cond.instanceMethod yX8_isMill, Cond.selects RX8 yX8_isMill yX8_isMill, Cond.initialized RX8, Cond.code yX8_isMill cX8_isMill 2 (some .boolean), Cond.fieldLink RX8 22 "WindTakenModel" "now" "[I", Cond.methodLink RX8 53 yX8_in, Cond.static yX8_in, Cond.code yX8_in cX8_in 6 (some .boolean), Cond.methodLink RX8 293 yX8_size, Cond.instanceMethod yX8_size, Cond.selects RX8 yX8_size yX8_size, Cond.code yX8_size cX8_size 2 (some .int), Cond.methodLink RX8 271 yX8_leave, Cond.instanceMethod yX8_leave, Cond.selects RX8 yX8_leave yX8_leave, Cond.code yX8_leave cX8_leave 2 none, Cond.fieldLink RX8 34 "WindTakenModel" "trace" "[I", Cond.methodLink RX8 290 yX8_sizeOfFixed, Cond.instanceMethod yX8_sizeOfFixed, Cond.selects RX8 yX8_sizeOfFixed yX8_sizeOfFixed, Cond.code yX8_sizeOfFixed cX8_sizeOfFixed 2 (some .int)]
noncomputable def wsX8_ask_r2 : List Cond := [Cond.methodLink RX8 278 yX8_sizeOfMill, Cond.instanceMethod yX8_sizeOfMill, Cond.selects RX8 yX8_sizeOfMill yX8_sizeOfMill, Cond.code yX8_sizeOfMill cX8_sizeOfMill 2 (some .int), Cond.methodLink RX8 177 yX8_of, Cond.instanceMethod yX8_of, Cond.selects RX8 yX8_of yX8_of, Cond.code yX8_of cX8_of 3 (some .int), Cond.methodLink RX8 287 yX8_mark, Cond.instanceMethod yX8_mark, Cond.selects RX8 yX8_mark yX8_mark, Cond.code yX8_mark cX8_mark 2 (some .int), Cond.methodLink RX8 281 yX8_markOfHooded, Cond.instanceMethod yX8_markOfHooded, Cond.selects RX8 yX8_markOfHooded yX8_markOfHooded, Cond.code yX8_markOfHooded cX8_markOfHooded 2 (some .int), Cond.methodLink RX8 275 yX8_markOfFixed, Cond.instanceMethod yX8_markOfFixed, Cond.selects RX8 yX8_markOfFixed yX8_markOfFixed, Cond.code yX8_markOfFixed cX8_markOfFixed 2 (some .int), Cond.methodLink RX8 284 yX8_sizeOfWater, Cond.instanceMethod yX8_sizeOfWater, Cond.selects RX8 yX8_sizeOfWater yX8_sizeOfWater, Cond.code yX8_sizeOfWater cX8_sizeOfWater 2 (some .int)]
noncomputable def wsX8_ask : List Cond := .code yX8_ask cX8_ask 3 (some .int) :: ((wsX8_ask_r1 ++ wsX8_ask_r2) ++ wsX80)
noncomputable def wsX8_trace : List Cond := .code yX8_trace cX8_trace 2 (some .int) :: ([.fieldLink RX8 268 "WindTakenModel" "traced" "I", .fieldLink RX8 34 "WindTakenModel" "trace" "[I", .constant RX8 215 (-1000000), .methodLink RX8 53 yX8_in, .static yX8_in, .initialized RX8, .code yX8_in cX8_in 6 (some .boolean)] ++ wsX80)
noncomputable def wsX8_count : List Cond := .code yX8_count cX8_count 4 (some .int) :: ([.fieldLink RX8 22 "WindTakenModel" "now" "[I", .fieldLink RX8 82 "WindTakenModel" "tapeLong" "I", .constant RX8 63 (-1000001), .methodLink RX8 70 yX8_isMissing, .instanceMethod yX8_isMissing, .selects RX8 yX8_isMissing yX8_isMissing, .initialized RX8, .code yX8_isMissing cX8_isMissing 2 (some .boolean), .fieldLink RX8 7 "WindTakenModel" "lanes" "[I", .methodLink RX8 177 yX8_of, .instanceMethod yX8_of, .selects RX8 yX8_of yX8_of, .code yX8_of cX8_of 3 (some .int)] ++ wsX80)
noncomputable def wsX8_status : List Cond := .code yX8_status cX8_status 1 (some .int) :: ([.fieldLink RX8 46 "WindTakenModel" "status" "I"] ++ wsX80)
noncomputable def wsJ9_max_7cf53 : List Cond := .code yJ9_max_7cf53 cJ9_max_7cf53 2 (some .int) :: ([])
noncomputable def wsJ9_min_7cf53 : List Cond := .code yJ9_min_7cf53 cJ9_min_7cf53 2 (some .int) :: ([])
abbrev vwCl : List vw_C := [(RX0, TX0, 12), (RX1, TX1, 6), (RX2, TX2, 7), (RX3, TX3, 6), (RX4, TX4, 3), (RX5, TX5, 2), (RX6, TX6, 2), (RX7, TX7, 10), (RX8, TX8, 21)]
end
section
theorem dX0_init_0 : decode cX0_init 0 = .ok (.aload_n 0, 1) := by decide +kernel
theorem dX0_init_1 : decode cX0_init 1 = .ok (.invokespecial 3, 3) := by decide +kernel
theorem dX0_init_4 : decode cX0_init 4 = .ok (.return_, 1) := by decide +kernel
theorem dX0_begin_0 : decode cX0_begin 0 = .ok (.aload_n 0, 1) := by decide +kernel
theorem dX0_begin_1 : decode cX0_begin 1 = .ok (.iload_n 1, 1) := by decide +kernel
theorem dX0_begin_2 : decode cX0_begin 2 = .ok (.putfield 9, 3) := by decide +kernel
theorem dX0_begin_5 : decode cX0_begin 5 = .ok (.aload_n 0, 1) := by decide +kernel
theorem dX0_begin_6 : decode cX0_begin 6 = .ok (.iload_n 2, 1) := by decide +kernel
theorem dX0_begin_7 : decode cX0_begin 7 = .ok (.putfield 15, 3) := by decide +kernel
theorem dX0_begin_10 : decode cX0_begin 10 = .ok (.aload_n 0, 1) := by decide +kernel
theorem dX0_begin_11 : decode cX0_begin 11 = .ok (.iconst 0, 1) := by decide +kernel
theorem dX0_begin_12 : decode cX0_begin 12 = .ok (.putfield 18, 3) := by decide +kernel
theorem dX0_begin_15 : decode cX0_begin 15 = .ok (.aload_n 0, 1) := by decide +kernel
theorem dX0_begin_16 : decode cX0_begin 16 = .ok (.iconst 0, 1) := by decide +kernel
theorem dX0_begin_17 : decode cX0_begin 17 = .ok (.putfield 21, 3) := by decide +kernel
theorem dX0_begin_20 : decode cX0_begin 20 = .ok (.aload_n 0, 1) := by decide +kernel
theorem dX0_begin_21 : decode cX0_begin 21 = .ok (.iconst 0, 1) := by decide +kernel
theorem dX0_begin_22 : decode cX0_begin 22 = .ok (.putfield 24, 3) := by decide +kernel
theorem dX0_begin_25 : decode cX0_begin 25 = .ok (.aload_n 0, 1) := by decide +kernel
theorem dX0_begin_26 : decode cX0_begin 26 = .ok (.iconst 0, 1) := by decide +kernel
theorem dX0_begin_27 : decode cX0_begin 27 = .ok (.putfield 27, 3) := by decide +kernel
theorem dX0_begin_30 : decode cX0_begin 30 = .ok (.return_, 1) := by decide +kernel
theorem dX0_become_0 : decode cX0_become 0 = .ok (.aload_n 0, 1) := by decide +kernel
theorem dX0_become_1 : decode cX0_become 1 = .ok (.aload_n 1, 1) := by decide +kernel
theorem dX0_become_2 : decode cX0_become 2 = .ok (.getfield 9, 3) := by decide +kernel
theorem dX0_become_5 : decode cX0_become 5 = .ok (.putfield 9, 3) := by decide +kernel
theorem dX0_become_8 : decode cX0_become 8 = .ok (.aload_n 0, 1) := by decide +kernel
theorem dX0_become_9 : decode cX0_become 9 = .ok (.aload_n 1, 1) := by decide +kernel
theorem dX0_become_10 : decode cX0_become 10 = .ok (.getfield 15, 3) := by decide +kernel
theorem dX0_become_13 : decode cX0_become 13 = .ok (.putfield 15, 3) := by decide +kernel
theorem dX0_become_16 : decode cX0_become 16 = .ok (.aload_n 0, 1) := by decide +kernel
theorem dX0_become_17 : decode cX0_become 17 = .ok (.aload_n 1, 1) := by decide +kernel
theorem dX0_become_18 : decode cX0_become 18 = .ok (.getfield 31, 3) := by decide +kernel
theorem dX0_become_21 : decode cX0_become 21 = .ok (.putfield 31, 3) := by decide +kernel
theorem dX0_become_24 : decode cX0_become 24 = .ok (.aload_n 0, 1) := by decide +kernel
theorem dX0_become_25 : decode cX0_become 25 = .ok (.aload_n 1, 1) := by decide +kernel
theorem dX0_become_26 : decode cX0_become 26 = .ok (.getfield 34, 3) := by decide +kernel
theorem dX0_become_29 : decode cX0_become 29 = .ok (.putfield 34, 3) := by decide +kernel
theorem dX0_become_32 : decode cX0_become 32 = .ok (.aload_n 0, 1) := by decide +kernel
theorem dX0_become_33 : decode cX0_become 33 = .ok (.aload_n 1, 1) := by decide +kernel
theorem dX0_become_34 : decode cX0_become 34 = .ok (.getfield 37, 3) := by decide +kernel
theorem dX0_become_37 : decode cX0_become 37 = .ok (.putfield 37, 3) := by decide +kernel
theorem dX0_become_40 : decode cX0_become 40 = .ok (.aload_n 0, 1) := by decide +kernel
theorem dX0_become_41 : decode cX0_become 41 = .ok (.aload_n 1, 1) := by decide +kernel
theorem dX0_become_42 : decode cX0_become 42 = .ok (.getfield 40, 3) := by decide +kernel
theorem dX0_become_45 : decode cX0_become 45 = .ok (.putfield 40, 3) := by decide +kernel
theorem dX0_become_48 : decode cX0_become 48 = .ok (.aload_n 0, 1) := by decide +kernel
theorem dX0_become_49 : decode cX0_become 49 = .ok (.aload_n 1, 1) := by decide +kernel
theorem dX0_become_50 : decode cX0_become 50 = .ok (.getfield 43, 3) := by decide +kernel
theorem dX0_become_53 : decode cX0_become 53 = .ok (.putfield 43, 3) := by decide +kernel
theorem dX0_become_56 : decode cX0_become 56 = .ok (.aload_n 0, 1) := by decide +kernel
theorem dX0_become_57 : decode cX0_become 57 = .ok (.aload_n 1, 1) := by decide +kernel
theorem dX0_become_58 : decode cX0_become 58 = .ok (.getfield 46, 3) := by decide +kernel
theorem dX0_become_61 : decode cX0_become 61 = .ok (.putfield 46, 3) := by decide +kernel
theorem dX0_become_64 : decode cX0_become 64 = .ok (.aload_n 0, 1) := by decide +kernel
theorem dX0_become_65 : decode cX0_become 65 = .ok (.aload_n 1, 1) := by decide +kernel
theorem dX0_become_66 : decode cX0_become 66 = .ok (.getfield 18, 3) := by decide +kernel
theorem dX0_become_69 : decode cX0_become 69 = .ok (.putfield 18, 3) := by decide +kernel
theorem dX0_become_72 : decode cX0_become 72 = .ok (.aload_n 0, 1) := by decide +kernel
theorem dX0_become_73 : decode cX0_become 73 = .ok (.aload_n 1, 1) := by decide +kernel
theorem dX0_become_74 : decode cX0_become 74 = .ok (.getfield 21, 3) := by decide +kernel
theorem dX0_become_77 : decode cX0_become 77 = .ok (.putfield 21, 3) := by decide +kernel
theorem dX0_become_80 : decode cX0_become 80 = .ok (.aload_n 0, 1) := by decide +kernel
theorem dX0_become_81 : decode cX0_become 81 = .ok (.aload_n 1, 1) := by decide +kernel
theorem dX0_become_82 : decode cX0_become 82 = .ok (.getfield 24, 3) := by decide +kernel
theorem dX0_become_85 : decode cX0_become 85 = .ok (.putfield 24, 3) := by decide +kernel
theorem dX0_become_88 : decode cX0_become 88 = .ok (.aload_n 0, 1) := by decide +kernel
theorem dX0_become_89 : decode cX0_become 89 = .ok (.aload_n 1, 1) := by decide +kernel
theorem dX0_become_90 : decode cX0_become 90 = .ok (.getfield 27, 3) := by decide +kernel
theorem dX0_become_93 : decode cX0_become 93 = .ok (.putfield 27, 3) := by decide +kernel
theorem dX0_become_96 : decode cX0_become 96 = .ok (.return_, 1) := by decide +kernel
theorem dX0_turnsIn_0 : decode cX0_turnsIn 0 = .ok (.aload_n 0, 1) := by decide +kernel
theorem dX0_turnsIn_1 : decode cX0_turnsIn 1 = .ok (.getfield 27, 3) := by decide +kernel
theorem dX0_turnsIn_4 : decode cX0_turnsIn 4 = .ok (.ifCond .ne 31, 3) := by decide +kernel
theorem dX0_turnsIn_7 : decode cX0_turnsIn 7 = .ok (.aload_n 0, 1) := by decide +kernel
theorem dX0_turnsIn_8 : decode cX0_turnsIn 8 = .ok (.getfield 15, 3) := by decide +kernel
theorem dX0_turnsIn_11 : decode cX0_turnsIn 11 = .ok (.iconst 5, 1) := by decide +kernel
theorem dX0_turnsIn_12 : decode cX0_turnsIn 12 = .ok (.if_icmp .eq 23, 3) := by decide +kernel
theorem dX0_turnsIn_15 : decode cX0_turnsIn 15 = .ok (.aload_n 0, 1) := by decide +kernel
theorem dX0_turnsIn_16 : decode cX0_turnsIn 16 = .ok (.getfield 15, 3) := by decide +kernel
theorem dX0_turnsIn_19 : decode cX0_turnsIn 19 = .ok (.iconst 1, 1) := by decide +kernel
theorem dX0_turnsIn_20 : decode cX0_turnsIn 20 = .ok (.if_icmp .ne 11, 3) := by decide +kernel
theorem dX0_turnsIn_23 : decode cX0_turnsIn 23 = .ok (.aload_n 0, 1) := by decide +kernel
theorem dX0_turnsIn_24 : decode cX0_turnsIn 24 = .ok (.getfield 24, 3) := by decide +kernel
theorem dX0_turnsIn_27 : decode cX0_turnsIn 27 = .ok (.iload_n 1, 1) := by decide +kernel
theorem dX0_turnsIn_28 : decode cX0_turnsIn 28 = .ok (.if_icmp .ne 7, 3) := by decide +kernel
theorem dX0_turnsIn_31 : decode cX0_turnsIn 31 = .ok (.iconst 1, 1) := by decide +kernel
theorem dX0_turnsIn_32 : decode cX0_turnsIn 32 = .ok (.goto 4, 3) := by decide +kernel
theorem dX0_turnsIn_35 : decode cX0_turnsIn 35 = .ok (.iconst 0, 1) := by decide +kernel
theorem dX0_turnsIn_36 : decode cX0_turnsIn 36 = .ok (.ireturn, 1) := by decide +kernel
theorem dX1_init_0 : decode cX1_init 0 = .ok (.aload_n 0, 1) := by decide +kernel
theorem dX1_init_1 : decode cX1_init 1 = .ok (.invokespecial 3, 3) := by decide +kernel
theorem dX1_init_4 : decode cX1_init 4 = .ok (.aload_n 0, 1) := by decide +kernel
theorem dX1_init_5 : decode cX1_init 5 = .ok (.bipush 8, 2) := by decide +kernel
theorem dX1_init_7 : decode cX1_init 7 = .ok (.newarray .int, 2) := by decide +kernel
theorem dX1_init_9 : decode cX1_init 9 = .ok (.putfield 9, 3) := by decide +kernel
theorem dX1_init_12 : decode cX1_init 12 = .ok (.aload_n 0, 1) := by decide +kernel
theorem dX1_init_13 : decode cX1_init 13 = .ok (.bipush 9, 2) := by decide +kernel
theorem dX1_init_15 : decode cX1_init 15 = .ok (.newarray .int, 2) := by decide +kernel
theorem dX1_init_17 : decode cX1_init 17 = .ok (.putfield 15, 3) := by decide +kernel
theorem dX1_init_20 : decode cX1_init 20 = .ok (.aload_n 0, 1) := by decide +kernel
theorem dX1_init_21 : decode cX1_init 21 = .ok (.aload_n 1, 1) := by decide +kernel
theorem dX1_init_22 : decode cX1_init 22 = .ok (.putfield 18, 3) := by decide +kernel
theorem dX1_init_25 : decode cX1_init 25 = .ok (.aload_n 0, 1) := by decide +kernel
theorem dX1_init_26 : decode cX1_init 26 = .ok (.iload_n 2, 1) := by decide +kernel
theorem dX1_init_27 : decode cX1_init 27 = .ok (.putfield 22, 3) := by decide +kernel
theorem dX1_init_30 : decode cX1_init 30 = .ok (.return_, 1) := by decide +kernel
set_option maxRecDepth 20000 in
theorem ggX1_survey_X0_turnsIn : GoodIn wsX1_survey wsX0_turnsIn := goodIn_r _ [13, 14, 15, 16, 53, 54, 55, 56, 57, 58, 59, 60, 61, 62, 63, 64] (by decide +kernel) (by decide +kernel)
set_option maxRecDepth 20000 in
theorem gX1_survey_X0_turnsIn : GoodIn wsX1_survey (wsV RX1 41 RX0 yX0_turnsIn wsX0_turnsIn) := goodIn_app (goodIn_of _ (by decide +kernel)) ggX1_survey_X0_turnsIn
set_option maxRecDepth 20000 in
theorem ggX1_survey_X7_bit : GoodIn wsX1_survey wsX7_bit := goodIn_r _ [19] (by decide +kernel) (by decide +kernel)
set_option maxRecDepth 20000 in
theorem gX1_survey_X7_bit_n47 : GoodIn wsX1_survey (wsX7_bit) := ggX1_survey_X7_bit
set_option maxRecDepth 20000 in
theorem ggX1_survey_X1_floorsOf : GoodIn wsX1_survey wsX1_floorsOf := goodIn_r _ [24, 3, 5, 25, 26, 27, 28, 29, 41, 42, 43, 44, 45, 46, 47, 48, 49, 50, 51, 52, 53, 54, 55, 56, 57, 58, 59, 60, 61, 62, 63, 64] (by decide +kernel) (by decide +kernel)
set_option maxRecDepth 20000 in
theorem gX1_survey_X1_floorsOf : GoodIn wsX1_survey (wsV RX1 54 RX1 yX1_floorsOf wsX1_floorsOf) := goodIn_app (goodIn_of _ (by decide +kernel)) ggX1_survey_X1_floorsOf
set_option maxRecDepth 20000 in
theorem ggX1_survey_X1_isShaded : GoodIn wsX1_survey wsX1_isShaded := goodIn_r _ [33, 34, 35, 6, 36, 37, 23, 38, 39, 18, 40, 53, 54, 55, 56, 57, 58, 59, 60, 61, 62, 63, 64, 41, 42, 43, 44, 45, 46] (by decide +kernel) (by decide +kernel)
set_option maxRecDepth 20000 in
theorem gX1_survey_X1_isShaded : GoodIn wsX1_survey (wsV RX1 58 RX1 yX1_isShaded wsX1_isShaded) := goodIn_app (goodIn_of _ (by decide +kernel)) ggX1_survey_X1_isShaded
theorem dX1_survey_0 : decode cX1_survey 0 = .ok (.aload_n 0, 1) := by decide +kernel
theorem dX1_survey_1 : decode cX1_survey 1 = .ok (.iconst 0, 1) := by decide +kernel
theorem dX1_survey_2 : decode cX1_survey 2 = .ok (.putfield 26, 3) := by decide +kernel
theorem dX1_survey_5 : decode cX1_survey 5 = .ok (.aload_n 0, 1) := by decide +kernel
theorem dX1_survey_6 : decode cX1_survey 6 = .ok (.iconst 0, 1) := by decide +kernel
theorem dX1_survey_7 : decode cX1_survey 7 = .ok (.putfield 29, 3) := by decide +kernel
theorem dX1_survey_10 : decode cX1_survey 10 = .ok (.iconst 0, 1) := by decide +kernel
theorem dX1_survey_11 : decode cX1_survey 11 = .ok (.istore_n 2, 1) := by decide +kernel
theorem dX1_survey_12 : decode cX1_survey 12 = .ok (.iload_n 2, 1) := by decide +kernel
theorem dX1_survey_13 : decode cX1_survey 13 = .ok (.aload_n 0, 1) := by decide +kernel
theorem dX1_survey_14 : decode cX1_survey 14 = .ok (.getfield 18, 3) := by decide +kernel
theorem dX1_survey_17 : decode cX1_survey 17 = .ok (.getfield 32, 3) := by decide +kernel
theorem dX1_survey_20 : decode cX1_survey 20 = .ok (.if_icmp .ge 162, 3) := by decide +kernel
theorem dX1_survey_23 : decode cX1_survey 23 = .ok (.aload_n 0, 1) := by decide +kernel
theorem dX1_survey_24 : decode cX1_survey 24 = .ok (.getfield 18, 3) := by decide +kernel
theorem dX1_survey_27 : decode cX1_survey 27 = .ok (.getfield 37, 3) := by decide +kernel
theorem dX1_survey_30 : decode cX1_survey 30 = .ok (.iload_n 2, 1) := by decide +kernel
theorem dX1_survey_31 : decode cX1_survey 31 = .ok (.aaload, 1) := by decide +kernel
theorem dX1_survey_32 : decode cX1_survey 32 = .ok (.astore_n 3, 1) := by decide +kernel
theorem dX1_survey_33 : decode cX1_survey 33 = .ok (.aload_n 3, 1) := by decide +kernel
theorem dX1_survey_34 : decode cX1_survey 34 = .ok (.aload_n 0, 1) := by decide +kernel
theorem dX1_survey_35 : decode cX1_survey 35 = .ok (.getfield 22, 3) := by decide +kernel
theorem dX1_survey_38 : decode cX1_survey 38 = .ok (.invokevirtual 41, 3) := by decide +kernel
theorem dX1_survey_41 : decode cX1_survey 41 = .ok (.invokestatic 47, 3) := by decide +kernel
theorem dX1_survey_44 : decode cX1_survey 44 = .ok (.iload_n 2, 1) := by decide +kernel
theorem dX1_survey_45 : decode cX1_survey 45 = .ok (.ishl, 1) := by decide +kernel
theorem dX1_survey_46 : decode cX1_survey 46 = .ok (.istore 4, 2) := by decide +kernel
theorem dX1_survey_48 : decode cX1_survey 48 = .ok (.aload_n 0, 1) := by decide +kernel
theorem dX1_survey_49 : decode cX1_survey 49 = .ok (.dup, 1) := by decide +kernel
theorem dX1_survey_50 : decode cX1_survey 50 = .ok (.getfield 26, 3) := by decide +kernel
theorem dX1_survey_53 : decode cX1_survey 53 = .ok (.iload 4, 2) := by decide +kernel
theorem dX1_survey_55 : decode cX1_survey 55 = .ok (.ior, 1) := by decide +kernel
theorem dX1_survey_56 : decode cX1_survey 56 = .ok (.putfield 26, 3) := by decide +kernel
theorem dX1_survey_59 : decode cX1_survey 59 = .ok (.aload_n 0, 1) := by decide +kernel
theorem dX1_survey_60 : decode cX1_survey 60 = .ok (.dup, 1) := by decide +kernel
theorem dX1_survey_61 : decode cX1_survey 61 = .ok (.getfield 29, 3) := by decide +kernel
theorem dX1_survey_64 : decode cX1_survey 64 = .ok (.aload_n 3, 1) := by decide +kernel
theorem dX1_survey_65 : decode cX1_survey 65 = .ok (.getfield 51, 3) := by decide +kernel
theorem dX1_survey_68 : decode cX1_survey 68 = .ok (.iconst 4, 1) := by decide +kernel
theorem dX1_survey_69 : decode cX1_survey 69 = .ok (.if_icmp .ne 7, 3) := by decide +kernel
theorem dX1_survey_72 : decode cX1_survey 72 = .ok (.iconst 0, 1) := by decide +kernel
theorem dX1_survey_73 : decode cX1_survey 73 = .ok (.goto 5, 3) := by decide +kernel
theorem dX1_survey_76 : decode cX1_survey 76 = .ok (.iload 4, 2) := by decide +kernel
theorem dX1_survey_78 : decode cX1_survey 78 = .ok (.ior, 1) := by decide +kernel
theorem dX1_survey_79 : decode cX1_survey 79 = .ok (.putfield 29, 3) := by decide +kernel
theorem dX1_survey_82 : decode cX1_survey 82 = .ok (.aload_n 0, 1) := by decide +kernel
theorem dX1_survey_83 : decode cX1_survey 83 = .ok (.getfield 9, 3) := by decide +kernel
theorem dX1_survey_86 : decode cX1_survey 86 = .ok (.iload_n 2, 1) := by decide +kernel
theorem dX1_survey_87 : decode cX1_survey 87 = .ok (.iconst 0, 1) := by decide +kernel
theorem dX1_survey_88 : decode cX1_survey 88 = .ok (.iastore, 1) := by decide +kernel
theorem dX1_survey_89 : decode cX1_survey 89 = .ok (.iconst 0, 1) := by decide +kernel
theorem dX1_survey_90 : decode cX1_survey 90 = .ok (.istore 5, 2) := by decide +kernel
theorem dX1_survey_92 : decode cX1_survey 92 = .ok (.iload 5, 2) := by decide +kernel
theorem dX1_survey_94 : decode cX1_survey 94 = .ok (.aload_n 0, 1) := by decide +kernel
theorem dX1_survey_95 : decode cX1_survey 95 = .ok (.getfield 18, 3) := by decide +kernel
theorem dX1_survey_98 : decode cX1_survey 98 = .ok (.getfield 32, 3) := by decide +kernel
theorem dX1_survey_101 : decode cX1_survey 101 = .ok (.if_icmp .ge 75, 3) := by decide +kernel
theorem dX1_survey_104 : decode cX1_survey 104 = .ok (.aload_n 0, 1) := by decide +kernel
theorem dX1_survey_105 : decode cX1_survey 105 = .ok (.iload_n 2, 1) := by decide +kernel
theorem dX1_survey_106 : decode cX1_survey 106 = .ok (.iload_n 1, 1) := by decide +kernel
theorem dX1_survey_107 : decode cX1_survey 107 = .ok (.invokevirtual 54, 3) := by decide +kernel
theorem dX1_survey_110 : decode cX1_survey 110 = .ok (.aload_n 0, 1) := by decide +kernel
theorem dX1_survey_111 : decode cX1_survey 111 = .ok (.iload 5, 2) := by decide +kernel
theorem dX1_survey_113 : decode cX1_survey 113 = .ok (.iload_n 1, 1) := by decide +kernel
theorem dX1_survey_114 : decode cX1_survey 114 = .ok (.invokevirtual 54, 3) := by decide +kernel
theorem dX1_survey_117 : decode cX1_survey 117 = .ok (.if_icmp .gt 7, 3) := by decide +kernel
theorem dX1_survey_120 : decode cX1_survey 120 = .ok (.iconst 1, 1) := by decide +kernel
theorem dX1_survey_121 : decode cX1_survey 121 = .ok (.goto 4, 3) := by decide +kernel
theorem dX1_survey_124 : decode cX1_survey 124 = .ok (.iconst 0, 1) := by decide +kernel
theorem dX1_survey_125 : decode cX1_survey 125 = .ok (.istore 6, 2) := by decide +kernel
theorem dX1_survey_127 : decode cX1_survey 127 = .ok (.aload_n 0, 1) := by decide +kernel
theorem dX1_survey_128 : decode cX1_survey 128 = .ok (.getfield 9, 3) := by decide +kernel
theorem dX1_survey_131 : decode cX1_survey 131 = .ok (.iload_n 2, 1) := by decide +kernel
theorem dX1_survey_132 : decode cX1_survey 132 = .ok (.dup2, 1) := by decide +kernel
theorem dX1_survey_133 : decode cX1_survey 133 = .ok (.iaload, 1) := by decide +kernel
theorem dX1_survey_134 : decode cX1_survey 134 = .ok (.iload 6, 2) := by decide +kernel
theorem dX1_survey_136 : decode cX1_survey 136 = .ok (.ifCond .eq 25, 3) := by decide +kernel
theorem dX1_survey_139 : decode cX1_survey 139 = .ok (.aload_n 0, 1) := by decide +kernel
theorem dX1_survey_140 : decode cX1_survey 140 = .ok (.aload_n 3, 1) := by decide +kernel
theorem dX1_survey_141 : decode cX1_survey 141 = .ok (.aload_n 0, 1) := by decide +kernel
theorem dX1_survey_142 : decode cX1_survey 142 = .ok (.getfield 18, 3) := by decide +kernel
theorem dX1_survey_145 : decode cX1_survey 145 = .ok (.getfield 37, 3) := by decide +kernel
theorem dX1_survey_148 : decode cX1_survey 148 = .ok (.iload 5, 2) := by decide +kernel
theorem dX1_survey_150 : decode cX1_survey 150 = .ok (.aaload, 1) := by decide +kernel
theorem dX1_survey_151 : decode cX1_survey 151 = .ok (.invokevirtual 58, 3) := by decide +kernel
theorem dX1_survey_154 : decode cX1_survey 154 = .ok (.ifCond .eq 7, 3) := by decide +kernel
theorem dX1_survey_157 : decode cX1_survey 157 = .ok (.iconst 1, 1) := by decide +kernel
theorem dX1_survey_158 : decode cX1_survey 158 = .ok (.goto 4, 3) := by decide +kernel
theorem dX1_survey_161 : decode cX1_survey 161 = .ok (.iconst 0, 1) := by decide +kernel
theorem dX1_survey_162 : decode cX1_survey 162 = .ok (.invokestatic 47, 3) := by decide +kernel
theorem dX1_survey_165 : decode cX1_survey 165 = .ok (.iload 5, 2) := by decide +kernel
theorem dX1_survey_167 : decode cX1_survey 167 = .ok (.ishl, 1) := by decide +kernel
theorem dX1_survey_168 : decode cX1_survey 168 = .ok (.ior, 1) := by decide +kernel
theorem dX1_survey_169 : decode cX1_survey 169 = .ok (.iastore, 1) := by decide +kernel
theorem dX1_survey_170 : decode cX1_survey 170 = .ok (.iinc 5 1, 3) := by decide +kernel
theorem dX1_survey_173 : decode cX1_survey 173 = .ok (.goto (-81), 3) := by decide +kernel
theorem dX1_survey_176 : decode cX1_survey 176 = .ok (.iinc 2 1, 3) := by decide +kernel
theorem dX1_survey_179 : decode cX1_survey 179 = .ok (.goto (-167), 3) := by decide +kernel
theorem dX1_survey_182 : decode cX1_survey 182 = .ok (.return_, 1) := by decide +kernel
theorem dX1_floorsOf_0 : decode cX1_floorsOf 0 = .ok (.aload_n 0, 1) := by decide +kernel
theorem dX1_floorsOf_1 : decode cX1_floorsOf 1 = .ok (.getfield 18, 3) := by decide +kernel
theorem dX1_floorsOf_4 : decode cX1_floorsOf 4 = .ok (.getfield 37, 3) := by decide +kernel
theorem dX1_floorsOf_7 : decode cX1_floorsOf 7 = .ok (.iload_n 1, 1) := by decide +kernel
theorem dX1_floorsOf_8 : decode cX1_floorsOf 8 = .ok (.aaload, 1) := by decide +kernel
theorem dX1_floorsOf_9 : decode cX1_floorsOf 9 = .ok (.getfield 62, 3) := by decide +kernel
theorem dX1_floorsOf_12 : decode cX1_floorsOf 12 = .ok (.istore_n 3, 1) := by decide +kernel
theorem dX1_floorsOf_13 : decode cX1_floorsOf 13 = .ok (.iload_n 1, 1) := by decide +kernel
theorem dX1_floorsOf_14 : decode cX1_floorsOf 14 = .ok (.iload_n 2, 1) := by decide +kernel
theorem dX1_floorsOf_15 : decode cX1_floorsOf 15 = .ok (.if_icmp .ne 14, 3) := by decide +kernel
theorem dX1_floorsOf_18 : decode cX1_floorsOf 18 = .ok (.iload_n 3, 1) := by decide +kernel
theorem dX1_floorsOf_19 : decode cX1_floorsOf 19 = .ok (.iconst 1, 1) := by decide +kernel
theorem dX1_floorsOf_20 : decode cX1_floorsOf 20 = .ok (.iadd, 1) := by decide +kernel
theorem dX1_floorsOf_21 : decode cX1_floorsOf 21 = .ok (.bipush 9, 2) := by decide +kernel
theorem dX1_floorsOf_23 : decode cX1_floorsOf 23 = .ok (.invokestatic 65, 3) := by decide +kernel
theorem dX1_floorsOf_26 : decode cX1_floorsOf 26 = .ok (.goto 4, 3) := by decide +kernel
theorem dX1_floorsOf_29 : decode cX1_floorsOf 29 = .ok (.iload_n 3, 1) := by decide +kernel
theorem dX1_floorsOf_30 : decode cX1_floorsOf 30 = .ok (.ireturn, 1) := by decide +kernel
set_option maxRecDepth 20000 in
theorem ggX1_isShaded_X1_isAhead : GoodIn wsX1_isShaded wsX1_isAhead := goodIn_r _ [7, 8, 9, 10] (by decide +kernel) (by decide +kernel)
set_option maxRecDepth 20000 in
theorem gX1_isShaded_X1_isAhead : GoodIn wsX1_isShaded (va_wsS RX1 76 yX1_isAhead wsX1_isAhead) := goodIn_app (goodIn_of _ (by decide +kernel)) ggX1_isShaded_X1_isAhead
theorem dX1_isShaded_0 : decode cX1_isShaded 0 = .ok (.aload_n 2, 1) := by decide +kernel
theorem dX1_isShaded_1 : decode cX1_isShaded 1 = .ok (.getfield 70, 3) := by decide +kernel
theorem dX1_isShaded_4 : decode cX1_isShaded 4 = .ok (.aload_n 1, 1) := by decide +kernel
theorem dX1_isShaded_5 : decode cX1_isShaded 5 = .ok (.getfield 70, 3) := by decide +kernel
theorem dX1_isShaded_8 : decode cX1_isShaded 8 = .ok (.isub, 1) := by decide +kernel
theorem dX1_isShaded_9 : decode cX1_isShaded 9 = .ok (.istore_n 3, 1) := by decide +kernel
theorem dX1_isShaded_10 : decode cX1_isShaded 10 = .ok (.aload_n 2, 1) := by decide +kernel
theorem dX1_isShaded_11 : decode cX1_isShaded 11 = .ok (.getfield 73, 3) := by decide +kernel
theorem dX1_isShaded_14 : decode cX1_isShaded 14 = .ok (.aload_n 1, 1) := by decide +kernel
theorem dX1_isShaded_15 : decode cX1_isShaded 15 = .ok (.getfield 73, 3) := by decide +kernel
theorem dX1_isShaded_18 : decode cX1_isShaded 18 = .ok (.isub, 1) := by decide +kernel
theorem dX1_isShaded_19 : decode cX1_isShaded 19 = .ok (.istore 4, 2) := by decide +kernel
theorem dX1_isShaded_21 : decode cX1_isShaded 21 = .ok (.aload_n 0, 1) := by decide +kernel
theorem dX1_isShaded_22 : decode cX1_isShaded 22 = .ok (.getfield 22, 3) := by decide +kernel
theorem dX1_isShaded_25 : decode cX1_isShaded 25 = .ok (.tableswitch 49 0 2 #[27, 35, 42], 27) := by decide +kernel
theorem dX1_isShaded_52 : decode cX1_isShaded 52 = .ok (.iload 4, 2) := by decide +kernel
theorem dX1_isShaded_54 : decode cX1_isShaded 54 = .ok (.ineg, 1) := by decide +kernel
theorem dX1_isShaded_55 : decode cX1_isShaded 55 = .ok (.iload_n 3, 1) := by decide +kernel
theorem dX1_isShaded_56 : decode cX1_isShaded 56 = .ok (.invokestatic 76, 3) := by decide +kernel
theorem dX1_isShaded_59 : decode cX1_isShaded 59 = .ok (.ireturn, 1) := by decide +kernel
theorem dX1_isShaded_60 : decode cX1_isShaded 60 = .ok (.iload_n 3, 1) := by decide +kernel
theorem dX1_isShaded_61 : decode cX1_isShaded 61 = .ok (.iload 4, 2) := by decide +kernel
theorem dX1_isShaded_63 : decode cX1_isShaded 63 = .ok (.invokestatic 76, 3) := by decide +kernel
theorem dX1_isShaded_66 : decode cX1_isShaded 66 = .ok (.ireturn, 1) := by decide +kernel
theorem dX1_isShaded_67 : decode cX1_isShaded 67 = .ok (.iload 4, 2) := by decide +kernel
theorem dX1_isShaded_69 : decode cX1_isShaded 69 = .ok (.iload_n 3, 1) := by decide +kernel
theorem dX1_isShaded_70 : decode cX1_isShaded 70 = .ok (.invokestatic 76, 3) := by decide +kernel
theorem dX1_isShaded_73 : decode cX1_isShaded 73 = .ok (.ireturn, 1) := by decide +kernel
theorem dX1_isShaded_74 : decode cX1_isShaded 74 = .ok (.iload_n 3, 1) := by decide +kernel
theorem dX1_isShaded_75 : decode cX1_isShaded 75 = .ok (.ineg, 1) := by decide +kernel
theorem dX1_isShaded_76 : decode cX1_isShaded 76 = .ok (.iload 4, 2) := by decide +kernel
theorem dX1_isShaded_78 : decode cX1_isShaded 78 = .ok (.invokestatic 76, 3) := by decide +kernel
theorem dX1_isShaded_81 : decode cX1_isShaded 81 = .ok (.ireturn, 1) := by decide +kernel
set_option maxRecDepth 20000 in
theorem ggX1_isAhead_X7_isWithin : GoodIn wsX1_isAhead wsX7_isWithin := goodIn_r _ [3] (by decide +kernel) (by decide +kernel)
set_option maxRecDepth 20000 in
theorem gX1_isAhead_X7_isWithin_n80 : GoodIn wsX1_isAhead (wsX7_isWithin) := ggX1_isAhead_X7_isWithin
theorem dX1_isAhead_0 : decode cX1_isAhead 0 = .ok (.iload_n 0, 1) := by decide +kernel
theorem dX1_isAhead_1 : decode cX1_isAhead 1 = .ok (.iconst 1, 1) := by decide +kernel
theorem dX1_isAhead_2 : decode cX1_isAhead 2 = .ok (.bipush 6, 2) := by decide +kernel
theorem dX1_isAhead_4 : decode cX1_isAhead 4 = .ok (.invokestatic 80, 3) := by decide +kernel
theorem dX1_isAhead_7 : decode cX1_isAhead 7 = .ok (.ifCond .eq 16, 3) := by decide +kernel
theorem dX1_isAhead_10 : decode cX1_isAhead 10 = .ok (.iload_n 1, 1) := by decide +kernel
theorem dX1_isAhead_11 : decode cX1_isAhead 11 = .ok (.iconst (-1), 1) := by decide +kernel
theorem dX1_isAhead_12 : decode cX1_isAhead 12 = .ok (.iconst 1, 1) := by decide +kernel
theorem dX1_isAhead_13 : decode cX1_isAhead 13 = .ok (.invokestatic 80, 3) := by decide +kernel
theorem dX1_isAhead_16 : decode cX1_isAhead 16 = .ok (.ifCond .eq 7, 3) := by decide +kernel
theorem dX1_isAhead_19 : decode cX1_isAhead 19 = .ok (.iconst 1, 1) := by decide +kernel
theorem dX1_isAhead_20 : decode cX1_isAhead 20 = .ok (.goto 4, 3) := by decide +kernel
theorem dX1_isAhead_23 : decode cX1_isAhead 23 = .ok (.iconst 0, 1) := by decide +kernel
theorem dX1_isAhead_24 : decode cX1_isAhead 24 = .ok (.ireturn, 1) := by decide +kernel
theorem dX1_blow_0 : decode cX1_blow 0 = .ok (.aload_n 0, 1) := by decide +kernel
theorem dX1_blow_1 : decode cX1_blow 1 = .ok (.getfield 15, 3) := by decide +kernel
theorem dX1_blow_4 : decode cX1_blow 4 = .ok (.iconst 0, 1) := by decide +kernel
theorem dX1_blow_5 : decode cX1_blow 5 = .ok (.iload_n 1, 1) := by decide +kernel
theorem dX1_blow_6 : decode cX1_blow 6 = .ok (.iastore, 1) := by decide +kernel
theorem dX1_blow_7 : decode cX1_blow 7 = .ok (.iconst 1, 1) := by decide +kernel
theorem dX1_blow_8 : decode cX1_blow 8 = .ok (.istore_n 2, 1) := by decide +kernel
theorem dX1_blow_9 : decode cX1_blow 9 = .ok (.iload_n 2, 1) := by decide +kernel
theorem dX1_blow_10 : decode cX1_blow 10 = .ok (.bipush 8, 2) := by decide +kernel
theorem dX1_blow_12 : decode cX1_blow 12 = .ok (.if_icmp .gt 43, 3) := by decide +kernel
theorem dX1_blow_15 : decode cX1_blow 15 = .ok (.aload_n 0, 1) := by decide +kernel
theorem dX1_blow_16 : decode cX1_blow 16 = .ok (.getfield 15, 3) := by decide +kernel
theorem dX1_blow_19 : decode cX1_blow 19 = .ok (.iload_n 2, 1) := by decide +kernel
theorem dX1_blow_20 : decode cX1_blow 20 = .ok (.aload_n 0, 1) := by decide +kernel
theorem dX1_blow_21 : decode cX1_blow 21 = .ok (.getfield 15, 3) := by decide +kernel
theorem dX1_blow_24 : decode cX1_blow 24 = .ok (.iload_n 2, 1) := by decide +kernel
theorem dX1_blow_25 : decode cX1_blow 25 = .ok (.iconst 1, 1) := by decide +kernel
theorem dX1_blow_26 : decode cX1_blow 26 = .ok (.isub, 1) := by decide +kernel
theorem dX1_blow_27 : decode cX1_blow 27 = .ok (.iaload, 1) := by decide +kernel
theorem dX1_blow_28 : decode cX1_blow 28 = .ok (.aload_n 0, 1) := by decide +kernel
theorem dX1_blow_29 : decode cX1_blow 29 = .ok (.getfield 18, 3) := by decide +kernel
theorem dX1_blow_32 : decode cX1_blow 32 = .ok (.getfield 84, 3) := by decide +kernel
theorem dX1_blow_35 : decode cX1_blow 35 = .ok (.aload_n 0, 1) := by decide +kernel
theorem dX1_blow_36 : decode cX1_blow 36 = .ok (.getfield 15, 3) := by decide +kernel
theorem dX1_blow_39 : decode cX1_blow 39 = .ok (.iload_n 2, 1) := by decide +kernel
theorem dX1_blow_40 : decode cX1_blow 40 = .ok (.iconst 1, 1) := by decide +kernel
theorem dX1_blow_41 : decode cX1_blow 41 = .ok (.isub, 1) := by decide +kernel
theorem dX1_blow_42 : decode cX1_blow 42 = .ok (.iaload, 1) := by decide +kernel
theorem dX1_blow_43 : decode cX1_blow 43 = .ok (.imul, 1) := by decide +kernel
theorem dX1_blow_44 : decode cX1_blow 44 = .ok (.bipush 100, 2) := by decide +kernel
theorem dX1_blow_46 : decode cX1_blow 46 = .ok (.idiv, 1) := by decide +kernel
theorem dX1_blow_47 : decode cX1_blow 47 = .ok (.isub, 1) := by decide +kernel
theorem dX1_blow_48 : decode cX1_blow 48 = .ok (.iastore, 1) := by decide +kernel
theorem dX1_blow_49 : decode cX1_blow 49 = .ok (.iinc 2 1, 3) := by decide +kernel
theorem dX1_blow_52 : decode cX1_blow 52 = .ok (.goto (-43), 3) := by decide +kernel
theorem dX1_blow_55 : decode cX1_blow 55 = .ok (.return_, 1) := by decide +kernel
set_option maxRecDepth 20000 in
theorem ggX1_windLeft_J6_bitCount_0f7a4 : GoodIn wsX1_windLeft wsJ6_bitCount_0f7a4 := goodIn_r _ [7, 8, 9, 10] (by decide +kernel) (by decide +kernel)
set_option maxRecDepth 20000 in
theorem gX1_windLeft_J6_bitCount_0f7a4 : GoodIn wsX1_windLeft (va_wsS RX1 87 yJ6_bitCount_0f7a4 wsJ6_bitCount_0f7a4) := goodIn_app (goodIn_of _ (by decide +kernel)) ggX1_windLeft_J6_bitCount_0f7a4
theorem dX1_windLeft_0 : decode cX1_windLeft 0 = .ok (.aload_n 0, 1) := by decide +kernel
theorem dX1_windLeft_1 : decode cX1_windLeft 1 = .ok (.getfield 15, 3) := by decide +kernel
theorem dX1_windLeft_4 : decode cX1_windLeft 4 = .ok (.aload_n 0, 1) := by decide +kernel
theorem dX1_windLeft_5 : decode cX1_windLeft 5 = .ok (.getfield 9, 3) := by decide +kernel
theorem dX1_windLeft_8 : decode cX1_windLeft 8 = .ok (.iload_n 1, 1) := by decide +kernel
theorem dX1_windLeft_9 : decode cX1_windLeft 9 = .ok (.iaload, 1) := by decide +kernel
theorem dX1_windLeft_10 : decode cX1_windLeft 10 = .ok (.aload_n 0, 1) := by decide +kernel
theorem dX1_windLeft_11 : decode cX1_windLeft 11 = .ok (.getfield 29, 3) := by decide +kernel
theorem dX1_windLeft_14 : decode cX1_windLeft 14 = .ok (.iand, 1) := by decide +kernel
theorem dX1_windLeft_15 : decode cX1_windLeft 15 = .ok (.iload_n 2, 1) := by decide +kernel
theorem dX1_windLeft_16 : decode cX1_windLeft 16 = .ok (.iconst (-1), 1) := by decide +kernel
theorem dX1_windLeft_17 : decode cX1_windLeft 17 = .ok (.ixor, 1) := by decide +kernel
theorem dX1_windLeft_18 : decode cX1_windLeft 18 = .ok (.iand, 1) := by decide +kernel
theorem dX1_windLeft_19 : decode cX1_windLeft 19 = .ok (.invokestatic 87, 3) := by decide +kernel
theorem dX1_windLeft_22 : decode cX1_windLeft 22 = .ok (.iaload, 1) := by decide +kernel
theorem dX1_windLeft_23 : decode cX1_windLeft 23 = .ok (.ireturn, 1) := by decide +kernel
set_option maxRecDepth 20000 in
theorem ggX1_strengthOf_X1_windLeft : GoodIn wsX1_strengthOf wsX1_windLeft := goodIn_r _ [10, 11, 12, 13, 14, 15, 16, 17, 18, 19, 20, 21, 22, 23, 24, 25, 26] (by decide +kernel) (by decide +kernel)
set_option maxRecDepth 20000 in
theorem gX1_strengthOf_X1_windLeft : GoodIn wsX1_strengthOf (wsV RX1 96 RX1 yX1_windLeft wsX1_windLeft) := goodIn_app (goodIn_of _ (by decide +kernel)) ggX1_strengthOf_X1_windLeft
theorem dX1_strengthOf_0 : decode cX1_strengthOf 0 = .ok (.aload_n 0, 1) := by decide +kernel
theorem dX1_strengthOf_1 : decode cX1_strengthOf 1 = .ok (.getfield 26, 3) := by decide +kernel
theorem dX1_strengthOf_4 : decode cX1_strengthOf 4 = .ok (.iload_n 2, 1) := by decide +kernel
theorem dX1_strengthOf_5 : decode cX1_strengthOf 5 = .ok (.iconst (-1), 1) := by decide +kernel
theorem dX1_strengthOf_6 : decode cX1_strengthOf 6 = .ok (.ixor, 1) := by decide +kernel
theorem dX1_strengthOf_7 : decode cX1_strengthOf 7 = .ok (.iand, 1) := by decide +kernel
theorem dX1_strengthOf_8 : decode cX1_strengthOf 8 = .ok (.iconst 1, 1) := by decide +kernel
theorem dX1_strengthOf_9 : decode cX1_strengthOf 9 = .ok (.iload_n 1, 1) := by decide +kernel
theorem dX1_strengthOf_10 : decode cX1_strengthOf 10 = .ok (.ishl, 1) := by decide +kernel
theorem dX1_strengthOf_11 : decode cX1_strengthOf 11 = .ok (.iand, 1) := by decide +kernel
theorem dX1_strengthOf_12 : decode cX1_strengthOf 12 = .ok (.ifCond .ne 5, 3) := by decide +kernel
theorem dX1_strengthOf_15 : decode cX1_strengthOf 15 = .ok (.iconst 0, 1) := by decide +kernel
theorem dX1_strengthOf_16 : decode cX1_strengthOf 16 = .ok (.ireturn, 1) := by decide +kernel
theorem dX1_strengthOf_17 : decode cX1_strengthOf 17 = .ok (.aload_n 0, 1) := by decide +kernel
theorem dX1_strengthOf_18 : decode cX1_strengthOf 18 = .ok (.getfield 18, 3) := by decide +kernel
theorem dX1_strengthOf_21 : decode cX1_strengthOf 21 = .ok (.getfield 37, 3) := by decide +kernel
theorem dX1_strengthOf_24 : decode cX1_strengthOf 24 = .ok (.iload_n 1, 1) := by decide +kernel
theorem dX1_strengthOf_25 : decode cX1_strengthOf 25 = .ok (.aaload, 1) := by decide +kernel
theorem dX1_strengthOf_26 : decode cX1_strengthOf 26 = .ok (.astore_n 3, 1) := by decide +kernel
theorem dX1_strengthOf_27 : decode cX1_strengthOf 27 = .ok (.aload_n 3, 1) := by decide +kernel
theorem dX1_strengthOf_28 : decode cX1_strengthOf 28 = .ok (.getfield 51, 3) := by decide +kernel
theorem dX1_strengthOf_31 : decode cX1_strengthOf 31 = .ok (.iconst 4, 1) := by decide +kernel
theorem dX1_strengthOf_32 : decode cX1_strengthOf 32 = .ok (.if_icmp .ne 10, 3) := by decide +kernel
theorem dX1_strengthOf_35 : decode cX1_strengthOf 35 = .ok (.iconst 5, 1) := by decide +kernel
theorem dX1_strengthOf_36 : decode cX1_strengthOf 36 = .ok (.aload_n 3, 1) := by decide +kernel
theorem dX1_strengthOf_37 : decode cX1_strengthOf 37 = .ok (.getfield 93, 3) := by decide +kernel
theorem dX1_strengthOf_40 : decode cX1_strengthOf 40 = .ok (.imul, 1) := by decide +kernel
theorem dX1_strengthOf_41 : decode cX1_strengthOf 41 = .ok (.ireturn, 1) := by decide +kernel
theorem dX1_strengthOf_42 : decode cX1_strengthOf 42 = .ok (.aload_n 0, 1) := by decide +kernel
theorem dX1_strengthOf_43 : decode cX1_strengthOf 43 = .ok (.iload_n 1, 1) := by decide +kernel
theorem dX1_strengthOf_44 : decode cX1_strengthOf 44 = .ok (.iload_n 2, 1) := by decide +kernel
theorem dX1_strengthOf_45 : decode cX1_strengthOf 45 = .ok (.invokevirtual 96, 3) := by decide +kernel
theorem dX1_strengthOf_48 : decode cX1_strengthOf 48 = .ok (.aload_n 3, 1) := by decide +kernel
theorem dX1_strengthOf_49 : decode cX1_strengthOf 49 = .ok (.getfield 93, 3) := by decide +kernel
theorem dX1_strengthOf_52 : decode cX1_strengthOf 52 = .ok (.imul, 1) := by decide +kernel
theorem dX1_strengthOf_53 : decode cX1_strengthOf 53 = .ok (.istore 4, 2) := by decide +kernel
theorem dX1_strengthOf_55 : decode cX1_strengthOf 55 = .ok (.aload_n 3, 1) := by decide +kernel
theorem dX1_strengthOf_56 : decode cX1_strengthOf 56 = .ok (.getfield 51, 3) := by decide +kernel
theorem dX1_strengthOf_59 : decode cX1_strengthOf 59 = .ok (.iconst 3, 1) := by decide +kernel
theorem dX1_strengthOf_60 : decode cX1_strengthOf 60 = .ok (.if_icmp .ne 11, 3) := by decide +kernel
theorem dX1_strengthOf_63 : decode cX1_strengthOf 63 = .ok (.iload 4, 2) := by decide +kernel
theorem dX1_strengthOf_65 : decode cX1_strengthOf 65 = .ok (.bipush 20, 2) := by decide +kernel
theorem dX1_strengthOf_67 : decode cX1_strengthOf 67 = .ok (.idiv, 1) := by decide +kernel
theorem dX1_strengthOf_68 : decode cX1_strengthOf 68 = .ok (.goto 8, 3) := by decide +kernel
theorem dX1_strengthOf_71 : decode cX1_strengthOf 71 = .ok (.iload 4, 2) := by decide +kernel
theorem dX1_strengthOf_73 : decode cX1_strengthOf 73 = .ok (.bipush 10, 2) := by decide +kernel
theorem dX1_strengthOf_75 : decode cX1_strengthOf 75 = .ok (.idiv, 1) := by decide +kernel
theorem dX1_strengthOf_76 : decode cX1_strengthOf 76 = .ok (.ireturn, 1) := by decide +kernel
set_option maxRecDepth 20000 in
theorem ggX1_strengthOfAll_X1_strengthOf : GoodIn wsX1_strengthOfAll wsX1_strengthOf := goodIn_r _ [7, 8, 1, 9, 10, 11, 12, 13, 14, 6, 15, 16, 17, 18, 19, 20, 21, 22, 23, 24, 25, 26, 27, 28, 29, 30, 31, 32, 33, 34, 35, 36, 37, 38, 39, 40, 41, 42, 43, 44, 45, 46, 47, 48, 49] (by decide +kernel) (by decide +kernel)
set_option maxRecDepth 20000 in
theorem gX1_strengthOfAll_X1_strengthOf : GoodIn wsX1_strengthOfAll (wsV RX1 99 RX1 yX1_strengthOf wsX1_strengthOf) := goodIn_app (goodIn_of _ (by decide +kernel)) ggX1_strengthOfAll_X1_strengthOf
theorem dX1_strengthOfAll_0 : decode cX1_strengthOfAll 0 = .ok (.iconst 0, 1) := by decide +kernel
theorem dX1_strengthOfAll_1 : decode cX1_strengthOfAll 1 = .ok (.istore_n 1, 1) := by decide +kernel
theorem dX1_strengthOfAll_2 : decode cX1_strengthOfAll 2 = .ok (.iconst 0, 1) := by decide +kernel
theorem dX1_strengthOfAll_3 : decode cX1_strengthOfAll 3 = .ok (.istore_n 2, 1) := by decide +kernel
theorem dX1_strengthOfAll_4 : decode cX1_strengthOfAll 4 = .ok (.iload_n 2, 1) := by decide +kernel
theorem dX1_strengthOfAll_5 : decode cX1_strengthOfAll 5 = .ok (.aload_n 0, 1) := by decide +kernel
theorem dX1_strengthOfAll_6 : decode cX1_strengthOfAll 6 = .ok (.getfield 18, 3) := by decide +kernel
theorem dX1_strengthOfAll_9 : decode cX1_strengthOfAll 9 = .ok (.getfield 32, 3) := by decide +kernel
theorem dX1_strengthOfAll_12 : decode cX1_strengthOfAll 12 = .ok (.if_icmp .ge 18, 3) := by decide +kernel
theorem dX1_strengthOfAll_15 : decode cX1_strengthOfAll 15 = .ok (.iload_n 1, 1) := by decide +kernel
theorem dX1_strengthOfAll_16 : decode cX1_strengthOfAll 16 = .ok (.aload_n 0, 1) := by decide +kernel
theorem dX1_strengthOfAll_17 : decode cX1_strengthOfAll 17 = .ok (.iload_n 2, 1) := by decide +kernel
theorem dX1_strengthOfAll_18 : decode cX1_strengthOfAll 18 = .ok (.iconst 0, 1) := by decide +kernel
theorem dX1_strengthOfAll_19 : decode cX1_strengthOfAll 19 = .ok (.invokevirtual 99, 3) := by decide +kernel
theorem dX1_strengthOfAll_22 : decode cX1_strengthOfAll 22 = .ok (.iadd, 1) := by decide +kernel
theorem dX1_strengthOfAll_23 : decode cX1_strengthOfAll 23 = .ok (.istore_n 1, 1) := by decide +kernel
theorem dX1_strengthOfAll_24 : decode cX1_strengthOfAll 24 = .ok (.iinc 2 1, 3) := by decide +kernel
theorem dX1_strengthOfAll_27 : decode cX1_strengthOfAll 27 = .ok (.goto (-23), 3) := by decide +kernel
theorem dX1_strengthOfAll_30 : decode cX1_strengthOfAll 30 = .ok (.iload_n 1, 1) := by decide +kernel
theorem dX1_strengthOfAll_31 : decode cX1_strengthOfAll 31 = .ok (.ireturn, 1) := by decide +kernel
set_option maxRecDepth 20000 in
theorem ggX1_grindsBy_X1_strengthOf : GoodIn wsX1_grindsBy wsX1_strengthOf := goodIn_r _ [12, 13, 1, 2, 14, 15, 16, 17, 18, 11, 19, 20, 21, 22, 23, 24, 25, 26, 27, 28, 29, 30, 31, 32, 33, 34, 35, 36, 37, 38, 39, 40, 41, 42, 43, 44, 45, 46, 47, 48, 49, 50, 51, 52, 53] (by decide +kernel) (by decide +kernel)
set_option maxRecDepth 20000 in
theorem gX1_grindsBy_X1_strengthOf : GoodIn wsX1_grindsBy (wsV RX1 99 RX1 yX1_strengthOf wsX1_strengthOf) := goodIn_app (goodIn_of _ (by decide +kernel)) ggX1_grindsBy_X1_strengthOf
theorem dX1_grindsBy_0 : decode cX1_grindsBy 0 = .ok (.aload_n 0, 1) := by decide +kernel
theorem dX1_grindsBy_1 : decode cX1_grindsBy 1 = .ok (.iload_n 1, 1) := by decide +kernel
theorem dX1_grindsBy_2 : decode cX1_grindsBy 2 = .ok (.iload_n 2, 1) := by decide +kernel
theorem dX1_grindsBy_3 : decode cX1_grindsBy 3 = .ok (.invokevirtual 99, 3) := by decide +kernel
theorem dX1_grindsBy_6 : decode cX1_grindsBy 6 = .ok (.aload_n 0, 1) := by decide +kernel
theorem dX1_grindsBy_7 : decode cX1_grindsBy 7 = .ok (.getfield 18, 3) := by decide +kernel
theorem dX1_grindsBy_10 : decode cX1_grindsBy 10 = .ok (.getfield 37, 3) := by decide +kernel
theorem dX1_grindsBy_13 : decode cX1_grindsBy 13 = .ok (.iload_n 1, 1) := by decide +kernel
theorem dX1_grindsBy_14 : decode cX1_grindsBy 14 = .ok (.aaload, 1) := by decide +kernel
theorem dX1_grindsBy_15 : decode cX1_grindsBy 15 = .ok (.getfield 102, 3) := by decide +kernel
theorem dX1_grindsBy_18 : decode cX1_grindsBy 18 = .ok (.invokestatic 65, 3) := by decide +kernel
theorem dX1_grindsBy_21 : decode cX1_grindsBy 21 = .ok (.ireturn, 1) := by decide +kernel
set_option maxRecDepth 20000 in
theorem ggX1_madeBy_X1_grindsBy : GoodIn wsX1_madeBy wsX1_grindsBy := goodIn_r _ [7, 1, 8, 9, 10, 11, 12, 13, 14, 15, 16, 6, 17, 18, 19, 20, 21, 22, 23, 24, 25, 26, 27, 28, 29, 30, 31, 32, 33, 34, 35, 36, 37, 38, 39, 40, 41, 42, 43, 44, 45, 46, 47, 48, 49, 50, 51, 52, 53, 54, 55, 56, 57, 58] (by decide +kernel) (by decide +kernel)
set_option maxRecDepth 20000 in
theorem gX1_madeBy_X1_grindsBy : GoodIn wsX1_madeBy (wsV RX1 105 RX1 yX1_grindsBy wsX1_grindsBy) := goodIn_app (goodIn_of _ (by decide +kernel)) ggX1_madeBy_X1_grindsBy
theorem dX1_madeBy_0 : decode cX1_madeBy 0 = .ok (.iconst 0, 1) := by decide +kernel
theorem dX1_madeBy_1 : decode cX1_madeBy 1 = .ok (.istore_n 2, 1) := by decide +kernel
theorem dX1_madeBy_2 : decode cX1_madeBy 2 = .ok (.iconst 0, 1) := by decide +kernel
theorem dX1_madeBy_3 : decode cX1_madeBy 3 = .ok (.istore_n 3, 1) := by decide +kernel
theorem dX1_madeBy_4 : decode cX1_madeBy 4 = .ok (.iload_n 3, 1) := by decide +kernel
theorem dX1_madeBy_5 : decode cX1_madeBy 5 = .ok (.aload_n 0, 1) := by decide +kernel
theorem dX1_madeBy_6 : decode cX1_madeBy 6 = .ok (.getfield 18, 3) := by decide +kernel
theorem dX1_madeBy_9 : decode cX1_madeBy 9 = .ok (.getfield 32, 3) := by decide +kernel
theorem dX1_madeBy_12 : decode cX1_madeBy 12 = .ok (.if_icmp .ge 18, 3) := by decide +kernel
theorem dX1_madeBy_15 : decode cX1_madeBy 15 = .ok (.iload_n 2, 1) := by decide +kernel
theorem dX1_madeBy_16 : decode cX1_madeBy 16 = .ok (.aload_n 0, 1) := by decide +kernel
theorem dX1_madeBy_17 : decode cX1_madeBy 17 = .ok (.iload_n 3, 1) := by decide +kernel
theorem dX1_madeBy_18 : decode cX1_madeBy 18 = .ok (.iload_n 1, 1) := by decide +kernel
theorem dX1_madeBy_19 : decode cX1_madeBy 19 = .ok (.invokevirtual 105, 3) := by decide +kernel
theorem dX1_madeBy_22 : decode cX1_madeBy 22 = .ok (.iadd, 1) := by decide +kernel
theorem dX1_madeBy_23 : decode cX1_madeBy 23 = .ok (.istore_n 2, 1) := by decide +kernel
theorem dX1_madeBy_24 : decode cX1_madeBy 24 = .ok (.iinc 3 1, 3) := by decide +kernel
theorem dX1_madeBy_27 : decode cX1_madeBy 27 = .ok (.goto (-23), 3) := by decide +kernel
theorem dX1_madeBy_30 : decode cX1_madeBy 30 = .ok (.iload_n 2, 1) := by decide +kernel
theorem dX1_madeBy_31 : decode cX1_madeBy 31 = .ok (.ireturn, 1) := by decide +kernel
set_option maxRecDepth 20000 in
theorem ggX1_gainBy_X1_grindsBy : GoodIn wsX1_gainBy wsX1_grindsBy := goodIn_r _ [9, 10, 11, 12, 13, 14, 3, 15, 16, 17, 18, 8, 19, 20, 21, 22, 23, 24, 25, 26, 27, 28, 29, 30, 31, 32, 33, 34, 35, 36, 37, 38, 39, 40, 41, 42, 43, 44, 45, 46, 47, 48, 49, 50, 51, 52, 53, 54, 55, 56, 57, 58, 59, 60] (by decide +kernel) (by decide +kernel)
set_option maxRecDepth 20000 in
theorem gX1_gainBy_X1_grindsBy : GoodIn wsX1_gainBy (wsV RX1 105 RX1 yX1_grindsBy wsX1_grindsBy) := goodIn_app (goodIn_of _ (by decide +kernel)) ggX1_gainBy_X1_grindsBy
theorem dX1_gainBy_0 : decode cX1_gainBy 0 = .ok (.aload_n 0, 1) := by decide +kernel
theorem dX1_gainBy_1 : decode cX1_gainBy 1 = .ok (.iload_n 1, 1) := by decide +kernel
theorem dX1_gainBy_2 : decode cX1_gainBy 2 = .ok (.iload_n 2, 1) := by decide +kernel
theorem dX1_gainBy_3 : decode cX1_gainBy 3 = .ok (.invokevirtual 105, 3) := by decide +kernel
theorem dX1_gainBy_6 : decode cX1_gainBy 6 = .ok (.aload_n 0, 1) := by decide +kernel
theorem dX1_gainBy_7 : decode cX1_gainBy 7 = .ok (.iload_n 1, 1) := by decide +kernel
theorem dX1_gainBy_8 : decode cX1_gainBy 8 = .ok (.iconst 0, 1) := by decide +kernel
theorem dX1_gainBy_9 : decode cX1_gainBy 9 = .ok (.invokevirtual 105, 3) := by decide +kernel
theorem dX1_gainBy_12 : decode cX1_gainBy 12 = .ok (.isub, 1) := by decide +kernel
theorem dX1_gainBy_13 : decode cX1_gainBy 13 = .ok (.iconst 0, 1) := by decide +kernel
theorem dX1_gainBy_14 : decode cX1_gainBy 14 = .ok (.invokestatic 108, 3) := by decide +kernel
theorem dX1_gainBy_17 : decode cX1_gainBy 17 = .ok (.ireturn, 1) := by decide +kernel
set_option maxRecDepth 20000 in
theorem ggX1_lossBy_X1_grindsBy : GoodIn wsX1_lossBy wsX1_grindsBy := goodIn_r _ [9, 10, 11, 12, 13, 14, 3, 15, 16, 17, 18, 8, 19, 20, 21, 22, 23, 24, 25, 26, 27, 28, 29, 30, 31, 32, 33, 34, 35, 36, 37, 38, 39, 40, 41, 42, 43, 44, 45, 46, 47, 48, 49, 50, 51, 52, 53, 54, 55, 56, 57, 58, 59, 60] (by decide +kernel) (by decide +kernel)
set_option maxRecDepth 20000 in
theorem gX1_lossBy_X1_grindsBy : GoodIn wsX1_lossBy (wsV RX1 105 RX1 yX1_grindsBy wsX1_grindsBy) := goodIn_app (goodIn_of _ (by decide +kernel)) ggX1_lossBy_X1_grindsBy
theorem dX1_lossBy_0 : decode cX1_lossBy 0 = .ok (.aload_n 0, 1) := by decide +kernel
theorem dX1_lossBy_1 : decode cX1_lossBy 1 = .ok (.iload_n 1, 1) := by decide +kernel
theorem dX1_lossBy_2 : decode cX1_lossBy 2 = .ok (.iconst 0, 1) := by decide +kernel
theorem dX1_lossBy_3 : decode cX1_lossBy 3 = .ok (.invokevirtual 105, 3) := by decide +kernel
theorem dX1_lossBy_6 : decode cX1_lossBy 6 = .ok (.aload_n 0, 1) := by decide +kernel
theorem dX1_lossBy_7 : decode cX1_lossBy 7 = .ok (.iload_n 1, 1) := by decide +kernel
theorem dX1_lossBy_8 : decode cX1_lossBy 8 = .ok (.iload_n 2, 1) := by decide +kernel
theorem dX1_lossBy_9 : decode cX1_lossBy 9 = .ok (.invokevirtual 105, 3) := by decide +kernel
theorem dX1_lossBy_12 : decode cX1_lossBy 12 = .ok (.isub, 1) := by decide +kernel
theorem dX1_lossBy_13 : decode cX1_lossBy 13 = .ok (.iconst 0, 1) := by decide +kernel
theorem dX1_lossBy_14 : decode cX1_lossBy 14 = .ok (.invokestatic 108, 3) := by decide +kernel
theorem dX1_lossBy_17 : decode cX1_lossBy 17 = .ok (.ireturn, 1) := by decide +kernel
set_option maxRecDepth 20000 in
theorem ggX1_wearOf_X1_windLeft : GoodIn wsX1_wearOf wsX1_windLeft := goodIn_r _ [6, 7, 8, 1, 9, 10, 11, 12, 13, 14, 15, 16, 17, 18, 19, 20, 21] (by decide +kernel) (by decide +kernel)
set_option maxRecDepth 20000 in
theorem gX1_wearOf_X1_windLeft : GoodIn wsX1_wearOf (wsV RX1 96 RX1 yX1_windLeft wsX1_windLeft) := goodIn_app (goodIn_of _ (by decide +kernel)) ggX1_wearOf_X1_windLeft
theorem dX1_wearOf_0 : decode cX1_wearOf 0 = .ok (.aload_n 0, 1) := by decide +kernel
theorem dX1_wearOf_1 : decode cX1_wearOf 1 = .ok (.getfield 29, 3) := by decide +kernel
theorem dX1_wearOf_4 : decode cX1_wearOf 4 = .ok (.iconst 1, 1) := by decide +kernel
theorem dX1_wearOf_5 : decode cX1_wearOf 5 = .ok (.iload_n 1, 1) := by decide +kernel
theorem dX1_wearOf_6 : decode cX1_wearOf 6 = .ok (.ishl, 1) := by decide +kernel
theorem dX1_wearOf_7 : decode cX1_wearOf 7 = .ok (.iand, 1) := by decide +kernel
theorem dX1_wearOf_8 : decode cX1_wearOf 8 = .ok (.ifCond .ne 7, 3) := by decide +kernel
theorem dX1_wearOf_11 : decode cX1_wearOf 11 = .ok (.iconst 0, 1) := by decide +kernel
theorem dX1_wearOf_12 : decode cX1_wearOf 12 = .ok (.goto 12, 3) := by decide +kernel
theorem dX1_wearOf_15 : decode cX1_wearOf 15 = .ok (.aload_n 0, 1) := by decide +kernel
theorem dX1_wearOf_16 : decode cX1_wearOf 16 = .ok (.iload_n 1, 1) := by decide +kernel
theorem dX1_wearOf_17 : decode cX1_wearOf 17 = .ok (.iconst 0, 1) := by decide +kernel
theorem dX1_wearOf_18 : decode cX1_wearOf 18 = .ok (.invokevirtual 96, 3) := by decide +kernel
theorem dX1_wearOf_21 : decode cX1_wearOf 21 = .ok (.bipush 10, 2) := by decide +kernel
theorem dX1_wearOf_23 : decode cX1_wearOf 23 = .ok (.idiv, 1) := by decide +kernel
theorem dX1_wearOf_24 : decode cX1_wearOf 24 = .ok (.ireturn, 1) := by decide +kernel
theorem dX1_takesFrom_0 : decode cX1_takesFrom 0 = .ok (.aload_n 0, 1) := by decide +kernel
theorem dX1_takesFrom_1 : decode cX1_takesFrom 1 = .ok (.getfield 29, 3) := by decide +kernel
theorem dX1_takesFrom_4 : decode cX1_takesFrom 4 = .ok (.aload_n 0, 1) := by decide +kernel
theorem dX1_takesFrom_5 : decode cX1_takesFrom 5 = .ok (.getfield 9, 3) := by decide +kernel
theorem dX1_takesFrom_8 : decode cX1_takesFrom 8 = .ok (.iload_n 2, 1) := by decide +kernel
theorem dX1_takesFrom_9 : decode cX1_takesFrom 9 = .ok (.iaload, 1) := by decide +kernel
theorem dX1_takesFrom_10 : decode cX1_takesFrom 10 = .ok (.iand, 1) := by decide +kernel
theorem dX1_takesFrom_11 : decode cX1_takesFrom 11 = .ok (.iconst 1, 1) := by decide +kernel
theorem dX1_takesFrom_12 : decode cX1_takesFrom 12 = .ok (.iload_n 1, 1) := by decide +kernel
theorem dX1_takesFrom_13 : decode cX1_takesFrom 13 = .ok (.ishl, 1) := by decide +kernel
theorem dX1_takesFrom_14 : decode cX1_takesFrom 14 = .ok (.iand, 1) := by decide +kernel
theorem dX1_takesFrom_15 : decode cX1_takesFrom 15 = .ok (.ifCond .eq 7, 3) := by decide +kernel
theorem dX1_takesFrom_18 : decode cX1_takesFrom 18 = .ok (.iconst 1, 1) := by decide +kernel
theorem dX1_takesFrom_19 : decode cX1_takesFrom 19 = .ok (.goto 4, 3) := by decide +kernel
theorem dX1_takesFrom_22 : decode cX1_takesFrom 22 = .ok (.iconst 0, 1) := by decide +kernel
theorem dX1_takesFrom_23 : decode cX1_takesFrom 23 = .ok (.ireturn, 1) := by decide +kernel
set_option maxRecDepth 20000 in
theorem ggX1_bestSet_X1_madeBy : GoodIn wsX1_bestSet wsX1_madeBy := goodIn_r _ [7, 1, 2, 8, 9, 10, 6, 11, 12, 13, 14, 15, 16, 17, 18, 19, 20, 21, 22, 23, 24, 25, 26, 27, 28, 29, 30, 31, 32, 33, 34, 35, 36, 37, 38, 39, 40, 41, 42, 43, 44, 45, 46, 47, 48, 49, 50, 51, 52, 53, 54, 55, 56, 57, 58, 59, 60, 61, 62] (by decide +kernel) (by decide +kernel)
set_option maxRecDepth 20000 in
theorem gX1_bestSet_X1_madeBy : GoodIn wsX1_bestSet (wsV RX1 111 RX1 yX1_madeBy wsX1_madeBy) := goodIn_app (goodIn_of _ (by decide +kernel)) ggX1_bestSet_X1_madeBy
set_option maxRecDepth 20000 in
theorem ggX1_bestSet_J6_bitCount_0f7a4 : GoodIn wsX1_bestSet wsJ6_bitCount_0f7a4 := goodIn_r _ [35, 36, 37, 38] (by decide +kernel) (by decide +kernel)
set_option maxRecDepth 20000 in
theorem gX1_bestSet_J6_bitCount_0f7a4 : GoodIn wsX1_bestSet (va_wsS RX1 87 yJ6_bitCount_0f7a4 wsJ6_bitCount_0f7a4) := goodIn_app (goodIn_of _ (by decide +kernel)) ggX1_bestSet_J6_bitCount_0f7a4
theorem dX1_bestSet_0 : decode cX1_bestSet 0 = .ok (.iconst 0, 1) := by decide +kernel
theorem dX1_bestSet_1 : decode cX1_bestSet 1 = .ok (.istore_n 1, 1) := by decide +kernel
theorem dX1_bestSet_2 : decode cX1_bestSet 2 = .ok (.aload_n 0, 1) := by decide +kernel
theorem dX1_bestSet_3 : decode cX1_bestSet 3 = .ok (.iconst 0, 1) := by decide +kernel
theorem dX1_bestSet_4 : decode cX1_bestSet 4 = .ok (.invokevirtual 111, 3) := by decide +kernel
theorem dX1_bestSet_7 : decode cX1_bestSet 7 = .ok (.istore_n 2, 1) := by decide +kernel
theorem dX1_bestSet_8 : decode cX1_bestSet 8 = .ok (.iconst 1, 1) := by decide +kernel
theorem dX1_bestSet_9 : decode cX1_bestSet 9 = .ok (.istore_n 3, 1) := by decide +kernel
theorem dX1_bestSet_10 : decode cX1_bestSet 10 = .ok (.iload_n 3, 1) := by decide +kernel
theorem dX1_bestSet_11 : decode cX1_bestSet 11 = .ok (.iconst 1, 1) := by decide +kernel
theorem dX1_bestSet_12 : decode cX1_bestSet 12 = .ok (.aload_n 0, 1) := by decide +kernel
theorem dX1_bestSet_13 : decode cX1_bestSet 13 = .ok (.getfield 18, 3) := by decide +kernel
theorem dX1_bestSet_16 : decode cX1_bestSet 16 = .ok (.getfield 32, 3) := by decide +kernel
theorem dX1_bestSet_19 : decode cX1_bestSet 19 = .ok (.ishl, 1) := by decide +kernel
theorem dX1_bestSet_20 : decode cX1_bestSet 20 = .ok (.if_icmp .ge 56, 3) := by decide +kernel
theorem dX1_bestSet_23 : decode cX1_bestSet 23 = .ok (.aload_n 0, 1) := by decide +kernel
theorem dX1_bestSet_24 : decode cX1_bestSet 24 = .ok (.iload_n 3, 1) := by decide +kernel
theorem dX1_bestSet_25 : decode cX1_bestSet 25 = .ok (.invokevirtual 111, 3) := by decide +kernel
theorem dX1_bestSet_28 : decode cX1_bestSet 28 = .ok (.istore 4, 2) := by decide +kernel
theorem dX1_bestSet_30 : decode cX1_bestSet 30 = .ok (.iload_n 3, 1) := by decide +kernel
theorem dX1_bestSet_31 : decode cX1_bestSet 31 = .ok (.invokestatic 87, 3) := by decide +kernel
theorem dX1_bestSet_34 : decode cX1_bestSet 34 = .ok (.iload_n 1, 1) := by decide +kernel
theorem dX1_bestSet_35 : decode cX1_bestSet 35 = .ok (.invokestatic 87, 3) := by decide +kernel
theorem dX1_bestSet_38 : decode cX1_bestSet 38 = .ok (.if_icmp .ge 7, 3) := by decide +kernel
theorem dX1_bestSet_41 : decode cX1_bestSet 41 = .ok (.iconst 1, 1) := by decide +kernel
theorem dX1_bestSet_42 : decode cX1_bestSet 42 = .ok (.goto 4, 3) := by decide +kernel
theorem dX1_bestSet_45 : decode cX1_bestSet 45 = .ok (.iconst 0, 1) := by decide +kernel
theorem dX1_bestSet_46 : decode cX1_bestSet 46 = .ok (.istore 5, 2) := by decide +kernel
theorem dX1_bestSet_48 : decode cX1_bestSet 48 = .ok (.iload 4, 2) := by decide +kernel
theorem dX1_bestSet_50 : decode cX1_bestSet 50 = .ok (.iload_n 2, 1) := by decide +kernel
theorem dX1_bestSet_51 : decode cX1_bestSet 51 = .ok (.if_icmp .gt 14, 3) := by decide +kernel
theorem dX1_bestSet_54 : decode cX1_bestSet 54 = .ok (.iload 4, 2) := by decide +kernel
theorem dX1_bestSet_56 : decode cX1_bestSet 56 = .ok (.iload_n 2, 1) := by decide +kernel
theorem dX1_bestSet_57 : decode cX1_bestSet 57 = .ok (.if_icmp .ne 13, 3) := by decide +kernel
theorem dX1_bestSet_60 : decode cX1_bestSet 60 = .ok (.iload 5, 2) := by decide +kernel
theorem dX1_bestSet_62 : decode cX1_bestSet 62 = .ok (.ifCond .eq 8, 3) := by decide +kernel
theorem dX1_bestSet_65 : decode cX1_bestSet 65 = .ok (.iload 4, 2) := by decide +kernel
theorem dX1_bestSet_67 : decode cX1_bestSet 67 = .ok (.istore_n 2, 1) := by decide +kernel
theorem dX1_bestSet_68 : decode cX1_bestSet 68 = .ok (.iload_n 3, 1) := by decide +kernel
theorem dX1_bestSet_69 : decode cX1_bestSet 69 = .ok (.istore_n 1, 1) := by decide +kernel
theorem dX1_bestSet_70 : decode cX1_bestSet 70 = .ok (.iinc 3 1, 3) := by decide +kernel
theorem dX1_bestSet_73 : decode cX1_bestSet 73 = .ok (.goto (-63), 3) := by decide +kernel
theorem dX1_bestSet_76 : decode cX1_bestSet 76 = .ok (.iload_n 1, 1) := by decide +kernel
theorem dX1_bestSet_77 : decode cX1_bestSet 77 = .ok (.ireturn, 1) := by decide +kernel
set_option maxRecDepth 20000 in
theorem ggX1_wouldGrind_X1_strengthOf : GoodIn wsX1_wouldGrind wsX1_strengthOf := goodIn_r _ [13, 14, 1, 3, 15, 16, 17, 18, 19, 12, 20, 21, 22, 23, 24, 25, 26, 27, 28, 29, 30, 31, 32, 33, 34, 35, 36, 37, 38, 39, 40, 41, 42, 43, 44, 45, 46, 47, 48, 49, 50, 51, 52, 53, 54] (by decide +kernel) (by decide +kernel)
set_option maxRecDepth 20000 in
theorem gX1_wouldGrind_X1_strengthOf : GoodIn wsX1_wouldGrind (wsV RX1 99 RX1 yX1_strengthOf wsX1_strengthOf) := goodIn_app (goodIn_of _ (by decide +kernel)) ggX1_wouldGrind_X1_strengthOf
theorem dX1_wouldGrind_0 : decode cX1_wouldGrind 0 = .ok (.iconst 0, 1) := by decide +kernel
theorem dX1_wouldGrind_1 : decode cX1_wouldGrind 1 = .ok (.istore 4, 2) := by decide +kernel
theorem dX1_wouldGrind_3 : decode cX1_wouldGrind 3 = .ok (.iload 4, 2) := by decide +kernel
theorem dX1_wouldGrind_5 : decode cX1_wouldGrind 5 = .ok (.aload_n 0, 1) := by decide +kernel
theorem dX1_wouldGrind_6 : decode cX1_wouldGrind 6 = .ok (.getfield 18, 3) := by decide +kernel
theorem dX1_wouldGrind_9 : decode cX1_wouldGrind 9 = .ok (.getfield 32, 3) := by decide +kernel
theorem dX1_wouldGrind_12 : decode cX1_wouldGrind 12 = .ok (.if_icmp .ge 54, 3) := by decide +kernel
theorem dX1_wouldGrind_15 : decode cX1_wouldGrind 15 = .ok (.iload 4, 2) := by decide +kernel
theorem dX1_wouldGrind_17 : decode cX1_wouldGrind 17 = .ok (.aload_n 1, 1) := by decide +kernel
theorem dX1_wouldGrind_18 : decode cX1_wouldGrind 18 = .ok (.arraylength, 1) := by decide +kernel
theorem dX1_wouldGrind_19 : decode cX1_wouldGrind 19 = .ok (.if_icmp .ge 47, 3) := by decide +kernel
theorem dX1_wouldGrind_22 : decode cX1_wouldGrind 22 = .ok (.iload_n 2, 1) := by decide +kernel
theorem dX1_wouldGrind_23 : decode cX1_wouldGrind 23 = .ok (.aload_n 0, 1) := by decide +kernel
theorem dX1_wouldGrind_24 : decode cX1_wouldGrind 24 = .ok (.iload 4, 2) := by decide +kernel
theorem dX1_wouldGrind_26 : decode cX1_wouldGrind 26 = .ok (.iload_n 3, 1) := by decide +kernel
theorem dX1_wouldGrind_27 : decode cX1_wouldGrind 27 = .ok (.invokevirtual 99, 3) := by decide +kernel
theorem dX1_wouldGrind_30 : decode cX1_wouldGrind 30 = .ok (.imul, 1) := by decide +kernel
theorem dX1_wouldGrind_31 : decode cX1_wouldGrind 31 = .ok (.aload_n 0, 1) := by decide +kernel
theorem dX1_wouldGrind_32 : decode cX1_wouldGrind 32 = .ok (.getfield 18, 3) := by decide +kernel
theorem dX1_wouldGrind_35 : decode cX1_wouldGrind 35 = .ok (.getfield 37, 3) := by decide +kernel
theorem dX1_wouldGrind_38 : decode cX1_wouldGrind 38 = .ok (.iload 4, 2) := by decide +kernel
theorem dX1_wouldGrind_40 : decode cX1_wouldGrind 40 = .ok (.aaload, 1) := by decide +kernel
theorem dX1_wouldGrind_41 : decode cX1_wouldGrind 41 = .ok (.getfield 102, 3) := by decide +kernel
theorem dX1_wouldGrind_44 : decode cX1_wouldGrind 44 = .ok (.invokestatic 65, 3) := by decide +kernel
theorem dX1_wouldGrind_47 : decode cX1_wouldGrind 47 = .ok (.istore 5, 2) := by decide +kernel
theorem dX1_wouldGrind_49 : decode cX1_wouldGrind 49 = .ok (.iload 5, 2) := by decide +kernel
theorem dX1_wouldGrind_51 : decode cX1_wouldGrind 51 = .ok (.aload_n 1, 1) := by decide +kernel
theorem dX1_wouldGrind_52 : decode cX1_wouldGrind 52 = .ok (.iload 4, 2) := by decide +kernel
theorem dX1_wouldGrind_54 : decode cX1_wouldGrind 54 = .ok (.iaload, 1) := by decide +kernel
theorem dX1_wouldGrind_55 : decode cX1_wouldGrind 55 = .ok (.if_icmp .eq 5, 3) := by decide +kernel
theorem dX1_wouldGrind_58 : decode cX1_wouldGrind 58 = .ok (.iconst 0, 1) := by decide +kernel
theorem dX1_wouldGrind_59 : decode cX1_wouldGrind 59 = .ok (.ireturn, 1) := by decide +kernel
theorem dX1_wouldGrind_60 : decode cX1_wouldGrind 60 = .ok (.iinc 4 1, 3) := by decide +kernel
theorem dX1_wouldGrind_63 : decode cX1_wouldGrind 63 = .ok (.goto (-60), 3) := by decide +kernel
theorem dX1_wouldGrind_66 : decode cX1_wouldGrind 66 = .ok (.iconst 1, 1) := by decide +kernel
theorem dX1_wouldGrind_67 : decode cX1_wouldGrind 67 = .ok (.ireturn, 1) := by decide +kernel
theorem dX2_init_0 : decode cX2_init 0 = .ok (.aload_n 0, 1) := by decide +kernel
theorem dX2_init_1 : decode cX2_init 1 = .ok (.invokespecial 3, 3) := by decide +kernel
theorem dX2_init_4 : decode cX2_init 4 = .ok (.aload_n 0, 1) := by decide +kernel
theorem dX2_init_5 : decode cX2_init 5 = .ok (.aload_n 1, 1) := by decide +kernel
theorem dX2_init_6 : decode cX2_init 6 = .ok (.putfield 9, 3) := by decide +kernel
theorem dX2_init_9 : decode cX2_init 9 = .ok (.return_, 1) := by decide +kernel
set_option maxRecDepth 20000 in
theorem ggX2_read_X2_step : GoodIn wsX2_read wsX2_step := goodIn_r _ [10, 11, 1, 12, 13, 5, 14, 15, 16, 17, 18, 19, 20, 21, 22, 23, 24, 25, 26, 27, 28, 29, 30, 31, 32, 33, 34, 161, 162, 163, 164, 165, 166, 167, 174, 175] (by decide +kernel) (by decide +kernel)
set_option maxRecDepth 20000 in
theorem gX2_read_X2_step : GoodIn wsX2_read (wsV RX2 30 RX2 yX2_step wsX2_step) := goodIn_app (goodIn_of _ (by decide +kernel)) ggX2_read_X2_step
set_option maxRecDepth 20000 in
theorem ggX2_read_X2_readLaw : GoodIn wsX2_read wsX2_readLaw := goodIn_r _ [38, 39, 40, 41, 42, 43, 44, 9, 45, 46, 47, 48, 49, 5, 11, 12, 1, 50, 51, 52, 19, 53, 21, 22, 54, 55, 56, 57, 58, 59, 60, 61, 62, 63, 64, 65, 66, 67, 68, 69, 70, 71, 72, 73, 74, 75, 76, 77, 78, 79, 80, 81, 82, 83, 84, 85, 86, 87, 88, 89, 90, 91, 92, 93, 94, 95, 96, 97, 98, 99, 100, 101, 102, 103, 104, 105, 106, 2, 107, 108, 109, 110, 111, 6, 7, 8, 10, 13, 14, 15, 16, 17, 18, 20, 23, 24, 25, 26, 27, 28, 29, 30, 31, 32, 33, 34, 112, 113, 114, 115, 116, 117, 118, 119, 120, 121, 122, 168, 169, 170, 171, 172, 173, 161, 162, 163, 164, 165, 166, 167, 174, 175] (by decide +kernel) (by decide +kernel)
set_option maxRecDepth 20000 in
theorem gX2_read_X2_readLaw : GoodIn wsX2_read (wsV RX2 33 RX2 yX2_readLaw wsX2_readLaw) := goodIn_app (goodIn_of _ (by decide +kernel)) ggX2_read_X2_readLaw
set_option maxRecDepth 20000 in
theorem ggX2_read_X2_readMill : GoodIn wsX2_read wsX2_readMill := goodIn_r _ [126, 3, 2, 127, 128, 5, 14, 129, 130, 131, 132, 133, 46, 47, 48, 9, 49, 11, 12, 1, 50, 51, 52, 19, 53, 21, 22, 54, 55, 56, 57, 58, 59, 60, 61, 62, 63, 64, 65, 66, 67, 68, 69, 70, 71, 72, 73, 74, 75, 76, 77, 78, 79, 80, 81, 82, 83, 84, 85, 86, 87, 88, 89, 90, 91, 92, 93, 94, 95, 96, 97, 98, 99, 100, 101, 102, 107, 108, 109, 110, 111, 42, 43, 44, 45, 103, 104, 105, 106, 6, 7, 8, 10, 13, 15, 16, 17, 18, 20, 23, 24, 25, 26, 27, 28, 29, 30, 31, 32, 33, 34, 134, 135, 136, 137, 138, 139, 140, 141, 142, 143, 144, 145, 146, 147, 148, 149, 150, 151, 112, 113, 114, 115, 116, 117, 118, 152, 153, 154, 155, 156, 157, 158, 159, 160, 119, 120, 121, 122, 168, 169, 170, 171, 172, 173, 161, 162, 163, 164, 165, 166, 167, 176, 177, 178, 179, 180, 181, 182, 183, 184, 185, 186, 187, 174, 175] (by decide +kernel) (by decide +kernel)
set_option maxRecDepth 20000 in
theorem gX2_read_X2_readMill : GoodIn wsX2_read (wsV RX2 37 RX2 yX2_readMill wsX2_readMill) := goodIn_app (goodIn_of _ (by decide +kernel)) ggX2_read_X2_readMill
theorem dX2_read_0 : decode cX2_read 0 = .ok (.aload_n 0, 1) := by decide +kernel
theorem dX2_read_1 : decode cX2_read 1 = .ok (.iconst 0, 1) := by decide +kernel
theorem dX2_read_2 : decode cX2_read 2 = .ok (.putfield 15, 3) := by decide +kernel
theorem dX2_read_5 : decode cX2_read 5 = .ok (.aload_n 0, 1) := by decide +kernel
theorem dX2_read_6 : decode cX2_read 6 = .ok (.iconst 0, 1) := by decide +kernel
theorem dX2_read_7 : decode cX2_read 7 = .ok (.putfield 19, 3) := by decide +kernel
theorem dX2_read_10 : decode cX2_read 10 = .ok (.aload_n 1, 1) := by decide +kernel
theorem dX2_read_11 : decode cX2_read 11 = .ok (.iconst 0, 1) := by decide +kernel
theorem dX2_read_12 : decode cX2_read 12 = .ok (.putfield 22, 3) := by decide +kernel
theorem dX2_read_15 : decode cX2_read 15 = .ok (.aload_n 1, 1) := by decide +kernel
theorem dX2_read_16 : decode cX2_read 16 = .ok (.iconst 0, 1) := by decide +kernel
theorem dX2_read_17 : decode cX2_read 17 = .ok (.putfield 27, 3) := by decide +kernel
theorem dX2_read_20 : decode cX2_read 20 = .ok (.aload_n 0, 1) := by decide +kernel
theorem dX2_read_21 : decode cX2_read 21 = .ok (.invokevirtual 30, 3) := by decide +kernel
theorem dX2_read_24 : decode cX2_read 24 = .ok (.aload_n 0, 1) := by decide +kernel
theorem dX2_read_25 : decode cX2_read 25 = .ok (.aload_n 1, 1) := by decide +kernel
theorem dX2_read_26 : decode cX2_read 26 = .ok (.invokevirtual 33, 3) := by decide +kernel
theorem dX2_read_29 : decode cX2_read 29 = .ok (.aload_n 0, 1) := by decide +kernel
theorem dX2_read_30 : decode cX2_read 30 = .ok (.aload_n 1, 1) := by decide +kernel
theorem dX2_read_31 : decode cX2_read 31 = .ok (.invokevirtual 37, 3) := by decide +kernel
theorem dX2_read_34 : decode cX2_read 34 = .ok (.iconst 0, 1) := by decide +kernel
theorem dX2_read_35 : decode cX2_read 35 = .ok (.istore_n 2, 1) := by decide +kernel
theorem dX2_read_36 : decode cX2_read 36 = .ok (.iload_n 2, 1) := by decide +kernel
theorem dX2_read_37 : decode cX2_read 37 = .ok (.bipush 8, 2) := by decide +kernel
theorem dX2_read_39 : decode cX2_read 39 = .ok (.if_icmp .ge 28, 3) := by decide +kernel
theorem dX2_read_42 : decode cX2_read 42 = .ok (.aload_n 0, 1) := by decide +kernel
theorem dX2_read_43 : decode cX2_read 43 = .ok (.getfield 19, 3) := by decide +kernel
theorem dX2_read_46 : decode cX2_read 46 = .ok (.ifCond .ne 21, 3) := by decide +kernel
theorem dX2_read_49 : decode cX2_read 49 = .ok (.aload_n 0, 1) := by decide +kernel
theorem dX2_read_50 : decode cX2_read 50 = .ok (.getfield 40, 3) := by decide +kernel
theorem dX2_read_53 : decode cX2_read 53 = .ok (.ifCond .eq 14, 3) := by decide +kernel
theorem dX2_read_56 : decode cX2_read 56 = .ok (.aload_n 0, 1) := by decide +kernel
theorem dX2_read_57 : decode cX2_read 57 = .ok (.aload_n 1, 1) := by decide +kernel
theorem dX2_read_58 : decode cX2_read 58 = .ok (.invokevirtual 37, 3) := by decide +kernel
theorem dX2_read_61 : decode cX2_read 61 = .ok (.iinc 2 1, 3) := by decide +kernel
theorem dX2_read_64 : decode cX2_read 64 = .ok (.goto (-28), 3) := by decide +kernel
theorem dX2_read_67 : decode cX2_read 67 = .ok (.aload_n 0, 1) := by decide +kernel
theorem dX2_read_68 : decode cX2_read 68 = .ok (.getfield 19, 3) := by decide +kernel
theorem dX2_read_71 : decode cX2_read 71 = .ok (.ireturn, 1) := by decide +kernel
set_option maxRecDepth 20000 in
theorem ggX2_readLaw_X2_takeName : GoodIn wsX2_readLaw wsX2_takeName := goodIn_r _ [8, 9, 10, 11, 7, 12, 13, 14, 15, 16, 17, 18, 19, 20, 21, 22, 23, 24, 25, 26, 27, 28, 29, 30, 31, 32, 33, 34, 35, 36, 37, 38, 39, 40, 41, 42, 43, 44, 45, 46, 47, 48, 49, 50, 51, 52, 53, 54, 55, 56, 57, 58, 59, 60, 61, 62, 63, 64, 65, 66, 67, 68, 69, 70, 71, 72, 73, 74, 75, 76, 77, 78, 79, 80, 81, 82, 83, 84, 85, 86, 87, 88, 89, 90, 91, 92, 93, 94, 95, 96, 97, 98, 99, 100, 101, 102, 103, 104, 105, 123, 124, 125, 126, 127, 128, 129, 130, 131] (by decide +kernel) (by decide +kernel)
set_option maxRecDepth 20000 in
theorem gX2_readLaw_X2_takeName : GoodIn wsX2_readLaw (wsV RX2 45 RX2 yX2_takeName wsX2_takeName) := goodIn_app (goodIn_of _ (by decide +kernel)) ggX2_readLaw_X2_takeName
set_option maxRecDepth 20000 in
theorem ggX2_readLaw_X2_takeNumber : GoodIn wsX2_readLaw wsX2_takeNumber := goodIn_r _ [109, 13, 88, 110, 111, 112, 78, 79, 80, 7, 81, 77, 15, 82, 73, 74, 75, 76, 83, 84, 85, 86, 14, 16, 87, 89, 90, 91, 92, 20, 93, 22, 23, 94, 95, 96, 97, 98, 99, 100, 101, 102, 103, 104, 105, 123, 124, 125, 126, 127, 128, 129, 130, 131] (by decide +kernel) (by decide +kernel)
set_option maxRecDepth 20000 in
theorem gX2_readLaw_X2_takeNumber : GoodIn wsX2_readLaw (wsV RX2 49 RX2 yX2_takeNumber wsX2_takeNumber) := goodIn_app (goodIn_of _ (by decide +kernel)) ggX2_readLaw_X2_takeNumber
set_option maxRecDepth 20000 in
theorem ggX2_readLaw_X2_takeSign : GoodIn wsX2_readLaw wsX2_takeSign := goodIn_r _ [116, 13, 73, 74, 75, 7, 76, 77, 78, 79, 80, 81, 15, 82, 83, 84, 85, 86, 14, 16, 87, 88, 89, 90, 91, 92, 20, 93, 22, 23, 94, 95, 96, 97, 98, 99, 100, 101, 102, 103, 104, 105, 123, 124, 125, 126, 127, 128, 129, 130, 131] (by decide +kernel) (by decide +kernel)
set_option maxRecDepth 20000 in
theorem gX2_readLaw_X2_takeSign : GoodIn wsX2_readLaw (wsV RX2 62 RX2 yX2_takeSign wsX2_takeSign) := goodIn_app (goodIn_of _ (by decide +kernel)) ggX2_readLaw_X2_takeSign
theorem dX2_readLaw_0 : decode cX2_readLaw 0 = .ok (.aload_n 0, 1) := by decide +kernel
theorem dX2_readLaw_1 : decode cX2_readLaw 1 = .ok (.ldc 43, 2) := by decide +kernel
theorem dX2_readLaw_3 : decode cX2_readLaw 3 = .ok (.invokevirtual 45, 3) := by decide +kernel
theorem dX2_readLaw_6 : decode cX2_readLaw 6 = .ok (.aload_n 1, 1) := by decide +kernel
theorem dX2_readLaw_7 : decode cX2_readLaw 7 = .ok (.aload_n 0, 1) := by decide +kernel
theorem dX2_readLaw_8 : decode cX2_readLaw 8 = .ok (.iconst 0, 1) := by decide +kernel
theorem dX2_readLaw_9 : decode cX2_readLaw 9 = .ok (.bipush 90, 2) := by decide +kernel
theorem dX2_readLaw_11 : decode cX2_readLaw 11 = .ok (.invokevirtual 49, 3) := by decide +kernel
theorem dX2_readLaw_14 : decode cX2_readLaw 14 = .ok (.putfield 53, 3) := by decide +kernel
theorem dX2_readLaw_17 : decode cX2_readLaw 17 = .ok (.aload_n 1, 1) := by decide +kernel
theorem dX2_readLaw_18 : decode cX2_readLaw 18 = .ok (.aload_n 0, 1) := by decide +kernel
theorem dX2_readLaw_19 : decode cX2_readLaw 19 = .ok (.iconst 0, 1) := by decide +kernel
theorem dX2_readLaw_20 : decode cX2_readLaw 20 = .ok (.bipush 50, 2) := by decide +kernel
theorem dX2_readLaw_22 : decode cX2_readLaw 22 = .ok (.invokevirtual 49, 3) := by decide +kernel
theorem dX2_readLaw_25 : decode cX2_readLaw 25 = .ok (.putfield 56, 3) := by decide +kernel
theorem dX2_readLaw_28 : decode cX2_readLaw 28 = .ok (.aload_n 1, 1) := by decide +kernel
theorem dX2_readLaw_29 : decode cX2_readLaw 29 = .ok (.aload_n 0, 1) := by decide +kernel
theorem dX2_readLaw_30 : decode cX2_readLaw 30 = .ok (.iconst 0, 1) := by decide +kernel
theorem dX2_readLaw_31 : decode cX2_readLaw 31 = .ok (.bipush 99, 2) := by decide +kernel
theorem dX2_readLaw_33 : decode cX2_readLaw 33 = .ok (.invokevirtual 49, 3) := by decide +kernel
theorem dX2_readLaw_36 : decode cX2_readLaw 36 = .ok (.putfield 59, 3) := by decide +kernel
theorem dX2_readLaw_39 : decode cX2_readLaw 39 = .ok (.aload_n 0, 1) := by decide +kernel
theorem dX2_readLaw_40 : decode cX2_readLaw 40 = .ok (.invokevirtual 62, 3) := by decide +kernel
theorem dX2_readLaw_43 : decode cX2_readLaw 43 = .ok (.return_, 1) := by decide +kernel
set_option maxRecDepth 20000 in
theorem ggX2_readMill_X2_isName : GoodIn wsX2_readMill wsX2_isName := goodIn_r _ [16, 5, 17, 18, 19, 20, 21, 22, 23, 24, 25, 26, 27, 28, 29, 30, 31, 32, 33, 34, 35, 36, 37, 38, 39, 40, 41, 42, 43, 44, 45, 46, 47, 48, 49, 50, 51, 52, 53, 54, 55, 56, 57, 58, 59, 60, 61, 62, 63, 64, 65, 66, 67, 68, 69, 70, 71, 72, 73, 74, 75, 155, 156, 157, 158, 159, 160, 161, 174, 175] (by decide +kernel) (by decide +kernel)
set_option maxRecDepth 20000 in
theorem gX2_readMill_X2_isName : GoodIn wsX2_readMill (wsV RX2 67 RX2 yX2_isName wsX2_isName) := goodIn_app (goodIn_of _ (by decide +kernel)) ggX2_readMill_X2_isName
set_option maxRecDepth 20000 in
theorem ggX2_readMill_X2_refuse : GoodIn wsX2_readMill wsX2_refuse := goodIn_r _ [79, 2, 18, 80, 155, 156, 157, 158, 159, 160, 161] (by decide +kernel) (by decide +kernel)
set_option maxRecDepth 20000 in
theorem gX2_readMill_X2_refuse : GoodIn wsX2_readMill (wsV RX2 71 RX2 yX2_refuse wsX2_refuse) := goodIn_app (goodIn_of _ (by decide +kernel)) ggX2_readMill_X2_refuse
set_option maxRecDepth 20000 in
theorem ggX2_readMill_X2_takeName : GoodIn wsX2_readMill wsX2_takeName := goodIn_r _ [84, 12, 13, 14, 15, 16, 5, 17, 18, 19, 20, 21, 22, 23, 24, 25, 26, 27, 28, 29, 30, 31, 32, 33, 34, 35, 36, 37, 38, 39, 40, 41, 42, 43, 44, 45, 46, 47, 48, 49, 50, 51, 52, 53, 54, 55, 56, 57, 58, 59, 60, 61, 62, 63, 64, 65, 66, 67, 68, 69, 70, 71, 72, 73, 74, 75, 85, 86, 87, 88, 2, 76, 77, 78, 79, 80, 89, 90, 91, 92, 93, 6, 94, 95, 96, 97, 98, 99, 100, 101, 102, 103, 104, 105, 106, 107, 108, 109, 110, 155, 156, 157, 158, 159, 160, 161, 174, 175] (by decide +kernel) (by decide +kernel)
set_option maxRecDepth 20000 in
theorem gX2_readMill_X2_takeName : GoodIn wsX2_readMill (wsV RX2 45 RX2 yX2_takeName wsX2_takeName) := goodIn_app (goodIn_of _ (by decide +kernel)) ggX2_readMill_X2_takeName
set_option maxRecDepth 20000 in
theorem ggX2_readMill_X2_takeSort : GoodIn wsX2_readMill wsX2_takeSort := goodIn_r _ [114, 115, 116, 15, 117, 12, 13, 14, 16, 5, 17, 18, 19, 20, 21, 22, 23, 24, 25, 26, 27, 28, 29, 30, 31, 32, 33, 34, 35, 36, 37, 38, 39, 40, 41, 42, 43, 44, 45, 46, 47, 48, 49, 50, 51, 52, 53, 54, 55, 56, 57, 58, 59, 60, 61, 62, 63, 64, 65, 66, 67, 68, 69, 70, 71, 72, 73, 74, 75, 85, 86, 87, 88, 2, 76, 77, 78, 79, 80, 89, 90, 91, 92, 93, 6, 94, 95, 96, 97, 98, 99, 100, 101, 102, 103, 104, 105, 106, 107, 108, 109, 110, 155, 156, 157, 158, 159, 160, 161, 174, 175] (by decide +kernel) (by decide +kernel)
set_option maxRecDepth 20000 in
theorem gX2_readMill_X2_takeSort : GoodIn wsX2_readMill (wsV RX2 79 RX2 yX2_takeSort wsX2_takeSort) := goodIn_app (goodIn_of _ (by decide +kernel)) ggX2_readMill_X2_takeSort
set_option maxRecDepth 20000 in
theorem ggX2_readMill_X0_begin : GoodIn wsX2_readMill wsX0_begin := goodIn_r _ [122, 123, 124, 125, 126, 127, 128, 162, 163, 164, 165, 166, 167, 168, 169, 170, 171, 172, 173] (by decide +kernel) (by decide +kernel)
set_option maxRecDepth 20000 in
theorem gX2_readMill_X0_begin : GoodIn wsX2_readMill (wsV RX2 83 RX0 yX0_begin wsX0_begin) := goodIn_app (goodIn_of _ (by decide +kernel)) ggX2_readMill_X0_begin
set_option maxRecDepth 20000 in
theorem ggX2_readMill_X2_takeNumber : GoodIn wsX2_readMill wsX2_takeNumber := goodIn_r _ [132, 5, 6, 133, 134, 135, 76, 77, 78, 15, 79, 2, 18, 80, 85, 86, 87, 88, 89, 90, 91, 92, 17, 19, 93, 94, 95, 96, 97, 23, 98, 25, 26, 99, 100, 101, 102, 103, 104, 105, 106, 107, 108, 109, 110, 155, 156, 157, 158, 159, 160, 161, 174, 175] (by decide +kernel) (by decide +kernel)
set_option maxRecDepth 20000 in
theorem gX2_readMill_X2_takeNumber : GoodIn wsX2_readMill (wsV RX2 49 RX2 yX2_takeNumber wsX2_takeNumber) := goodIn_app (goodIn_of _ (by decide +kernel)) ggX2_readMill_X2_takeNumber
set_option maxRecDepth 20000 in
theorem ggX2_readMill_X3_isTaken : GoodIn wsX2_readMill wsX3_isTaken := goodIn_r _ [140, 141, 142, 143, 144, 149, 150, 151, 152, 153, 154, 162, 163, 164, 165, 166, 167, 168, 169, 170, 171, 172, 173] (by decide +kernel) (by decide +kernel)
set_option maxRecDepth 20000 in
theorem gX2_readMill_X3_isTaken : GoodIn wsX2_readMill (wsV RX2 95 RX3 yX3_isTaken wsX3_isTaken) := goodIn_app (goodIn_of _ (by decide +kernel)) ggX2_readMill_X3_isTaken
set_option maxRecDepth 20000 in
theorem ggX2_readMill_X2_takeSign : GoodIn wsX2_readMill wsX2_takeSign := goodIn_r _ [148, 5, 85, 86, 87, 15, 88, 2, 76, 77, 78, 79, 18, 80, 89, 90, 91, 92, 17, 19, 93, 6, 94, 95, 96, 97, 23, 98, 25, 26, 99, 100, 101, 102, 103, 104, 105, 106, 107, 108, 109, 110, 155, 156, 157, 158, 159, 160, 161, 174, 175] (by decide +kernel) (by decide +kernel)
set_option maxRecDepth 20000 in
theorem gX2_readMill_X2_takeSign : GoodIn wsX2_readMill (wsV RX2 62 RX2 yX2_takeSign wsX2_takeSign) := goodIn_app (goodIn_of _ (by decide +kernel)) ggX2_readMill_X2_takeSign
theorem dX2_readMill_0 : decode cX2_readMill 0 = .ok (.aload_n 1, 1) := by decide +kernel
theorem dX2_readMill_1 : decode cX2_readMill 1 = .ok (.getfield 22, 3) := by decide +kernel
theorem dX2_readMill_4 : decode cX2_readMill 4 = .ok (.bipush 8, 2) := by decide +kernel
theorem dX2_readMill_6 : decode cX2_readMill 6 = .ok (.if_icmp .lt 7, 3) := by decide +kernel
theorem dX2_readMill_9 : decode cX2_readMill 9 = .ok (.iconst 1, 1) := by decide +kernel
theorem dX2_readMill_10 : decode cX2_readMill 10 = .ok (.goto 4, 3) := by decide +kernel
theorem dX2_readMill_13 : decode cX2_readMill 13 = .ok (.iconst 0, 1) := by decide +kernel
theorem dX2_readMill_14 : decode cX2_readMill 14 = .ok (.istore_n 2, 1) := by decide +kernel
theorem dX2_readMill_15 : decode cX2_readMill 15 = .ok (.iload_n 2, 1) := by decide +kernel
theorem dX2_readMill_16 : decode cX2_readMill 16 = .ok (.ifCond .eq 17, 3) := by decide +kernel
theorem dX2_readMill_19 : decode cX2_readMill 19 = .ok (.aload_n 0, 1) := by decide +kernel
theorem dX2_readMill_20 : decode cX2_readMill 20 = .ok (.ldc 65, 2) := by decide +kernel
theorem dX2_readMill_22 : decode cX2_readMill 22 = .ok (.invokevirtual 67, 3) := by decide +kernel
theorem dX2_readMill_25 : decode cX2_readMill 25 = .ok (.ifCond .eq 8, 3) := by decide +kernel
theorem dX2_readMill_28 : decode cX2_readMill 28 = .ok (.aload_n 0, 1) := by decide +kernel
theorem dX2_readMill_29 : decode cX2_readMill 29 = .ok (.iconst 3, 1) := by decide +kernel
theorem dX2_readMill_30 : decode cX2_readMill 30 = .ok (.invokevirtual 71, 3) := by decide +kernel
theorem dX2_readMill_33 : decode cX2_readMill 33 = .ok (.aload_n 0, 1) := by decide +kernel
theorem dX2_readMill_34 : decode cX2_readMill 34 = .ok (.ldc 65, 2) := by decide +kernel
theorem dX2_readMill_36 : decode cX2_readMill 36 = .ok (.invokevirtual 45, 3) := by decide +kernel
theorem dX2_readMill_39 : decode cX2_readMill 39 = .ok (.iload_n 2, 1) := by decide +kernel
theorem dX2_readMill_40 : decode cX2_readMill 40 = .ok (.ifCond .ne 10, 3) := by decide +kernel
theorem dX2_readMill_43 : decode cX2_readMill 43 = .ok (.aload_n 0, 1) := by decide +kernel
theorem dX2_readMill_44 : decode cX2_readMill 44 = .ok (.getfield 19, 3) := by decide +kernel
theorem dX2_readMill_47 : decode cX2_readMill 47 = .ok (.ifCond .eq 4, 3) := by decide +kernel
theorem dX2_readMill_50 : decode cX2_readMill 50 = .ok (.return_, 1) := by decide +kernel
theorem dX2_readMill_51 : decode cX2_readMill 51 = .ok (.aload_n 1, 1) := by decide +kernel
theorem dX2_readMill_52 : decode cX2_readMill 52 = .ok (.getfield 75, 3) := by decide +kernel
theorem dX2_readMill_55 : decode cX2_readMill 55 = .ok (.aload_n 1, 1) := by decide +kernel
theorem dX2_readMill_56 : decode cX2_readMill 56 = .ok (.getfield 22, 3) := by decide +kernel
theorem dX2_readMill_59 : decode cX2_readMill 59 = .ok (.aaload, 1) := by decide +kernel
theorem dX2_readMill_60 : decode cX2_readMill 60 = .ok (.astore_n 3, 1) := by decide +kernel
theorem dX2_readMill_61 : decode cX2_readMill 61 = .ok (.aload_n 3, 1) := by decide +kernel
theorem dX2_readMill_62 : decode cX2_readMill 62 = .ok (.aload_n 1, 1) := by decide +kernel
theorem dX2_readMill_63 : decode cX2_readMill 63 = .ok (.getfield 22, 3) := by decide +kernel
theorem dX2_readMill_66 : decode cX2_readMill 66 = .ok (.aload_n 0, 1) := by decide +kernel
theorem dX2_readMill_67 : decode cX2_readMill 67 = .ok (.invokevirtual 79, 3) := by decide +kernel
theorem dX2_readMill_70 : decode cX2_readMill 70 = .ok (.invokevirtual 83, 3) := by decide +kernel
theorem dX2_readMill_73 : decode cX2_readMill 73 = .ok (.aload_n 3, 1) := by decide +kernel
theorem dX2_readMill_74 : decode cX2_readMill 74 = .ok (.aload_n 0, 1) := by decide +kernel
theorem dX2_readMill_75 : decode cX2_readMill 75 = .ok (.iconst 0, 1) := by decide +kernel
theorem dX2_readMill_76 : decode cX2_readMill 76 = .ok (.bipush 20, 2) := by decide +kernel
theorem dX2_readMill_78 : decode cX2_readMill 78 = .ok (.invokevirtual 49, 3) := by decide +kernel
theorem dX2_readMill_81 : decode cX2_readMill 81 = .ok (.putfield 89, 3) := by decide +kernel
theorem dX2_readMill_84 : decode cX2_readMill 84 = .ok (.aload_n 0, 1) := by decide +kernel
theorem dX2_readMill_85 : decode cX2_readMill 85 = .ok (.getfield 40, 3) := by decide +kernel
theorem dX2_readMill_88 : decode cX2_readMill 88 = .ok (.iconst 2, 1) := by decide +kernel
theorem dX2_readMill_89 : decode cX2_readMill 89 = .ok (.if_icmp .ne 23, 3) := by decide +kernel
theorem dX2_readMill_92 : decode cX2_readMill 92 = .ok (.aload_n 1, 1) := by decide +kernel
theorem dX2_readMill_93 : decode cX2_readMill 93 = .ok (.aload_n 3, 1) := by decide +kernel
theorem dX2_readMill_94 : decode cX2_readMill 94 = .ok (.getfield 89, 3) := by decide +kernel
theorem dX2_readMill_97 : decode cX2_readMill 97 = .ok (.aload_n 0, 1) := by decide +kernel
theorem dX2_readMill_98 : decode cX2_readMill 98 = .ok (.getfield 92, 3) := by decide +kernel
theorem dX2_readMill_101 : decode cX2_readMill 101 = .ok (.invokevirtual 95, 3) := by decide +kernel
theorem dX2_readMill_104 : decode cX2_readMill 104 = .ok (.ifCond .eq 8, 3) := by decide +kernel
theorem dX2_readMill_107 : decode cX2_readMill 107 = .ok (.aload_n 0, 1) := by decide +kernel
theorem dX2_readMill_108 : decode cX2_readMill 108 = .ok (.iconst 2, 1) := by decide +kernel
theorem dX2_readMill_109 : decode cX2_readMill 109 = .ok (.invokevirtual 71, 3) := by decide +kernel
theorem dX2_readMill_112 : decode cX2_readMill 112 = .ok (.aload_n 3, 1) := by decide +kernel
theorem dX2_readMill_113 : decode cX2_readMill 113 = .ok (.aload_n 0, 1) := by decide +kernel
theorem dX2_readMill_114 : decode cX2_readMill 114 = .ok (.iconst 0, 1) := by decide +kernel
theorem dX2_readMill_115 : decode cX2_readMill 115 = .ok (.bipush 20, 2) := by decide +kernel
theorem dX2_readMill_117 : decode cX2_readMill 117 = .ok (.invokevirtual 49, 3) := by decide +kernel
theorem dX2_readMill_120 : decode cX2_readMill 120 = .ok (.putfield 99, 3) := by decide +kernel
theorem dX2_readMill_123 : decode cX2_readMill 123 = .ok (.aload_n 3, 1) := by decide +kernel
theorem dX2_readMill_124 : decode cX2_readMill 124 = .ok (.aload_n 0, 1) := by decide +kernel
theorem dX2_readMill_125 : decode cX2_readMill 125 = .ok (.iconst 1, 1) := by decide +kernel
theorem dX2_readMill_126 : decode cX2_readMill 126 = .ok (.bipush 9, 2) := by decide +kernel
theorem dX2_readMill_128 : decode cX2_readMill 128 = .ok (.invokevirtual 49, 3) := by decide +kernel
theorem dX2_readMill_131 : decode cX2_readMill 131 = .ok (.putfield 102, 3) := by decide +kernel
theorem dX2_readMill_134 : decode cX2_readMill 134 = .ok (.aload_n 3, 1) := by decide +kernel
theorem dX2_readMill_135 : decode cX2_readMill 135 = .ok (.aload_n 0, 1) := by decide +kernel
theorem dX2_readMill_136 : decode cX2_readMill 136 = .ok (.iconst 1, 1) := by decide +kernel
theorem dX2_readMill_137 : decode cX2_readMill 137 = .ok (.bipush 9, 2) := by decide +kernel
theorem dX2_readMill_139 : decode cX2_readMill 139 = .ok (.invokevirtual 49, 3) := by decide +kernel
theorem dX2_readMill_142 : decode cX2_readMill 142 = .ok (.putfield 105, 3) := by decide +kernel
theorem dX2_readMill_145 : decode cX2_readMill 145 = .ok (.aload_n 3, 1) := by decide +kernel
theorem dX2_readMill_146 : decode cX2_readMill 146 = .ok (.aload_n 0, 1) := by decide +kernel
theorem dX2_readMill_147 : decode cX2_readMill 147 = .ok (.iconst 0, 1) := by decide +kernel
theorem dX2_readMill_148 : decode cX2_readMill 148 = .ok (.bipush 99, 2) := by decide +kernel
theorem dX2_readMill_150 : decode cX2_readMill 150 = .ok (.invokevirtual 49, 3) := by decide +kernel
theorem dX2_readMill_153 : decode cX2_readMill 153 = .ok (.putfield 108, 3) := by decide +kernel
theorem dX2_readMill_156 : decode cX2_readMill 156 = .ok (.aload_n 3, 1) := by decide +kernel
theorem dX2_readMill_157 : decode cX2_readMill 157 = .ok (.aload_n 0, 1) := by decide +kernel
theorem dX2_readMill_158 : decode cX2_readMill 158 = .ok (.iconst 0, 1) := by decide +kernel
theorem dX2_readMill_159 : decode cX2_readMill 159 = .ok (.sipush 999, 3) := by decide +kernel
theorem dX2_readMill_162 : decode cX2_readMill 162 = .ok (.invokevirtual 49, 3) := by decide +kernel
theorem dX2_readMill_165 : decode cX2_readMill 165 = .ok (.putfield 111, 3) := by decide +kernel
theorem dX2_readMill_168 : decode cX2_readMill 168 = .ok (.aload_n 0, 1) := by decide +kernel
theorem dX2_readMill_169 : decode cX2_readMill 169 = .ok (.invokevirtual 62, 3) := by decide +kernel
theorem dX2_readMill_172 : decode cX2_readMill 172 = .ok (.aload_n 1, 1) := by decide +kernel
theorem dX2_readMill_173 : decode cX2_readMill 173 = .ok (.dup, 1) := by decide +kernel
theorem dX2_readMill_174 : decode cX2_readMill 174 = .ok (.getfield 22, 3) := by decide +kernel
theorem dX2_readMill_177 : decode cX2_readMill 177 = .ok (.iconst 1, 1) := by decide +kernel
theorem dX2_readMill_178 : decode cX2_readMill 178 = .ok (.iadd, 1) := by decide +kernel
theorem dX2_readMill_179 : decode cX2_readMill 179 = .ok (.putfield 22, 3) := by decide +kernel
theorem dX2_readMill_182 : decode cX2_readMill 182 = .ok (.return_, 1) := by decide +kernel
theorem dX2_refuse_0 : decode cX2_refuse 0 = .ok (.aload_n 0, 1) := by decide +kernel
theorem dX2_refuse_1 : decode cX2_refuse 1 = .ok (.getfield 19, 3) := by decide +kernel
theorem dX2_refuse_4 : decode cX2_refuse 4 = .ok (.ifCond .ne 16, 3) := by decide +kernel
theorem dX2_refuse_7 : decode cX2_refuse 7 = .ok (.aload_n 0, 1) := by decide +kernel
theorem dX2_refuse_8 : decode cX2_refuse 8 = .ok (.iload_n 1, 1) := by decide +kernel
theorem dX2_refuse_9 : decode cX2_refuse 9 = .ok (.putfield 19, 3) := by decide +kernel
theorem dX2_refuse_12 : decode cX2_refuse 12 = .ok (.aload_n 0, 1) := by decide +kernel
theorem dX2_refuse_13 : decode cX2_refuse 13 = .ok (.aload_n 0, 1) := by decide +kernel
theorem dX2_refuse_14 : decode cX2_refuse 14 = .ok (.getfield 114, 3) := by decide +kernel
theorem dX2_refuse_17 : decode cX2_refuse 17 = .ok (.putfield 117, 3) := by decide +kernel
theorem dX2_refuse_20 : decode cX2_refuse 20 = .ok (.return_, 1) := by decide +kernel
set_option maxRecDepth 20000 in
theorem ggX2_takeName_X2_isName : GoodIn wsX2_takeName wsX2_isName := goodIn_r _ [5, 6, 7, 8, 9, 10, 11, 12, 13, 14, 15, 16, 17, 18, 19, 20, 21, 22, 23, 24, 25, 26, 27, 28, 29, 30, 31, 32, 33, 34, 35, 36, 37, 38, 39, 40, 41, 42, 43, 44, 45, 46, 47, 48, 49, 50, 51, 52, 53, 54, 55, 56, 57, 58, 59, 60, 61, 62, 63, 64, 65, 99, 100, 101, 102, 103, 104, 105, 106, 107] (by decide +kernel) (by decide +kernel)
set_option maxRecDepth 20000 in
theorem gX2_takeName_X2_isName : GoodIn wsX2_takeName (wsV RX2 67 RX2 yX2_isName wsX2_isName) := goodIn_app (goodIn_of _ (by decide +kernel)) ggX2_takeName_X2_isName
set_option maxRecDepth 20000 in
theorem ggX2_takeName_X2_take : GoodIn wsX2_takeName wsX2_take := goodIn_r _ [69, 70, 71, 72, 73, 4, 74, 8, 75, 76, 77, 78, 79, 7, 9, 80, 6, 81, 82, 83, 84, 85, 13, 86, 15, 16, 87, 88, 89, 90, 91, 92, 93, 94, 95, 96, 97, 98, 99, 100, 101, 102, 103, 104, 105, 106, 107] (by decide +kernel) (by decide +kernel)
set_option maxRecDepth 20000 in
theorem gX2_takeName_X2_take : GoodIn wsX2_takeName (wsV RX2 120 RX2 yX2_take wsX2_take) := goodIn_app (goodIn_of _ (by decide +kernel)) ggX2_takeName_X2_take
theorem dX2_takeName_0 : decode cX2_takeName 0 = .ok (.aload_n 0, 1) := by decide +kernel
theorem dX2_takeName_1 : decode cX2_takeName 1 = .ok (.aload_n 0, 1) := by decide +kernel
theorem dX2_takeName_2 : decode cX2_takeName 2 = .ok (.aload_n 1, 1) := by decide +kernel
theorem dX2_takeName_3 : decode cX2_takeName 3 = .ok (.invokevirtual 67, 3) := by decide +kernel
theorem dX2_takeName_6 : decode cX2_takeName 6 = .ok (.invokevirtual 120, 3) := by decide +kernel
theorem dX2_takeName_9 : decode cX2_takeName 9 = .ok (.return_, 1) := by decide +kernel
set_option maxRecDepth 20000 in
theorem ggX2_takeSign_X2_take : GoodIn wsX2_takeSign wsX2_take := goodIn_r _ [6, 7, 8, 9, 10, 5, 11, 12, 13, 14, 15, 16, 17, 18, 19, 20, 1, 21, 22, 23, 24, 25, 26, 27, 28, 29, 30, 31, 32, 33, 34, 35, 36, 37, 38, 39, 40, 41, 42, 43, 44, 45, 46, 47, 48, 49, 50] (by decide +kernel) (by decide +kernel)
set_option maxRecDepth 20000 in
theorem gX2_takeSign_X2_take : GoodIn wsX2_takeSign (wsV RX2 120 RX2 yX2_take wsX2_take) := goodIn_app (goodIn_of _ (by decide +kernel)) ggX2_takeSign_X2_take
theorem dX2_takeSign_0 : decode cX2_takeSign 0 = .ok (.aload_n 0, 1) := by decide +kernel
theorem dX2_takeSign_1 : decode cX2_takeSign 1 = .ok (.aload_n 0, 1) := by decide +kernel
theorem dX2_takeSign_2 : decode cX2_takeSign 2 = .ok (.getfield 40, 3) := by decide +kernel
theorem dX2_takeSign_5 : decode cX2_takeSign 5 = .ok (.iconst 3, 1) := by decide +kernel
theorem dX2_takeSign_6 : decode cX2_takeSign 6 = .ok (.if_icmp .ne 7, 3) := by decide +kernel
theorem dX2_takeSign_9 : decode cX2_takeSign 9 = .ok (.iconst 1, 1) := by decide +kernel
theorem dX2_takeSign_10 : decode cX2_takeSign 10 = .ok (.goto 4, 3) := by decide +kernel
theorem dX2_takeSign_13 : decode cX2_takeSign 13 = .ok (.iconst 0, 1) := by decide +kernel
theorem dX2_takeSign_14 : decode cX2_takeSign 14 = .ok (.invokevirtual 120, 3) := by decide +kernel
theorem dX2_takeSign_17 : decode cX2_takeSign 17 = .ok (.return_, 1) := by decide +kernel
set_option maxRecDepth 20000 in
theorem ggX2_takeSort_X2_sortName : GoodIn wsX2_takeSort wsX2_sortName := goodIn_r _ [4] (by decide +kernel) (by decide +kernel)
set_option maxRecDepth 20000 in
theorem gX2_takeSort_X2_sortName : GoodIn wsX2_takeSort (va_wsS RX2 123 yX2_sortName wsX2_sortName) := goodIn_app (goodIn_of _ (by decide +kernel)) ggX2_takeSort_X2_sortName
set_option maxRecDepth 20000 in
theorem ggX2_takeSort_X2_isName : GoodIn wsX2_takeSort wsX2_isName := goodIn_r _ [8, 9, 10, 11, 12, 13, 14, 15, 16, 17, 18, 19, 20, 21, 22, 23, 24, 25, 26, 27, 28, 29, 30, 31, 32, 33, 34, 35, 36, 37, 38, 39, 40, 41, 42, 43, 44, 45, 46, 47, 48, 49, 50, 51, 52, 53, 54, 55, 56, 57, 58, 59, 60, 61, 62, 63, 64, 65, 66, 67, 68, 102, 103, 104, 105, 106, 107, 108, 109, 110] (by decide +kernel) (by decide +kernel)
set_option maxRecDepth 20000 in
theorem gX2_takeSort_X2_isName : GoodIn wsX2_takeSort (wsV RX2 67 RX2 yX2_isName wsX2_isName) := goodIn_app (goodIn_of _ (by decide +kernel)) ggX2_takeSort_X2_isName
set_option maxRecDepth 20000 in
theorem ggX2_takeSort_X2_take : GoodIn wsX2_takeSort wsX2_take := goodIn_r _ [72, 73, 74, 75, 76, 3, 77, 11, 78, 79, 80, 81, 82, 10, 12, 83, 9, 84, 85, 86, 87, 88, 16, 89, 18, 19, 90, 91, 92, 93, 94, 95, 96, 97, 98, 99, 100, 101, 102, 103, 104, 105, 106, 107, 108, 109, 110] (by decide +kernel) (by decide +kernel)
set_option maxRecDepth 20000 in
theorem gX2_takeSort_X2_take : GoodIn wsX2_takeSort (wsV RX2 120 RX2 yX2_take wsX2_take) := goodIn_app (goodIn_of _ (by decide +kernel)) ggX2_takeSort_X2_take
theorem dX2_takeSort_0 : decode cX2_takeSort 0 = .ok (.iconst 0, 1) := by decide +kernel
theorem dX2_takeSort_1 : decode cX2_takeSort 1 = .ok (.istore_n 1, 1) := by decide +kernel
theorem dX2_takeSort_2 : decode cX2_takeSort 2 = .ok (.iconst 1, 1) := by decide +kernel
theorem dX2_takeSort_3 : decode cX2_takeSort 3 = .ok (.istore_n 2, 1) := by decide +kernel
theorem dX2_takeSort_4 : decode cX2_takeSort 4 = .ok (.iload_n 2, 1) := by decide +kernel
theorem dX2_takeSort_5 : decode cX2_takeSort 5 = .ok (.iconst 5, 1) := by decide +kernel
theorem dX2_takeSort_6 : decode cX2_takeSort 6 = .ok (.if_icmp .gt 22, 3) := by decide +kernel
theorem dX2_takeSort_9 : decode cX2_takeSort 9 = .ok (.aload_n 0, 1) := by decide +kernel
theorem dX2_takeSort_10 : decode cX2_takeSort 10 = .ok (.iload_n 2, 1) := by decide +kernel
theorem dX2_takeSort_11 : decode cX2_takeSort 11 = .ok (.invokestatic 123, 3) := by decide +kernel
theorem dX2_takeSort_14 : decode cX2_takeSort 14 = .ok (.invokevirtual 67, 3) := by decide +kernel
theorem dX2_takeSort_17 : decode cX2_takeSort 17 = .ok (.ifCond .eq 5, 3) := by decide +kernel
theorem dX2_takeSort_20 : decode cX2_takeSort 20 = .ok (.iload_n 2, 1) := by decide +kernel
theorem dX2_takeSort_21 : decode cX2_takeSort 21 = .ok (.istore_n 1, 1) := by decide +kernel
theorem dX2_takeSort_22 : decode cX2_takeSort 22 = .ok (.iinc 2 1, 3) := by decide +kernel
theorem dX2_takeSort_25 : decode cX2_takeSort 25 = .ok (.goto (-21), 3) := by decide +kernel
theorem dX2_takeSort_28 : decode cX2_takeSort 28 = .ok (.aload_n 0, 1) := by decide +kernel
theorem dX2_takeSort_29 : decode cX2_takeSort 29 = .ok (.iload_n 1, 1) := by decide +kernel
theorem dX2_takeSort_30 : decode cX2_takeSort 30 = .ok (.ifCond .eq 7, 3) := by decide +kernel
theorem dX2_takeSort_33 : decode cX2_takeSort 33 = .ok (.iconst 1, 1) := by decide +kernel
theorem dX2_takeSort_34 : decode cX2_takeSort 34 = .ok (.goto 4, 3) := by decide +kernel
theorem dX2_takeSort_37 : decode cX2_takeSort 37 = .ok (.iconst 0, 1) := by decide +kernel
theorem dX2_takeSort_38 : decode cX2_takeSort 38 = .ok (.invokevirtual 120, 3) := by decide +kernel
theorem dX2_takeSort_41 : decode cX2_takeSort 41 = .ok (.iload_n 1, 1) := by decide +kernel
theorem dX2_takeSort_42 : decode cX2_takeSort 42 = .ok (.ireturn, 1) := by decide +kernel
set_option maxRecDepth 20000 in
theorem ggX2_takeNumber_X7_isWithin : GoodIn wsX2_takeNumber wsX7_isWithin := goodIn_r _ [5] (by decide +kernel) (by decide +kernel)
set_option maxRecDepth 20000 in
theorem gX2_takeNumber_X7_isWithin_n127 : GoodIn wsX2_takeNumber (wsX7_isWithin) := ggX2_takeNumber_X7_isWithin
set_option maxRecDepth 20000 in
theorem ggX2_takeNumber_X2_refuse : GoodIn wsX2_takeNumber wsX2_refuse := goodIn_r _ [10, 11, 12, 13, 45, 46, 47, 48, 49, 50, 51] (by decide +kernel) (by decide +kernel)
set_option maxRecDepth 20000 in
theorem gX2_takeNumber_X2_refuse : GoodIn wsX2_takeNumber (wsV RX2 71 RX2 yX2_refuse wsX2_refuse) := goodIn_app (goodIn_of _ (by decide +kernel)) ggX2_takeNumber_X2_refuse
set_option maxRecDepth 20000 in
theorem ggX2_takeNumber_X2_take : GoodIn wsX2_takeNumber wsX2_take := goodIn_r _ [17, 11, 6, 7, 8, 9, 10, 12, 13, 18, 19, 20, 21, 22, 23, 24, 1, 2, 25, 26, 27, 28, 29, 30, 31, 32, 33, 34, 35, 36, 37, 38, 39, 40, 41, 42, 43, 44, 45, 46, 47, 48, 49, 50, 51, 52, 53] (by decide +kernel) (by decide +kernel)
set_option maxRecDepth 20000 in
theorem gX2_takeNumber_X2_take : GoodIn wsX2_takeNumber (wsV RX2 120 RX2 yX2_take wsX2_take) := goodIn_app (goodIn_of _ (by decide +kernel)) ggX2_takeNumber_X2_take
theorem dX2_takeNumber_0 : decode cX2_takeNumber 0 = .ok (.aload_n 0, 1) := by decide +kernel
theorem dX2_takeNumber_1 : decode cX2_takeNumber 1 = .ok (.getfield 40, 3) := by decide +kernel
theorem dX2_takeNumber_4 : decode cX2_takeNumber 4 = .ok (.iconst 2, 1) := by decide +kernel
theorem dX2_takeNumber_5 : decode cX2_takeNumber 5 = .ok (.if_icmp .ne 20, 3) := by decide +kernel
theorem dX2_takeNumber_8 : decode cX2_takeNumber 8 = .ok (.aload_n 0, 1) := by decide +kernel
theorem dX2_takeNumber_9 : decode cX2_takeNumber 9 = .ok (.getfield 92, 3) := by decide +kernel
theorem dX2_takeNumber_12 : decode cX2_takeNumber 12 = .ok (.iload_n 1, 1) := by decide +kernel
theorem dX2_takeNumber_13 : decode cX2_takeNumber 13 = .ok (.iload_n 2, 1) := by decide +kernel
theorem dX2_takeNumber_14 : decode cX2_takeNumber 14 = .ok (.invokestatic 127, 3) := by decide +kernel
theorem dX2_takeNumber_17 : decode cX2_takeNumber 17 = .ok (.ifCond .ne 8, 3) := by decide +kernel
theorem dX2_takeNumber_20 : decode cX2_takeNumber 20 = .ok (.aload_n 0, 1) := by decide +kernel
theorem dX2_takeNumber_21 : decode cX2_takeNumber 21 = .ok (.iconst 2, 1) := by decide +kernel
theorem dX2_takeNumber_22 : decode cX2_takeNumber 22 = .ok (.invokevirtual 71, 3) := by decide +kernel
theorem dX2_takeNumber_25 : decode cX2_takeNumber 25 = .ok (.aload_n 0, 1) := by decide +kernel
theorem dX2_takeNumber_26 : decode cX2_takeNumber 26 = .ok (.getfield 92, 3) := by decide +kernel
theorem dX2_takeNumber_29 : decode cX2_takeNumber 29 = .ok (.istore_n 3, 1) := by decide +kernel
theorem dX2_takeNumber_30 : decode cX2_takeNumber 30 = .ok (.aload_n 0, 1) := by decide +kernel
theorem dX2_takeNumber_31 : decode cX2_takeNumber 31 = .ok (.aload_n 0, 1) := by decide +kernel
theorem dX2_takeNumber_32 : decode cX2_takeNumber 32 = .ok (.getfield 40, 3) := by decide +kernel
theorem dX2_takeNumber_35 : decode cX2_takeNumber 35 = .ok (.iconst 2, 1) := by decide +kernel
theorem dX2_takeNumber_36 : decode cX2_takeNumber 36 = .ok (.if_icmp .ne 7, 3) := by decide +kernel
theorem dX2_takeNumber_39 : decode cX2_takeNumber 39 = .ok (.iconst 1, 1) := by decide +kernel
theorem dX2_takeNumber_40 : decode cX2_takeNumber 40 = .ok (.goto 4, 3) := by decide +kernel
theorem dX2_takeNumber_43 : decode cX2_takeNumber 43 = .ok (.iconst 0, 1) := by decide +kernel
theorem dX2_takeNumber_44 : decode cX2_takeNumber 44 = .ok (.invokevirtual 120, 3) := by decide +kernel
theorem dX2_takeNumber_47 : decode cX2_takeNumber 47 = .ok (.iload_n 3, 1) := by decide +kernel
theorem dX2_takeNumber_48 : decode cX2_takeNumber 48 = .ok (.ireturn, 1) := by decide +kernel
set_option maxRecDepth 20000 in
theorem ggX2_take_X2_refuse : GoodIn wsX2_take wsX2_refuse := goodIn_r _ [6, 1, 7, 8, 38, 39, 40, 41, 42, 43, 44] (by decide +kernel) (by decide +kernel)
set_option maxRecDepth 20000 in
theorem gX2_take_X2_refuse : GoodIn wsX2_take (wsV RX2 71 RX2 yX2_refuse wsX2_refuse) := goodIn_app (goodIn_of _ (by decide +kernel)) ggX2_take_X2_refuse
set_option maxRecDepth 20000 in
theorem ggX2_take_X2_step : GoodIn wsX2_take wsX2_step := goodIn_r _ [12, 13, 14, 7, 15, 16, 17, 18, 19, 20, 21, 22, 23, 24, 25, 26, 27, 28, 29, 30, 31, 32, 33, 34, 35, 36, 37, 38, 39, 40, 41, 42, 43, 44, 45, 46] (by decide +kernel) (by decide +kernel)
set_option maxRecDepth 20000 in
theorem gX2_take_X2_step : GoodIn wsX2_take (wsV RX2 30 RX2 yX2_step wsX2_step) := goodIn_app (goodIn_of _ (by decide +kernel)) ggX2_take_X2_step
theorem dX2_take_0 : decode cX2_take 0 = .ok (.iload_n 1, 1) := by decide +kernel
theorem dX2_take_1 : decode cX2_take 1 = .ok (.ifCond .ne 8, 3) := by decide +kernel
theorem dX2_take_4 : decode cX2_take 4 = .ok (.aload_n 0, 1) := by decide +kernel
theorem dX2_take_5 : decode cX2_take 5 = .ok (.iconst 1, 1) := by decide +kernel
theorem dX2_take_6 : decode cX2_take 6 = .ok (.invokevirtual 71, 3) := by decide +kernel
theorem dX2_take_9 : decode cX2_take 9 = .ok (.aload_n 0, 1) := by decide +kernel
theorem dX2_take_10 : decode cX2_take 10 = .ok (.getfield 19, 3) := by decide +kernel
theorem dX2_take_13 : decode cX2_take 13 = .ok (.ifCond .ne 7, 3) := by decide +kernel
theorem dX2_take_16 : decode cX2_take 16 = .ok (.aload_n 0, 1) := by decide +kernel
theorem dX2_take_17 : decode cX2_take 17 = .ok (.invokevirtual 30, 3) := by decide +kernel
theorem dX2_take_20 : decode cX2_take 20 = .ok (.return_, 1) := by decide +kernel
set_option maxRecDepth 20000 in
theorem ggX2_isName_X5_tells : GoodIn wsX2_isName wsX5_tells := goodIn_r _ [9, 10, 11, 12, 13, 14, 15, 16, 17, 18, 19, 20, 21, 22, 23, 24, 25, 26, 27, 28, 29, 30, 31, 32, 33, 34, 35, 36, 37, 38, 39, 40, 41, 42, 43, 44, 45, 46, 47, 48, 49, 50, 51, 52, 53, 54, 55, 56, 57, 58, 59, 60, 68, 69] (by decide +kernel) (by decide +kernel)
set_option maxRecDepth 20000 in
theorem gX2_isName_X5_tells : GoodIn wsX2_isName (wsV RX2 131 RX5 yX5_tells wsX5_tells) := goodIn_app (goodIn_of _ (by decide +kernel)) ggX2_isName_X5_tells
theorem dX2_isName_0 : decode cX2_isName 0 = .ok (.aload_n 0, 1) := by decide +kernel
theorem dX2_isName_1 : decode cX2_isName 1 = .ok (.getfield 40, 3) := by decide +kernel
theorem dX2_isName_4 : decode cX2_isName 4 = .ok (.iconst 1, 1) := by decide +kernel
theorem dX2_isName_5 : decode cX2_isName 5 = .ok (.if_icmp .ne 26, 3) := by decide +kernel
theorem dX2_isName_8 : decode cX2_isName 8 = .ok (.aload_n 0, 1) := by decide +kernel
theorem dX2_isName_9 : decode cX2_isName 9 = .ok (.getfield 9, 3) := by decide +kernel
theorem dX2_isName_12 : decode cX2_isName 12 = .ok (.aload_n 1, 1) := by decide +kernel
theorem dX2_isName_13 : decode cX2_isName 13 = .ok (.aload_n 0, 1) := by decide +kernel
theorem dX2_isName_14 : decode cX2_isName 14 = .ok (.getfield 114, 3) := by decide +kernel
theorem dX2_isName_17 : decode cX2_isName 17 = .ok (.aload_n 0, 1) := by decide +kernel
theorem dX2_isName_18 : decode cX2_isName 18 = .ok (.getfield 15, 3) := by decide +kernel
theorem dX2_isName_21 : decode cX2_isName 21 = .ok (.invokevirtual 131, 3) := by decide +kernel
theorem dX2_isName_24 : decode cX2_isName 24 = .ok (.ifCond .eq 7, 3) := by decide +kernel
theorem dX2_isName_27 : decode cX2_isName 27 = .ok (.iconst 1, 1) := by decide +kernel
theorem dX2_isName_28 : decode cX2_isName 28 = .ok (.goto 4, 3) := by decide +kernel
theorem dX2_isName_31 : decode cX2_isName 31 = .ok (.iconst 0, 1) := by decide +kernel
theorem dX2_isName_32 : decode cX2_isName 32 = .ok (.ireturn, 1) := by decide +kernel
set_option maxRecDepth 20000 in
theorem ggX2_step_X5_blanksEnd : GoodIn wsX2_step wsX5_blanksEnd := goodIn_r _ [12, 13, 14, 34, 35] (by decide +kernel) (by decide +kernel)
set_option maxRecDepth 20000 in
theorem gX2_step_X5_blanksEnd : GoodIn wsX2_step (wsV RX2 137 RX5 yX5_blanksEnd wsX5_blanksEnd) := goodIn_app (goodIn_of _ (by decide +kernel)) ggX2_step_X5_blanksEnd
set_option maxRecDepth 20000 in
theorem ggX2_step_X5_lettersEnd : GoodIn wsX2_step wsX5_lettersEnd := goodIn_r _ [18, 13, 14, 34, 35] (by decide +kernel) (by decide +kernel)
set_option maxRecDepth 20000 in
theorem gX2_step_X5_lettersEnd : GoodIn wsX2_step (wsV RX2 141 RX5 yX5_lettersEnd wsX5_lettersEnd) := goodIn_app (goodIn_of _ (by decide +kernel)) ggX2_step_X5_lettersEnd
set_option maxRecDepth 20000 in
theorem ggX2_step_X5_figuresEnd : GoodIn wsX2_step wsX5_figuresEnd := goodIn_r _ [22, 13, 14, 34, 35] (by decide +kernel) (by decide +kernel)
set_option maxRecDepth 20000 in
theorem gX2_step_X5_figuresEnd : GoodIn wsX2_step (wsV RX2 144 RX5 yX5_figuresEnd wsX5_figuresEnd) := goodIn_app (goodIn_of _ (by decide +kernel)) ggX2_step_X5_figuresEnd
set_option maxRecDepth 20000 in
theorem ggX2_step_X5_valueOf : GoodIn wsX2_step wsX5_valueOf := goodIn_r _ [26, 13, 14, 34, 35] (by decide +kernel) (by decide +kernel)
set_option maxRecDepth 20000 in
theorem gX2_step_X5_valueOf : GoodIn wsX2_step (wsV RX2 150 RX5 yX5_valueOf wsX5_valueOf) := goodIn_app (goodIn_of _ (by decide +kernel)) ggX2_step_X5_valueOf
theorem dX2_step_0 : decode cX2_step 0 = .ok (.aload_n 0, 1) := by decide +kernel
theorem dX2_step_1 : decode cX2_step 1 = .ok (.aload_n 0, 1) := by decide +kernel
theorem dX2_step_2 : decode cX2_step 2 = .ok (.getfield 9, 3) := by decide +kernel
theorem dX2_step_5 : decode cX2_step 5 = .ok (.aload_n 0, 1) := by decide +kernel
theorem dX2_step_6 : decode cX2_step 6 = .ok (.getfield 15, 3) := by decide +kernel
theorem dX2_step_9 : decode cX2_step 9 = .ok (.invokevirtual 137, 3) := by decide +kernel
theorem dX2_step_12 : decode cX2_step 12 = .ok (.putfield 114, 3) := by decide +kernel
theorem dX2_step_15 : decode cX2_step 15 = .ok (.aload_n 0, 1) := by decide +kernel
theorem dX2_step_16 : decode cX2_step 16 = .ok (.getfield 9, 3) := by decide +kernel
theorem dX2_step_19 : decode cX2_step 19 = .ok (.aload_n 0, 1) := by decide +kernel
theorem dX2_step_20 : decode cX2_step 20 = .ok (.getfield 114, 3) := by decide +kernel
theorem dX2_step_23 : decode cX2_step 23 = .ok (.invokevirtual 141, 3) := by decide +kernel
theorem dX2_step_26 : decode cX2_step 26 = .ok (.istore_n 1, 1) := by decide +kernel
theorem dX2_step_27 : decode cX2_step 27 = .ok (.aload_n 0, 1) := by decide +kernel
theorem dX2_step_28 : decode cX2_step 28 = .ok (.getfield 9, 3) := by decide +kernel
theorem dX2_step_31 : decode cX2_step 31 = .ok (.aload_n 0, 1) := by decide +kernel
theorem dX2_step_32 : decode cX2_step 32 = .ok (.getfield 114, 3) := by decide +kernel
theorem dX2_step_35 : decode cX2_step 35 = .ok (.invokevirtual 144, 3) := by decide +kernel
theorem dX2_step_38 : decode cX2_step 38 = .ok (.istore_n 2, 1) := by decide +kernel
theorem dX2_step_39 : decode cX2_step 39 = .ok (.aload_n 0, 1) := by decide +kernel
theorem dX2_step_40 : decode cX2_step 40 = .ok (.getfield 114, 3) := by decide +kernel
theorem dX2_step_43 : decode cX2_step 43 = .ok (.aload_n 0, 1) := by decide +kernel
theorem dX2_step_44 : decode cX2_step 44 = .ok (.getfield 9, 3) := by decide +kernel
theorem dX2_step_47 : decode cX2_step 47 = .ok (.getfield 147, 3) := by decide +kernel
theorem dX2_step_50 : decode cX2_step 50 = .ok (.if_icmp .lt 11, 3) := by decide +kernel
theorem dX2_step_53 : decode cX2_step 53 = .ok (.aload_n 0, 1) := by decide +kernel
theorem dX2_step_54 : decode cX2_step 54 = .ok (.iconst 0, 1) := by decide +kernel
theorem dX2_step_55 : decode cX2_step 55 = .ok (.putfield 40, 3) := by decide +kernel
theorem dX2_step_58 : decode cX2_step 58 = .ok (.goto 115, 3) := by decide +kernel
theorem dX2_step_61 : decode cX2_step 61 = .ok (.iload_n 1, 1) := by decide +kernel
theorem dX2_step_62 : decode cX2_step 62 = .ok (.aload_n 0, 1) := by decide +kernel
theorem dX2_step_63 : decode cX2_step 63 = .ok (.getfield 114, 3) := by decide +kernel
theorem dX2_step_66 : decode cX2_step 66 = .ok (.if_icmp .le 16, 3) := by decide +kernel
theorem dX2_step_69 : decode cX2_step 69 = .ok (.aload_n 0, 1) := by decide +kernel
theorem dX2_step_70 : decode cX2_step 70 = .ok (.iconst 1, 1) := by decide +kernel
theorem dX2_step_71 : decode cX2_step 71 = .ok (.putfield 40, 3) := by decide +kernel
theorem dX2_step_74 : decode cX2_step 74 = .ok (.aload_n 0, 1) := by decide +kernel
theorem dX2_step_75 : decode cX2_step 75 = .ok (.iload_n 1, 1) := by decide +kernel
theorem dX2_step_76 : decode cX2_step 76 = .ok (.putfield 15, 3) := by decide +kernel
theorem dX2_step_79 : decode cX2_step 79 = .ok (.goto 94, 3) := by decide +kernel
theorem dX2_step_82 : decode cX2_step 82 = .ok (.iload_n 2, 1) := by decide +kernel
theorem dX2_step_83 : decode cX2_step 83 = .ok (.aload_n 0, 1) := by decide +kernel
theorem dX2_step_84 : decode cX2_step 84 = .ok (.getfield 114, 3) := by decide +kernel
theorem dX2_step_87 : decode cX2_step 87 = .ok (.isub, 1) := by decide +kernel
theorem dX2_step_88 : decode cX2_step 88 = .ok (.iconst 3, 1) := by decide +kernel
theorem dX2_step_89 : decode cX2_step 89 = .ok (.if_icmp .le 11, 3) := by decide +kernel
theorem dX2_step_92 : decode cX2_step 92 = .ok (.aload_n 0, 1) := by decide +kernel
theorem dX2_step_93 : decode cX2_step 93 = .ok (.iconst 4, 1) := by decide +kernel
theorem dX2_step_94 : decode cX2_step 94 = .ok (.putfield 40, 3) := by decide +kernel
theorem dX2_step_97 : decode cX2_step 97 = .ok (.goto 76, 3) := by decide +kernel
theorem dX2_step_100 : decode cX2_step 100 = .ok (.iload_n 2, 1) := by decide +kernel
theorem dX2_step_101 : decode cX2_step 101 = .ok (.aload_n 0, 1) := by decide +kernel
theorem dX2_step_102 : decode cX2_step 102 = .ok (.getfield 114, 3) := by decide +kernel
theorem dX2_step_105 : decode cX2_step 105 = .ok (.if_icmp .le 32, 3) := by decide +kernel
theorem dX2_step_108 : decode cX2_step 108 = .ok (.aload_n 0, 1) := by decide +kernel
theorem dX2_step_109 : decode cX2_step 109 = .ok (.iconst 2, 1) := by decide +kernel
theorem dX2_step_110 : decode cX2_step 110 = .ok (.putfield 40, 3) := by decide +kernel
theorem dX2_step_113 : decode cX2_step 113 = .ok (.aload_n 0, 1) := by decide +kernel
theorem dX2_step_114 : decode cX2_step 114 = .ok (.aload_n 0, 1) := by decide +kernel
theorem dX2_step_115 : decode cX2_step 115 = .ok (.getfield 9, 3) := by decide +kernel
theorem dX2_step_118 : decode cX2_step 118 = .ok (.aload_n 0, 1) := by decide +kernel
theorem dX2_step_119 : decode cX2_step 119 = .ok (.getfield 114, 3) := by decide +kernel
theorem dX2_step_122 : decode cX2_step 122 = .ok (.iload_n 2, 1) := by decide +kernel
theorem dX2_step_123 : decode cX2_step 123 = .ok (.invokevirtual 150, 3) := by decide +kernel
theorem dX2_step_126 : decode cX2_step 126 = .ok (.putfield 92, 3) := by decide +kernel
theorem dX2_step_129 : decode cX2_step 129 = .ok (.aload_n 0, 1) := by decide +kernel
theorem dX2_step_130 : decode cX2_step 130 = .ok (.iload_n 2, 1) := by decide +kernel
theorem dX2_step_131 : decode cX2_step 131 = .ok (.putfield 15, 3) := by decide +kernel
theorem dX2_step_134 : decode cX2_step 134 = .ok (.goto 39, 3) := by decide +kernel
theorem dX2_step_137 : decode cX2_step 137 = .ok (.aload_n 0, 1) := by decide +kernel
theorem dX2_step_138 : decode cX2_step 138 = .ok (.aload_n 0, 1) := by decide +kernel
theorem dX2_step_139 : decode cX2_step 139 = .ok (.getfield 9, 3) := by decide +kernel
theorem dX2_step_142 : decode cX2_step 142 = .ok (.getfield 153, 3) := by decide +kernel
theorem dX2_step_145 : decode cX2_step 145 = .ok (.aload_n 0, 1) := by decide +kernel
theorem dX2_step_146 : decode cX2_step 146 = .ok (.getfield 114, 3) := by decide +kernel
theorem dX2_step_149 : decode cX2_step 149 = .ok (.baload, 1) := by decide +kernel
theorem dX2_step_150 : decode cX2_step 150 = .ok (.bipush 59, 2) := by decide +kernel
theorem dX2_step_152 : decode cX2_step 152 = .ok (.if_icmp .ne 7, 3) := by decide +kernel
theorem dX2_step_155 : decode cX2_step 155 = .ok (.iconst 3, 1) := by decide +kernel
theorem dX2_step_156 : decode cX2_step 156 = .ok (.goto 4, 3) := by decide +kernel
theorem dX2_step_159 : decode cX2_step 159 = .ok (.iconst 4, 1) := by decide +kernel
theorem dX2_step_160 : decode cX2_step 160 = .ok (.putfield 40, 3) := by decide +kernel
theorem dX2_step_163 : decode cX2_step 163 = .ok (.aload_n 0, 1) := by decide +kernel
theorem dX2_step_164 : decode cX2_step 164 = .ok (.aload_n 0, 1) := by decide +kernel
theorem dX2_step_165 : decode cX2_step 165 = .ok (.getfield 114, 3) := by decide +kernel
theorem dX2_step_168 : decode cX2_step 168 = .ok (.iconst 1, 1) := by decide +kernel
theorem dX2_step_169 : decode cX2_step 169 = .ok (.iadd, 1) := by decide +kernel
theorem dX2_step_170 : decode cX2_step 170 = .ok (.putfield 15, 3) := by decide +kernel
theorem dX2_step_173 : decode cX2_step 173 = .ok (.return_, 1) := by decide +kernel
theorem dX2_sortName_0 : decode cX2_sortName 0 = .ok (.iload_n 0, 1) := by decide +kernel
theorem dX2_sortName_1 : decode cX2_sortName 1 = .ok (.tableswitch 43 1 4 #[31, 34, 37, 40], 31) := by decide +kernel
theorem dX2_sortName_32 : decode cX2_sortName 32 = .ok (.ldc 157, 2) := by decide +kernel
theorem dX2_sortName_34 : decode cX2_sortName 34 = .ok (.areturn, 1) := by decide +kernel
theorem dX2_sortName_35 : decode cX2_sortName 35 = .ok (.ldc 159, 2) := by decide +kernel
theorem dX2_sortName_37 : decode cX2_sortName 37 = .ok (.areturn, 1) := by decide +kernel
theorem dX2_sortName_38 : decode cX2_sortName 38 = .ok (.ldc 161, 2) := by decide +kernel
theorem dX2_sortName_40 : decode cX2_sortName 40 = .ok (.areturn, 1) := by decide +kernel
theorem dX2_sortName_41 : decode cX2_sortName 41 = .ok (.ldc 163, 2) := by decide +kernel
theorem dX2_sortName_43 : decode cX2_sortName 43 = .ok (.areturn, 1) := by decide +kernel
theorem dX2_sortName_44 : decode cX2_sortName 44 = .ok (.ldc 165, 2) := by decide +kernel
theorem dX2_sortName_46 : decode cX2_sortName 46 = .ok (.areturn, 1) := by decide +kernel
set_option maxRecDepth 20000 in
theorem ggX3_init_X0_init : GoodIn wsX3_init wsX0_init := goodIn_r _ [9, 10, 2, 3] (by decide +kernel) (by decide +kernel)
set_option maxRecDepth 20000 in
theorem gX3_init_X0_init_n17 : GoodIn wsX3_init (wsX0_init) := ggX3_init_X0_init
theorem dX3_init_0 : decode cX3_init 0 = .ok (.aload_n 0, 1) := by decide +kernel
theorem dX3_init_1 : decode cX3_init 1 = .ok (.invokespecial 3, 3) := by decide +kernel
theorem dX3_init_4 : decode cX3_init 4 = .ok (.aload_n 0, 1) := by decide +kernel
theorem dX3_init_5 : decode cX3_init 5 = .ok (.bipush 8, 2) := by decide +kernel
theorem dX3_init_7 : decode cX3_init 7 = .ok (.anewarray 9, 3) := by decide +kernel
theorem dX3_init_10 : decode cX3_init 10 = .ok (.putfield 11, 3) := by decide +kernel
theorem dX3_init_13 : decode cX3_init 13 = .ok (.iconst 0, 1) := by decide +kernel
theorem dX3_init_14 : decode cX3_init 14 = .ok (.istore_n 1, 1) := by decide +kernel
theorem dX3_init_15 : decode cX3_init 15 = .ok (.iload_n 1, 1) := by decide +kernel
theorem dX3_init_16 : decode cX3_init 16 = .ok (.bipush 8, 2) := by decide +kernel
theorem dX3_init_18 : decode cX3_init 18 = .ok (.if_icmp .ge 22, 3) := by decide +kernel
theorem dX3_init_21 : decode cX3_init 21 = .ok (.aload_n 0, 1) := by decide +kernel
theorem dX3_init_22 : decode cX3_init 22 = .ok (.getfield 11, 3) := by decide +kernel
theorem dX3_init_25 : decode cX3_init 25 = .ok (.iload_n 1, 1) := by decide +kernel
theorem dX3_init_26 : decode cX3_init 26 = .ok (.new 9, 3) := by decide +kernel
theorem dX3_init_29 : decode cX3_init 29 = .ok (.dup, 1) := by decide +kernel
theorem dX3_init_30 : decode cX3_init 30 = .ok (.invokespecial 17, 3) := by decide +kernel
theorem dX3_init_33 : decode cX3_init 33 = .ok (.aastore, 1) := by decide +kernel
theorem dX3_init_34 : decode cX3_init 34 = .ok (.iinc 1 1, 3) := by decide +kernel
theorem dX3_init_37 : decode cX3_init 37 = .ok (.goto (-22), 3) := by decide +kernel
theorem dX3_init_40 : decode cX3_init 40 = .ok (.return_, 1) := by decide +kernel
theorem dX3_isNone_0 : decode cX3_isNone 0 = .ok (.aload_n 0, 1) := by decide +kernel
theorem dX3_isNone_1 : decode cX3_isNone 1 = .ok (.getfield 18, 3) := by decide +kernel
theorem dX3_isNone_4 : decode cX3_isNone 4 = .ok (.ifCond .ne 7, 3) := by decide +kernel
theorem dX3_isNone_7 : decode cX3_isNone 7 = .ok (.iconst 1, 1) := by decide +kernel
theorem dX3_isNone_8 : decode cX3_isNone 8 = .ok (.goto 4, 3) := by decide +kernel
theorem dX3_isNone_11 : decode cX3_isNone 11 = .ok (.iconst 0, 1) := by decide +kernel
theorem dX3_isNone_12 : decode cX3_isNone 12 = .ok (.ireturn, 1) := by decide +kernel
theorem dX3_has_0 : decode cX3_has 0 = .ok (.iload_n 1, 1) := by decide +kernel
theorem dX3_has_1 : decode cX3_has 1 = .ok (.ifCond .lt 15, 3) := by decide +kernel
theorem dX3_has_4 : decode cX3_has 4 = .ok (.iload_n 1, 1) := by decide +kernel
theorem dX3_has_5 : decode cX3_has 5 = .ok (.aload_n 0, 1) := by decide +kernel
theorem dX3_has_6 : decode cX3_has 6 = .ok (.getfield 18, 3) := by decide +kernel
theorem dX3_has_9 : decode cX3_has 9 = .ok (.if_icmp .ge 7, 3) := by decide +kernel
theorem dX3_has_12 : decode cX3_has 12 = .ok (.iconst 1, 1) := by decide +kernel
theorem dX3_has_13 : decode cX3_has 13 = .ok (.goto 4, 3) := by decide +kernel
theorem dX3_has_16 : decode cX3_has 16 = .ok (.iconst 0, 1) := by decide +kernel
theorem dX3_has_17 : decode cX3_has 17 = .ok (.ireturn, 1) := by decide +kernel
set_option maxRecDepth 20000 in
theorem ggX3_become_X0_become : GoodIn wsX3_become wsX0_become := goodIn_r _ [11, 12, 13, 14, 15, 16, 17, 18, 19, 20, 21, 22, 23, 30, 31, 32, 33, 34, 35, 36, 37, 38, 39, 40, 41] (by decide +kernel) (by decide +kernel)
set_option maxRecDepth 20000 in
theorem gX3_become_X0_become : GoodIn wsX3_become (wsV RX3 34 RX0 yX0_become wsX0_become) := goodIn_app (goodIn_of _ (by decide +kernel)) ggX3_become_X0_become
theorem dX3_become_0 : decode cX3_become 0 = .ok (.aload_n 0, 1) := by decide +kernel
theorem dX3_become_1 : decode cX3_become 1 = .ok (.aload_n 1, 1) := by decide +kernel
theorem dX3_become_2 : decode cX3_become 2 = .ok (.getfield 18, 3) := by decide +kernel
theorem dX3_become_5 : decode cX3_become 5 = .ok (.putfield 18, 3) := by decide +kernel
theorem dX3_become_8 : decode cX3_become 8 = .ok (.aload_n 0, 1) := by decide +kernel
theorem dX3_become_9 : decode cX3_become 9 = .ok (.aload_n 1, 1) := by decide +kernel
theorem dX3_become_10 : decode cX3_become 10 = .ok (.getfield 22, 3) := by decide +kernel
theorem dX3_become_13 : decode cX3_become 13 = .ok (.putfield 22, 3) := by decide +kernel
theorem dX3_become_16 : decode cX3_become 16 = .ok (.aload_n 0, 1) := by decide +kernel
theorem dX3_become_17 : decode cX3_become 17 = .ok (.aload_n 1, 1) := by decide +kernel
theorem dX3_become_18 : decode cX3_become 18 = .ok (.getfield 25, 3) := by decide +kernel
theorem dX3_become_21 : decode cX3_become 21 = .ok (.putfield 25, 3) := by decide +kernel
theorem dX3_become_24 : decode cX3_become 24 = .ok (.aload_n 0, 1) := by decide +kernel
theorem dX3_become_25 : decode cX3_become 25 = .ok (.aload_n 1, 1) := by decide +kernel
theorem dX3_become_26 : decode cX3_become 26 = .ok (.getfield 28, 3) := by decide +kernel
theorem dX3_become_29 : decode cX3_become 29 = .ok (.putfield 28, 3) := by decide +kernel
theorem dX3_become_32 : decode cX3_become 32 = .ok (.aload_n 0, 1) := by decide +kernel
theorem dX3_become_33 : decode cX3_become 33 = .ok (.aload_n 1, 1) := by decide +kernel
theorem dX3_become_34 : decode cX3_become 34 = .ok (.getfield 31, 3) := by decide +kernel
theorem dX3_become_37 : decode cX3_become 37 = .ok (.putfield 31, 3) := by decide +kernel
theorem dX3_become_40 : decode cX3_become 40 = .ok (.iconst 0, 1) := by decide +kernel
theorem dX3_become_41 : decode cX3_become 41 = .ok (.istore_n 2, 1) := by decide +kernel
theorem dX3_become_42 : decode cX3_become 42 = .ok (.iload_n 2, 1) := by decide +kernel
theorem dX3_become_43 : decode cX3_become 43 = .ok (.bipush 8, 2) := by decide +kernel
theorem dX3_become_45 : decode cX3_become 45 = .ok (.if_icmp .ge 24, 3) := by decide +kernel
theorem dX3_become_48 : decode cX3_become 48 = .ok (.aload_n 0, 1) := by decide +kernel
theorem dX3_become_49 : decode cX3_become 49 = .ok (.getfield 11, 3) := by decide +kernel
theorem dX3_become_52 : decode cX3_become 52 = .ok (.iload_n 2, 1) := by decide +kernel
theorem dX3_become_53 : decode cX3_become 53 = .ok (.aaload, 1) := by decide +kernel
theorem dX3_become_54 : decode cX3_become 54 = .ok (.aload_n 1, 1) := by decide +kernel
theorem dX3_become_55 : decode cX3_become 55 = .ok (.getfield 11, 3) := by decide +kernel
theorem dX3_become_58 : decode cX3_become 58 = .ok (.iload_n 2, 1) := by decide +kernel
theorem dX3_become_59 : decode cX3_become 59 = .ok (.aaload, 1) := by decide +kernel
theorem dX3_become_60 : decode cX3_become 60 = .ok (.invokevirtual 34, 3) := by decide +kernel
theorem dX3_become_63 : decode cX3_become 63 = .ok (.iinc 2 1, 3) := by decide +kernel
theorem dX3_become_66 : decode cX3_become 66 = .ok (.goto (-24), 3) := by decide +kernel
theorem dX3_become_69 : decode cX3_become 69 = .ok (.return_, 1) := by decide +kernel
theorem dX3_isTaken_0 : decode cX3_isTaken 0 = .ok (.iconst 0, 1) := by decide +kernel
theorem dX3_isTaken_1 : decode cX3_isTaken 1 = .ok (.istore_n 3, 1) := by decide +kernel
theorem dX3_isTaken_2 : decode cX3_isTaken 2 = .ok (.iload_n 3, 1) := by decide +kernel
theorem dX3_isTaken_3 : decode cX3_isTaken 3 = .ok (.aload_n 0, 1) := by decide +kernel
theorem dX3_isTaken_4 : decode cX3_isTaken 4 = .ok (.getfield 18, 3) := by decide +kernel
theorem dX3_isTaken_7 : decode cX3_isTaken 7 = .ok (.if_icmp .ge 37, 3) := by decide +kernel
theorem dX3_isTaken_10 : decode cX3_isTaken 10 = .ok (.aload_n 0, 1) := by decide +kernel
theorem dX3_isTaken_11 : decode cX3_isTaken 11 = .ok (.getfield 11, 3) := by decide +kernel
theorem dX3_isTaken_14 : decode cX3_isTaken 14 = .ok (.iload_n 3, 1) := by decide +kernel
theorem dX3_isTaken_15 : decode cX3_isTaken 15 = .ok (.aaload, 1) := by decide +kernel
theorem dX3_isTaken_16 : decode cX3_isTaken 16 = .ok (.getfield 38, 3) := by decide +kernel
theorem dX3_isTaken_19 : decode cX3_isTaken 19 = .ok (.iload_n 1, 1) := by decide +kernel
theorem dX3_isTaken_20 : decode cX3_isTaken 20 = .ok (.if_icmp .ne 18, 3) := by decide +kernel
theorem dX3_isTaken_23 : decode cX3_isTaken 23 = .ok (.aload_n 0, 1) := by decide +kernel
theorem dX3_isTaken_24 : decode cX3_isTaken 24 = .ok (.getfield 11, 3) := by decide +kernel
theorem dX3_isTaken_27 : decode cX3_isTaken 27 = .ok (.iload_n 3, 1) := by decide +kernel
theorem dX3_isTaken_28 : decode cX3_isTaken 28 = .ok (.aaload, 1) := by decide +kernel
theorem dX3_isTaken_29 : decode cX3_isTaken 29 = .ok (.getfield 41, 3) := by decide +kernel
theorem dX3_isTaken_32 : decode cX3_isTaken 32 = .ok (.iload_n 2, 1) := by decide +kernel
theorem dX3_isTaken_33 : decode cX3_isTaken 33 = .ok (.if_icmp .ne 5, 3) := by decide +kernel
theorem dX3_isTaken_36 : decode cX3_isTaken 36 = .ok (.iconst 1, 1) := by decide +kernel
theorem dX3_isTaken_37 : decode cX3_isTaken 37 = .ok (.ireturn, 1) := by decide +kernel
theorem dX3_isTaken_38 : decode cX3_isTaken 38 = .ok (.iinc 3 1, 3) := by decide +kernel
theorem dX3_isTaken_41 : decode cX3_isTaken 41 = .ok (.goto (-39), 3) := by decide +kernel
theorem dX3_isTaken_44 : decode cX3_isTaken 44 = .ok (.iconst 0, 1) := by decide +kernel
theorem dX3_isTaken_45 : decode cX3_isTaken 45 = .ok (.ireturn, 1) := by decide +kernel
set_option maxRecDepth 20000 in
theorem ggX3_furledSet_X7_bit : GoodIn wsX3_furledSet wsX7_bit := goodIn_r _ [6] (by decide +kernel) (by decide +kernel)
set_option maxRecDepth 20000 in
theorem gX3_furledSet_X7_bit_n48 : GoodIn wsX3_furledSet (wsX7_bit) := ggX3_furledSet_X7_bit
theorem dX3_furledSet_0 : decode cX3_furledSet 0 = .ok (.iconst 0, 1) := by decide +kernel
theorem dX3_furledSet_1 : decode cX3_furledSet 1 = .ok (.istore_n 1, 1) := by decide +kernel
theorem dX3_furledSet_2 : decode cX3_furledSet 2 = .ok (.iconst 0, 1) := by decide +kernel
theorem dX3_furledSet_3 : decode cX3_furledSet 3 = .ok (.istore_n 2, 1) := by decide +kernel
theorem dX3_furledSet_4 : decode cX3_furledSet 4 = .ok (.iload_n 2, 1) := by decide +kernel
theorem dX3_furledSet_5 : decode cX3_furledSet 5 = .ok (.aload_n 0, 1) := by decide +kernel
theorem dX3_furledSet_6 : decode cX3_furledSet 6 = .ok (.getfield 18, 3) := by decide +kernel
theorem dX3_furledSet_9 : decode cX3_furledSet 9 = .ok (.if_icmp .ge 26, 3) := by decide +kernel
theorem dX3_furledSet_12 : decode cX3_furledSet 12 = .ok (.iload_n 1, 1) := by decide +kernel
theorem dX3_furledSet_13 : decode cX3_furledSet 13 = .ok (.aload_n 0, 1) := by decide +kernel
theorem dX3_furledSet_14 : decode cX3_furledSet 14 = .ok (.getfield 11, 3) := by decide +kernel
theorem dX3_furledSet_17 : decode cX3_furledSet 17 = .ok (.iload_n 2, 1) := by decide +kernel
theorem dX3_furledSet_18 : decode cX3_furledSet 18 = .ok (.aaload, 1) := by decide +kernel
theorem dX3_furledSet_19 : decode cX3_furledSet 19 = .ok (.getfield 44, 3) := by decide +kernel
theorem dX3_furledSet_22 : decode cX3_furledSet 22 = .ok (.invokestatic 48, 3) := by decide +kernel
theorem dX3_furledSet_25 : decode cX3_furledSet 25 = .ok (.iload_n 2, 1) := by decide +kernel
theorem dX3_furledSet_26 : decode cX3_furledSet 26 = .ok (.ishl, 1) := by decide +kernel
theorem dX3_furledSet_27 : decode cX3_furledSet 27 = .ok (.ior, 1) := by decide +kernel
theorem dX3_furledSet_28 : decode cX3_furledSet 28 = .ok (.istore_n 1, 1) := by decide +kernel
theorem dX3_furledSet_29 : decode cX3_furledSet 29 = .ok (.iinc 2 1, 3) := by decide +kernel
theorem dX3_furledSet_32 : decode cX3_furledSet 32 = .ok (.goto (-28), 3) := by decide +kernel
theorem dX3_furledSet_35 : decode cX3_furledSet 35 = .ok (.iload_n 1, 1) := by decide +kernel
theorem dX3_furledSet_36 : decode cX3_furledSet 36 = .ok (.ireturn, 1) := by decide +kernel
theorem dX3_flourInAll_0 : decode cX3_flourInAll 0 = .ok (.iconst 0, 1) := by decide +kernel
theorem dX3_flourInAll_1 : decode cX3_flourInAll 1 = .ok (.istore_n 1, 1) := by decide +kernel
theorem dX3_flourInAll_2 : decode cX3_flourInAll 2 = .ok (.iconst 0, 1) := by decide +kernel
theorem dX3_flourInAll_3 : decode cX3_flourInAll 3 = .ok (.istore_n 2, 1) := by decide +kernel
theorem dX3_flourInAll_4 : decode cX3_flourInAll 4 = .ok (.iload_n 2, 1) := by decide +kernel
theorem dX3_flourInAll_5 : decode cX3_flourInAll 5 = .ok (.aload_n 0, 1) := by decide +kernel
theorem dX3_flourInAll_6 : decode cX3_flourInAll 6 = .ok (.getfield 18, 3) := by decide +kernel
theorem dX3_flourInAll_9 : decode cX3_flourInAll 9 = .ok (.if_icmp .ge 21, 3) := by decide +kernel
theorem dX3_flourInAll_12 : decode cX3_flourInAll 12 = .ok (.iload_n 1, 1) := by decide +kernel
theorem dX3_flourInAll_13 : decode cX3_flourInAll 13 = .ok (.aload_n 0, 1) := by decide +kernel
theorem dX3_flourInAll_14 : decode cX3_flourInAll 14 = .ok (.getfield 11, 3) := by decide +kernel
theorem dX3_flourInAll_17 : decode cX3_flourInAll 17 = .ok (.iload_n 2, 1) := by decide +kernel
theorem dX3_flourInAll_18 : decode cX3_flourInAll 18 = .ok (.aaload, 1) := by decide +kernel
theorem dX3_flourInAll_19 : decode cX3_flourInAll 19 = .ok (.getfield 52, 3) := by decide +kernel
theorem dX3_flourInAll_22 : decode cX3_flourInAll 22 = .ok (.iadd, 1) := by decide +kernel
theorem dX3_flourInAll_23 : decode cX3_flourInAll 23 = .ok (.istore_n 1, 1) := by decide +kernel
theorem dX3_flourInAll_24 : decode cX3_flourInAll 24 = .ok (.iinc 2 1, 3) := by decide +kernel
theorem dX3_flourInAll_27 : decode cX3_flourInAll 27 = .ok (.goto (-23), 3) := by decide +kernel
theorem dX3_flourInAll_30 : decode cX3_flourInAll 30 = .ok (.iload_n 1, 1) := by decide +kernel
theorem dX3_flourInAll_31 : decode cX3_flourInAll 31 = .ok (.ireturn, 1) := by decide +kernel
theorem dX4_init_0 : decode cX4_init 0 = .ok (.aload_n 0, 1) := by decide +kernel
theorem dX4_init_1 : decode cX4_init 1 = .ok (.invokespecial 3, 3) := by decide +kernel
theorem dX4_init_4 : decode cX4_init 4 = .ok (.aload_n 0, 1) := by decide +kernel
theorem dX4_init_5 : decode cX4_init 5 = .ok (.bipush 40, 2) := by decide +kernel
theorem dX4_init_7 : decode cX4_init 7 = .ok (.newarray .int, 2) := by decide +kernel
theorem dX4_init_9 : decode cX4_init 9 = .ok (.putfield 9, 3) := by decide +kernel
theorem dX4_init_12 : decode cX4_init 12 = .ok (.aload_n 0, 1) := by decide +kernel
theorem dX4_init_13 : decode cX4_init 13 = .ok (.iconst (-1), 1) := by decide +kernel
theorem dX4_init_14 : decode cX4_init 14 = .ok (.putfield 15, 3) := by decide +kernel
theorem dX4_init_17 : decode cX4_init 17 = .ok (.return_, 1) := by decide +kernel
theorem dX4_isMissing_0 : decode cX4_isMissing 0 = .ok (.aload_n 0, 1) := by decide +kernel
theorem dX4_isMissing_1 : decode cX4_isMissing 1 = .ok (.getfield 15, 3) := by decide +kernel
theorem dX4_isMissing_4 : decode cX4_isMissing 4 = .ok (.iconst (-1), 1) := by decide +kernel
theorem dX4_isMissing_5 : decode cX4_isMissing 5 = .ok (.if_icmp .ne 7, 3) := by decide +kernel
theorem dX4_isMissing_8 : decode cX4_isMissing 8 = .ok (.iconst 1, 1) := by decide +kernel
theorem dX4_isMissing_9 : decode cX4_isMissing 9 = .ok (.goto 4, 3) := by decide +kernel
theorem dX4_isMissing_12 : decode cX4_isMissing 12 = .ok (.iconst 0, 1) := by decide +kernel
theorem dX4_isMissing_13 : decode cX4_isMissing 13 = .ok (.ireturn, 1) := by decide +kernel
theorem dX4_lay_0 : decode cX4_lay 0 = .ok (.aload_n 0, 1) := by decide +kernel
theorem dX4_lay_1 : decode cX4_lay 1 = .ok (.iload_n 1, 1) := by decide +kernel
theorem dX4_lay_2 : decode cX4_lay 2 = .ok (.putfield 19, 3) := by decide +kernel
theorem dX4_lay_5 : decode cX4_lay 5 = .ok (.aload_n 0, 1) := by decide +kernel
theorem dX4_lay_6 : decode cX4_lay 6 = .ok (.iload_n 2, 1) := by decide +kernel
theorem dX4_lay_7 : decode cX4_lay 7 = .ok (.putfield 15, 3) := by decide +kernel
theorem dX4_lay_10 : decode cX4_lay 10 = .ok (.iconst 0, 1) := by decide +kernel
theorem dX4_lay_11 : decode cX4_lay 11 = .ok (.istore_n 3, 1) := by decide +kernel
theorem dX4_lay_12 : decode cX4_lay 12 = .ok (.iload_n 3, 1) := by decide +kernel
theorem dX4_lay_13 : decode cX4_lay 13 = .ok (.bipush 40, 2) := by decide +kernel
theorem dX4_lay_15 : decode cX4_lay 15 = .ok (.if_icmp .ge 16, 3) := by decide +kernel
theorem dX4_lay_18 : decode cX4_lay 18 = .ok (.aload_n 0, 1) := by decide +kernel
theorem dX4_lay_19 : decode cX4_lay 19 = .ok (.getfield 9, 3) := by decide +kernel
theorem dX4_lay_22 : decode cX4_lay 22 = .ok (.iload_n 3, 1) := by decide +kernel
theorem dX4_lay_23 : decode cX4_lay 23 = .ok (.iconst 0, 1) := by decide +kernel
theorem dX4_lay_24 : decode cX4_lay 24 = .ok (.iastore, 1) := by decide +kernel
theorem dX4_lay_25 : decode cX4_lay 25 = .ok (.iinc 3 1, 3) := by decide +kernel
theorem dX4_lay_28 : decode cX4_lay 28 = .ok (.goto (-16), 3) := by decide +kernel
theorem dX4_lay_31 : decode cX4_lay 31 = .ok (.return_, 1) := by decide +kernel
theorem dX4_covers_0 : decode cX4_covers 0 = .ok (.iload_n 1, 1) := by decide +kernel
theorem dX4_covers_1 : decode cX4_covers 1 = .ok (.ifCond .lt 21, 3) := by decide +kernel
theorem dX4_covers_4 : decode cX4_covers 4 = .ok (.iload_n 2, 1) := by decide +kernel
theorem dX4_covers_5 : decode cX4_covers 5 = .ok (.ifCond .lt 17, 3) := by decide +kernel
theorem dX4_covers_8 : decode cX4_covers 8 = .ok (.iload_n 2, 1) := by decide +kernel
theorem dX4_covers_9 : decode cX4_covers 9 = .ok (.aload_n 0, 1) := by decide +kernel
theorem dX4_covers_10 : decode cX4_covers 10 = .ok (.getfield 15, 3) := by decide +kernel
theorem dX4_covers_13 : decode cX4_covers 13 = .ok (.iload_n 1, 1) := by decide +kernel
theorem dX4_covers_14 : decode cX4_covers 14 = .ok (.isub, 1) := by decide +kernel
theorem dX4_covers_15 : decode cX4_covers 15 = .ok (.if_icmp .gt 7, 3) := by decide +kernel
theorem dX4_covers_18 : decode cX4_covers 18 = .ok (.iconst 1, 1) := by decide +kernel
theorem dX4_covers_19 : decode cX4_covers 19 = .ok (.goto 4, 3) := by decide +kernel
theorem dX4_covers_22 : decode cX4_covers 22 = .ok (.iconst 0, 1) := by decide +kernel
theorem dX4_covers_23 : decode cX4_covers 23 = .ok (.ireturn, 1) := by decide +kernel
set_option maxRecDepth 20000 in
theorem ggX4_put_X4_narrowed : GoodIn wsX4_put wsX4_narrowed := goodIn_r _ [6, 7, 8, 9, 10] (by decide +kernel) (by decide +kernel)
set_option maxRecDepth 20000 in
theorem gX4_put_X4_narrowed : GoodIn wsX4_put (wsV RX4 22 RX4 yX4_narrowed wsX4_narrowed) := goodIn_app (goodIn_of _ (by decide +kernel)) ggX4_put_X4_narrowed
theorem dX4_put_0 : decode cX4_put 0 = .ok (.aload_n 0, 1) := by decide +kernel
theorem dX4_put_1 : decode cX4_put 1 = .ok (.getfield 9, 3) := by decide +kernel
theorem dX4_put_4 : decode cX4_put 4 = .ok (.iload_n 1, 1) := by decide +kernel
theorem dX4_put_5 : decode cX4_put 5 = .ok (.aload_n 0, 1) := by decide +kernel
theorem dX4_put_6 : decode cX4_put 6 = .ok (.iload_n 2, 1) := by decide +kernel
theorem dX4_put_7 : decode cX4_put 7 = .ok (.invokevirtual 22, 3) := by decide +kernel
theorem dX4_put_10 : decode cX4_put 10 = .ok (.iastore, 1) := by decide +kernel
theorem dX4_put_11 : decode cX4_put 11 = .ok (.aload_n 0, 1) := by decide +kernel
theorem dX4_put_12 : decode cX4_put 12 = .ok (.getfield 9, 3) := by decide +kernel
theorem dX4_put_15 : decode cX4_put 15 = .ok (.iload_n 1, 1) := by decide +kernel
theorem dX4_put_16 : decode cX4_put 16 = .ok (.iaload, 1) := by decide +kernel
theorem dX4_put_17 : decode cX4_put 17 = .ok (.ireturn, 1) := by decide +kernel
theorem dX4_narrowed_0 : decode cX4_narrowed 0 = .ok (.aload_n 0, 1) := by decide +kernel
theorem dX4_narrowed_1 : decode cX4_narrowed 1 = .ok (.getfield 19, 3) := by decide +kernel
theorem dX4_narrowed_4 : decode cX4_narrowed 4 = .ok (.lookupswitch 34 #[(0, 28), (1, 31)], 28) := by decide +kernel
theorem dX4_narrowed_32 : decode cX4_narrowed 32 = .ok (.iload_n 1, 1) := by decide +kernel
theorem dX4_narrowed_33 : decode cX4_narrowed 33 = .ok (.i2b, 1) := by decide +kernel
theorem dX4_narrowed_34 : decode cX4_narrowed 34 = .ok (.ireturn, 1) := by decide +kernel
theorem dX4_narrowed_35 : decode cX4_narrowed 35 = .ok (.iload_n 1, 1) := by decide +kernel
theorem dX4_narrowed_36 : decode cX4_narrowed 36 = .ok (.i2s, 1) := by decide +kernel
theorem dX4_narrowed_37 : decode cX4_narrowed 37 = .ok (.ireturn, 1) := by decide +kernel
theorem dX4_narrowed_38 : decode cX4_narrowed 38 = .ok (.iload_n 1, 1) := by decide +kernel
theorem dX4_narrowed_39 : decode cX4_narrowed 39 = .ok (.ireturn, 1) := by decide +kernel
theorem dX5_init_0 : decode cX5_init 0 = .ok (.aload_n 0, 1) := by decide +kernel
theorem dX5_init_1 : decode cX5_init 1 = .ok (.invokespecial 3, 3) := by decide +kernel
theorem dX5_init_4 : decode cX5_init 4 = .ok (.aload_n 0, 1) := by decide +kernel
theorem dX5_init_5 : decode cX5_init 5 = .ok (.sipush 400, 3) := by decide +kernel
theorem dX5_init_8 : decode cX5_init 8 = .ok (.newarray .byte, 2) := by decide +kernel
theorem dX5_init_10 : decode cX5_init 10 = .ok (.putfield 9, 3) := by decide +kernel
theorem dX5_init_13 : decode cX5_init 13 = .ok (.return_, 1) := by decide +kernel
theorem dX5_append_0 : decode cX5_append 0 = .ok (.iload_n 3, 1) := by decide +kernel
theorem dX5_append_1 : decode cX5_append 1 = .ok (.iconst 1, 1) := by decide +kernel
theorem dX5_append_2 : decode cX5_append 2 = .ok (.isub, 1) := by decide +kernel
theorem dX5_append_3 : decode cX5_append 3 = .ok (.istore 4, 2) := by decide +kernel
theorem dX5_append_5 : decode cX5_append 5 = .ok (.iload 4, 2) := by decide +kernel
theorem dX5_append_7 : decode cX5_append 7 = .ok (.ifCond .lt 37, 3) := by decide +kernel
theorem dX5_append_10 : decode cX5_append 10 = .ok (.aload_n 0, 1) := by decide +kernel
theorem dX5_append_11 : decode cX5_append 11 = .ok (.getfield 9, 3) := by decide +kernel
theorem dX5_append_14 : decode cX5_append 14 = .ok (.aload_n 0, 1) := by decide +kernel
theorem dX5_append_15 : decode cX5_append 15 = .ok (.getfield 15, 3) := by decide +kernel
theorem dX5_append_18 : decode cX5_append 18 = .ok (.lload_n 1, 1) := by decide +kernel
theorem dX5_append_19 : decode cX5_append 19 = .ok (.bipush 8, 2) := by decide +kernel
theorem dX5_append_21 : decode cX5_append 21 = .ok (.iload 4, 2) := by decide +kernel
theorem dX5_append_23 : decode cX5_append 23 = .ok (.imul, 1) := by decide +kernel
theorem dX5_append_24 : decode cX5_append 24 = .ok (.lshr, 1) := by decide +kernel
theorem dX5_append_25 : decode cX5_append 25 = .ok (.l2i, 1) := by decide +kernel
theorem dX5_append_26 : decode cX5_append 26 = .ok (.i2b, 1) := by decide +kernel
theorem dX5_append_27 : decode cX5_append 27 = .ok (.bastore, 1) := by decide +kernel
theorem dX5_append_28 : decode cX5_append 28 = .ok (.aload_n 0, 1) := by decide +kernel
theorem dX5_append_29 : decode cX5_append 29 = .ok (.dup, 1) := by decide +kernel
theorem dX5_append_30 : decode cX5_append 30 = .ok (.getfield 15, 3) := by decide +kernel
theorem dX5_append_33 : decode cX5_append 33 = .ok (.iconst 1, 1) := by decide +kernel
theorem dX5_append_34 : decode cX5_append 34 = .ok (.iadd, 1) := by decide +kernel
theorem dX5_append_35 : decode cX5_append 35 = .ok (.putfield 15, 3) := by decide +kernel
theorem dX5_append_38 : decode cX5_append 38 = .ok (.iinc 4 (-1), 3) := by decide +kernel
theorem dX5_append_41 : decode cX5_append 41 = .ok (.goto (-36), 3) := by decide +kernel
theorem dX5_append_44 : decode cX5_append 44 = .ok (.return_, 1) := by decide +kernel
theorem dX5_blanksEnd_0 : decode cX5_blanksEnd 0 = .ok (.iload_n 1, 1) := by decide +kernel
theorem dX5_blanksEnd_1 : decode cX5_blanksEnd 1 = .ok (.istore_n 2, 1) := by decide +kernel
theorem dX5_blanksEnd_2 : decode cX5_blanksEnd 2 = .ok (.iload_n 2, 1) := by decide +kernel
theorem dX5_blanksEnd_3 : decode cX5_blanksEnd 3 = .ok (.aload_n 0, 1) := by decide +kernel
theorem dX5_blanksEnd_4 : decode cX5_blanksEnd 4 = .ok (.getfield 15, 3) := by decide +kernel
theorem dX5_blanksEnd_7 : decode cX5_blanksEnd 7 = .ok (.if_icmp .ge 31, 3) := by decide +kernel
theorem dX5_blanksEnd_10 : decode cX5_blanksEnd 10 = .ok (.aload_n 0, 1) := by decide +kernel
theorem dX5_blanksEnd_11 : decode cX5_blanksEnd 11 = .ok (.getfield 9, 3) := by decide +kernel
theorem dX5_blanksEnd_14 : decode cX5_blanksEnd 14 = .ok (.iload_n 2, 1) := by decide +kernel
theorem dX5_blanksEnd_15 : decode cX5_blanksEnd 15 = .ok (.baload, 1) := by decide +kernel
theorem dX5_blanksEnd_16 : decode cX5_blanksEnd 16 = .ok (.bipush 32, 2) := by decide +kernel
theorem dX5_blanksEnd_18 : decode cX5_blanksEnd 18 = .ok (.if_icmp .eq 14, 3) := by decide +kernel
theorem dX5_blanksEnd_21 : decode cX5_blanksEnd 21 = .ok (.aload_n 0, 1) := by decide +kernel
theorem dX5_blanksEnd_22 : decode cX5_blanksEnd 22 = .ok (.getfield 9, 3) := by decide +kernel
theorem dX5_blanksEnd_25 : decode cX5_blanksEnd 25 = .ok (.iload_n 2, 1) := by decide +kernel
theorem dX5_blanksEnd_26 : decode cX5_blanksEnd 26 = .ok (.baload, 1) := by decide +kernel
theorem dX5_blanksEnd_27 : decode cX5_blanksEnd 27 = .ok (.bipush 10, 2) := by decide +kernel
theorem dX5_blanksEnd_29 : decode cX5_blanksEnd 29 = .ok (.if_icmp .ne 9, 3) := by decide +kernel
theorem dX5_blanksEnd_32 : decode cX5_blanksEnd 32 = .ok (.iinc 2 1, 3) := by decide +kernel
theorem dX5_blanksEnd_35 : decode cX5_blanksEnd 35 = .ok (.goto (-33), 3) := by decide +kernel
theorem dX5_blanksEnd_38 : decode cX5_blanksEnd 38 = .ok (.iload_n 2, 1) := by decide +kernel
theorem dX5_blanksEnd_39 : decode cX5_blanksEnd 39 = .ok (.ireturn, 1) := by decide +kernel
theorem dX5_lettersEnd_0 : decode cX5_lettersEnd 0 = .ok (.iload_n 1, 1) := by decide +kernel
theorem dX5_lettersEnd_1 : decode cX5_lettersEnd 1 = .ok (.istore_n 2, 1) := by decide +kernel
theorem dX5_lettersEnd_2 : decode cX5_lettersEnd 2 = .ok (.iload_n 2, 1) := by decide +kernel
theorem dX5_lettersEnd_3 : decode cX5_lettersEnd 3 = .ok (.aload_n 0, 1) := by decide +kernel
theorem dX5_lettersEnd_4 : decode cX5_lettersEnd 4 = .ok (.getfield 15, 3) := by decide +kernel
theorem dX5_lettersEnd_7 : decode cX5_lettersEnd 7 = .ok (.if_icmp .ge 31, 3) := by decide +kernel
theorem dX5_lettersEnd_10 : decode cX5_lettersEnd 10 = .ok (.aload_n 0, 1) := by decide +kernel
theorem dX5_lettersEnd_11 : decode cX5_lettersEnd 11 = .ok (.getfield 9, 3) := by decide +kernel
theorem dX5_lettersEnd_14 : decode cX5_lettersEnd 14 = .ok (.iload_n 2, 1) := by decide +kernel
theorem dX5_lettersEnd_15 : decode cX5_lettersEnd 15 = .ok (.baload, 1) := by decide +kernel
theorem dX5_lettersEnd_16 : decode cX5_lettersEnd 16 = .ok (.bipush 97, 2) := by decide +kernel
theorem dX5_lettersEnd_18 : decode cX5_lettersEnd 18 = .ok (.if_icmp .lt 20, 3) := by decide +kernel
theorem dX5_lettersEnd_21 : decode cX5_lettersEnd 21 = .ok (.aload_n 0, 1) := by decide +kernel
theorem dX5_lettersEnd_22 : decode cX5_lettersEnd 22 = .ok (.getfield 9, 3) := by decide +kernel
theorem dX5_lettersEnd_25 : decode cX5_lettersEnd 25 = .ok (.iload_n 2, 1) := by decide +kernel
theorem dX5_lettersEnd_26 : decode cX5_lettersEnd 26 = .ok (.baload, 1) := by decide +kernel
theorem dX5_lettersEnd_27 : decode cX5_lettersEnd 27 = .ok (.bipush 122, 2) := by decide +kernel
theorem dX5_lettersEnd_29 : decode cX5_lettersEnd 29 = .ok (.if_icmp .gt 9, 3) := by decide +kernel
theorem dX5_lettersEnd_32 : decode cX5_lettersEnd 32 = .ok (.iinc 2 1, 3) := by decide +kernel
theorem dX5_lettersEnd_35 : decode cX5_lettersEnd 35 = .ok (.goto (-33), 3) := by decide +kernel
theorem dX5_lettersEnd_38 : decode cX5_lettersEnd 38 = .ok (.iload_n 2, 1) := by decide +kernel
theorem dX5_lettersEnd_39 : decode cX5_lettersEnd 39 = .ok (.ireturn, 1) := by decide +kernel
theorem dX5_figuresEnd_0 : decode cX5_figuresEnd 0 = .ok (.iload_n 1, 1) := by decide +kernel
theorem dX5_figuresEnd_1 : decode cX5_figuresEnd 1 = .ok (.istore_n 2, 1) := by decide +kernel
theorem dX5_figuresEnd_2 : decode cX5_figuresEnd 2 = .ok (.iload_n 2, 1) := by decide +kernel
theorem dX5_figuresEnd_3 : decode cX5_figuresEnd 3 = .ok (.aload_n 0, 1) := by decide +kernel
theorem dX5_figuresEnd_4 : decode cX5_figuresEnd 4 = .ok (.getfield 15, 3) := by decide +kernel
theorem dX5_figuresEnd_7 : decode cX5_figuresEnd 7 = .ok (.if_icmp .ge 31, 3) := by decide +kernel
theorem dX5_figuresEnd_10 : decode cX5_figuresEnd 10 = .ok (.aload_n 0, 1) := by decide +kernel
theorem dX5_figuresEnd_11 : decode cX5_figuresEnd 11 = .ok (.getfield 9, 3) := by decide +kernel
theorem dX5_figuresEnd_14 : decode cX5_figuresEnd 14 = .ok (.iload_n 2, 1) := by decide +kernel
theorem dX5_figuresEnd_15 : decode cX5_figuresEnd 15 = .ok (.baload, 1) := by decide +kernel
theorem dX5_figuresEnd_16 : decode cX5_figuresEnd 16 = .ok (.bipush 48, 2) := by decide +kernel
theorem dX5_figuresEnd_18 : decode cX5_figuresEnd 18 = .ok (.if_icmp .lt 20, 3) := by decide +kernel
theorem dX5_figuresEnd_21 : decode cX5_figuresEnd 21 = .ok (.aload_n 0, 1) := by decide +kernel
theorem dX5_figuresEnd_22 : decode cX5_figuresEnd 22 = .ok (.getfield 9, 3) := by decide +kernel
theorem dX5_figuresEnd_25 : decode cX5_figuresEnd 25 = .ok (.iload_n 2, 1) := by decide +kernel
theorem dX5_figuresEnd_26 : decode cX5_figuresEnd 26 = .ok (.baload, 1) := by decide +kernel
theorem dX5_figuresEnd_27 : decode cX5_figuresEnd 27 = .ok (.bipush 57, 2) := by decide +kernel
theorem dX5_figuresEnd_29 : decode cX5_figuresEnd 29 = .ok (.if_icmp .gt 9, 3) := by decide +kernel
theorem dX5_figuresEnd_32 : decode cX5_figuresEnd 32 = .ok (.iinc 2 1, 3) := by decide +kernel
theorem dX5_figuresEnd_35 : decode cX5_figuresEnd 35 = .ok (.goto (-33), 3) := by decide +kernel
theorem dX5_figuresEnd_38 : decode cX5_figuresEnd 38 = .ok (.iload_n 2, 1) := by decide +kernel
theorem dX5_figuresEnd_39 : decode cX5_figuresEnd 39 = .ok (.ireturn, 1) := by decide +kernel
theorem dX5_valueOf_0 : decode cX5_valueOf 0 = .ok (.iconst 0, 1) := by decide +kernel
theorem dX5_valueOf_1 : decode cX5_valueOf 1 = .ok (.istore_n 3, 1) := by decide +kernel
theorem dX5_valueOf_2 : decode cX5_valueOf 2 = .ok (.iload_n 1, 1) := by decide +kernel
theorem dX5_valueOf_3 : decode cX5_valueOf 3 = .ok (.istore 4, 2) := by decide +kernel
theorem dX5_valueOf_5 : decode cX5_valueOf 5 = .ok (.iload 4, 2) := by decide +kernel
theorem dX5_valueOf_7 : decode cX5_valueOf 7 = .ok (.iload_n 2, 1) := by decide +kernel
theorem dX5_valueOf_8 : decode cX5_valueOf 8 = .ok (.if_icmp .ge 34, 3) := by decide +kernel
theorem dX5_valueOf_11 : decode cX5_valueOf 11 = .ok (.iload 4, 2) := by decide +kernel
theorem dX5_valueOf_13 : decode cX5_valueOf 13 = .ok (.aload_n 0, 1) := by decide +kernel
theorem dX5_valueOf_14 : decode cX5_valueOf 14 = .ok (.getfield 15, 3) := by decide +kernel
theorem dX5_valueOf_17 : decode cX5_valueOf 17 = .ok (.if_icmp .ge 25, 3) := by decide +kernel
theorem dX5_valueOf_20 : decode cX5_valueOf 20 = .ok (.iload_n 3, 1) := by decide +kernel
theorem dX5_valueOf_21 : decode cX5_valueOf 21 = .ok (.bipush 10, 2) := by decide +kernel
theorem dX5_valueOf_23 : decode cX5_valueOf 23 = .ok (.imul, 1) := by decide +kernel
theorem dX5_valueOf_24 : decode cX5_valueOf 24 = .ok (.aload_n 0, 1) := by decide +kernel
theorem dX5_valueOf_25 : decode cX5_valueOf 25 = .ok (.getfield 9, 3) := by decide +kernel
theorem dX5_valueOf_28 : decode cX5_valueOf 28 = .ok (.iload 4, 2) := by decide +kernel
theorem dX5_valueOf_30 : decode cX5_valueOf 30 = .ok (.baload, 1) := by decide +kernel
theorem dX5_valueOf_31 : decode cX5_valueOf 31 = .ok (.iadd, 1) := by decide +kernel
theorem dX5_valueOf_32 : decode cX5_valueOf 32 = .ok (.bipush 48, 2) := by decide +kernel
theorem dX5_valueOf_34 : decode cX5_valueOf 34 = .ok (.isub, 1) := by decide +kernel
theorem dX5_valueOf_35 : decode cX5_valueOf 35 = .ok (.istore_n 3, 1) := by decide +kernel
theorem dX5_valueOf_36 : decode cX5_valueOf 36 = .ok (.iinc 4 1, 3) := by decide +kernel
theorem dX5_valueOf_39 : decode cX5_valueOf 39 = .ok (.goto (-34), 3) := by decide +kernel
theorem dX5_valueOf_42 : decode cX5_valueOf 42 = .ok (.iload_n 3, 1) := by decide +kernel
theorem dX5_valueOf_43 : decode cX5_valueOf 43 = .ok (.ireturn, 1) := by decide +kernel
set_option maxRecDepth 20000 in
theorem ggX5_tells_J0_length_8abf5 : GoodIn wsX5_tells wsJ0_length_8abf5 := goodIn_r _ [7, 8, 9, 10, 11, 6, 12, 13, 14] (by decide +kernel) (by decide +kernel)
set_option maxRecDepth 20000 in
theorem gX5_tells_J0_length_8abf5 : GoodIn wsX5_tells (wsV RX5 19 RJ0 yJ0_length_8abf5 wsJ0_length_8abf5) := goodIn_app (goodIn_of _ (by decide +kernel)) ggX5_tells_J0_length_8abf5
set_option maxRecDepth 20000 in
theorem ggX5_tells_J0_charAt_5068e : GoodIn wsX5_tells wsJ0_charAt_5068e := goodIn_r _ [18, 8, 19, 20, 21, 6, 22, 13, 14, 23, 24, 25, 26, 27, 28, 29, 30, 31, 32, 33, 34, 35, 36, 37, 38, 39, 40, 41, 42, 43, 44, 45, 46, 47, 48, 49, 50, 51] (by decide +kernel) (by decide +kernel)
set_option maxRecDepth 20000 in
theorem gX5_tells_J0_charAt_5068e : GoodIn wsX5_tells (wsV RX5 24 RJ0 yJ0_charAt_5068e wsJ0_charAt_5068e) := goodIn_app (goodIn_of _ (by decide +kernel)) ggX5_tells_J0_charAt_5068e
theorem dX5_tells_0 : decode cX5_tells 0 = .ok (.iload_n 3, 1) := by decide +kernel
theorem dX5_tells_1 : decode cX5_tells 1 = .ok (.iload_n 2, 1) := by decide +kernel
theorem dX5_tells_2 : decode cX5_tells 2 = .ok (.isub, 1) := by decide +kernel
theorem dX5_tells_3 : decode cX5_tells 3 = .ok (.aload_n 1, 1) := by decide +kernel
theorem dX5_tells_4 : decode cX5_tells 4 = .ok (.invokevirtual 19, 3) := by decide +kernel
theorem dX5_tells_7 : decode cX5_tells 7 = .ok (.if_icmp .ne 11, 3) := by decide +kernel
theorem dX5_tells_10 : decode cX5_tells 10 = .ok (.iload_n 3, 1) := by decide +kernel
theorem dX5_tells_11 : decode cX5_tells 11 = .ok (.aload_n 0, 1) := by decide +kernel
theorem dX5_tells_12 : decode cX5_tells 12 = .ok (.getfield 15, 3) := by decide +kernel
theorem dX5_tells_15 : decode cX5_tells 15 = .ok (.if_icmp .le 5, 3) := by decide +kernel
theorem dX5_tells_18 : decode cX5_tells 18 = .ok (.iconst 0, 1) := by decide +kernel
theorem dX5_tells_19 : decode cX5_tells 19 = .ok (.ireturn, 1) := by decide +kernel
theorem dX5_tells_20 : decode cX5_tells 20 = .ok (.iload_n 2, 1) := by decide +kernel
theorem dX5_tells_21 : decode cX5_tells 21 = .ok (.istore 4, 2) := by decide +kernel
theorem dX5_tells_23 : decode cX5_tells 23 = .ok (.iload 4, 2) := by decide +kernel
theorem dX5_tells_25 : decode cX5_tells 25 = .ok (.iload_n 3, 1) := by decide +kernel
theorem dX5_tells_26 : decode cX5_tells 26 = .ok (.if_icmp .ge 29, 3) := by decide +kernel
theorem dX5_tells_29 : decode cX5_tells 29 = .ok (.aload_n 0, 1) := by decide +kernel
theorem dX5_tells_30 : decode cX5_tells 30 = .ok (.getfield 9, 3) := by decide +kernel
theorem dX5_tells_33 : decode cX5_tells 33 = .ok (.iload 4, 2) := by decide +kernel
theorem dX5_tells_35 : decode cX5_tells 35 = .ok (.baload, 1) := by decide +kernel
theorem dX5_tells_36 : decode cX5_tells 36 = .ok (.aload_n 1, 1) := by decide +kernel
theorem dX5_tells_37 : decode cX5_tells 37 = .ok (.iload 4, 2) := by decide +kernel
theorem dX5_tells_39 : decode cX5_tells 39 = .ok (.iload_n 2, 1) := by decide +kernel
theorem dX5_tells_40 : decode cX5_tells 40 = .ok (.isub, 1) := by decide +kernel
theorem dX5_tells_41 : decode cX5_tells 41 = .ok (.invokevirtual 24, 3) := by decide +kernel
theorem dX5_tells_44 : decode cX5_tells 44 = .ok (.if_icmp .eq 5, 3) := by decide +kernel
theorem dX5_tells_47 : decode cX5_tells 47 = .ok (.iconst 0, 1) := by decide +kernel
theorem dX5_tells_48 : decode cX5_tells 48 = .ok (.ireturn, 1) := by decide +kernel
theorem dX5_tells_49 : decode cX5_tells 49 = .ok (.iinc 4 1, 3) := by decide +kernel
theorem dX5_tells_52 : decode cX5_tells 52 = .ok (.goto (-29), 3) := by decide +kernel
theorem dX5_tells_55 : decode cX5_tells 55 = .ok (.iconst 1, 1) := by decide +kernel
theorem dX5_tells_56 : decode cX5_tells 56 = .ok (.ireturn, 1) := by decide +kernel
theorem dX6_init_0 : decode cX6_init 0 = .ok (.aload_n 0, 1) := by decide +kernel
theorem dX6_init_1 : decode cX6_init 1 = .ok (.invokespecial 3, 3) := by decide +kernel
theorem dX6_init_4 : decode cX6_init 4 = .ok (.aload_n 0, 1) := by decide +kernel
theorem dX6_init_5 : decode cX6_init 5 = .ok (.bipush 16, 2) := by decide +kernel
theorem dX6_init_7 : decode cX6_init 7 = .ok (.newarray .int, 2) := by decide +kernel
theorem dX6_init_9 : decode cX6_init 9 = .ok (.putfield 9, 3) := by decide +kernel
theorem dX6_init_12 : decode cX6_init 12 = .ok (.return_, 1) := by decide +kernel
theorem dX6_leave_0 : decode cX6_leave 0 = .ok (.aload_n 0, 1) := by decide +kernel
theorem dX6_leave_1 : decode cX6_leave 1 = .ok (.getfield 15, 3) := by decide +kernel
theorem dX6_leave_4 : decode cX6_leave 4 = .ok (.bipush 16, 2) := by decide +kernel
theorem dX6_leave_6 : decode cX6_leave 6 = .ok (.if_icmp .ge 23, 3) := by decide +kernel
theorem dX6_leave_9 : decode cX6_leave 9 = .ok (.aload_n 0, 1) := by decide +kernel
theorem dX6_leave_10 : decode cX6_leave 10 = .ok (.getfield 9, 3) := by decide +kernel
theorem dX6_leave_13 : decode cX6_leave 13 = .ok (.aload_n 0, 1) := by decide +kernel
theorem dX6_leave_14 : decode cX6_leave 14 = .ok (.getfield 15, 3) := by decide +kernel
theorem dX6_leave_17 : decode cX6_leave 17 = .ok (.iload_n 1, 1) := by decide +kernel
theorem dX6_leave_18 : decode cX6_leave 18 = .ok (.iastore, 1) := by decide +kernel
theorem dX6_leave_19 : decode cX6_leave 19 = .ok (.aload_n 0, 1) := by decide +kernel
theorem dX6_leave_20 : decode cX6_leave 20 = .ok (.dup, 1) := by decide +kernel
theorem dX6_leave_21 : decode cX6_leave 21 = .ok (.getfield 15, 3) := by decide +kernel
theorem dX6_leave_24 : decode cX6_leave 24 = .ok (.iconst 1, 1) := by decide +kernel
theorem dX6_leave_25 : decode cX6_leave 25 = .ok (.iadd, 1) := by decide +kernel
theorem dX6_leave_26 : decode cX6_leave 26 = .ok (.putfield 15, 3) := by decide +kernel
theorem dX6_leave_29 : decode cX6_leave 29 = .ok (.return_, 1) := by decide +kernel
theorem dJ6_bitCount_0f7a4_0 : decode cJ6_bitCount_0f7a4 0 = .ok (.iload_n 0, 1) := by decide +kernel
theorem dJ6_bitCount_0f7a4_1 : decode cJ6_bitCount_0f7a4 1 = .ok (.iload_n 0, 1) := by decide +kernel
theorem dJ6_bitCount_0f7a4_2 : decode cJ6_bitCount_0f7a4 2 = .ok (.iconst 1, 1) := by decide +kernel
theorem dJ6_bitCount_0f7a4_3 : decode cJ6_bitCount_0f7a4 3 = .ok (.iushr, 1) := by decide +kernel
theorem dJ6_bitCount_0f7a4_4 : decode cJ6_bitCount_0f7a4 4 = .ok (.ldc_w 265, 3) := by decide +kernel
theorem dJ6_bitCount_0f7a4_7 : decode cJ6_bitCount_0f7a4 7 = .ok (.iand, 1) := by decide +kernel
theorem dJ6_bitCount_0f7a4_8 : decode cJ6_bitCount_0f7a4 8 = .ok (.isub, 1) := by decide +kernel
theorem dJ6_bitCount_0f7a4_9 : decode cJ6_bitCount_0f7a4 9 = .ok (.istore_n 0, 1) := by decide +kernel
theorem dJ6_bitCount_0f7a4_10 : decode cJ6_bitCount_0f7a4 10 = .ok (.iload_n 0, 1) := by decide +kernel
theorem dJ6_bitCount_0f7a4_11 : decode cJ6_bitCount_0f7a4 11 = .ok (.ldc_w 266, 3) := by decide +kernel
theorem dJ6_bitCount_0f7a4_14 : decode cJ6_bitCount_0f7a4 14 = .ok (.iand, 1) := by decide +kernel
theorem dJ6_bitCount_0f7a4_15 : decode cJ6_bitCount_0f7a4 15 = .ok (.iload_n 0, 1) := by decide +kernel
theorem dJ6_bitCount_0f7a4_16 : decode cJ6_bitCount_0f7a4 16 = .ok (.iconst 2, 1) := by decide +kernel
theorem dJ6_bitCount_0f7a4_17 : decode cJ6_bitCount_0f7a4 17 = .ok (.iushr, 1) := by decide +kernel
theorem dJ6_bitCount_0f7a4_18 : decode cJ6_bitCount_0f7a4 18 = .ok (.ldc_w 266, 3) := by decide +kernel
theorem dJ6_bitCount_0f7a4_21 : decode cJ6_bitCount_0f7a4 21 = .ok (.iand, 1) := by decide +kernel
theorem dJ6_bitCount_0f7a4_22 : decode cJ6_bitCount_0f7a4 22 = .ok (.iadd, 1) := by decide +kernel
theorem dJ6_bitCount_0f7a4_23 : decode cJ6_bitCount_0f7a4 23 = .ok (.istore_n 0, 1) := by decide +kernel
theorem dJ6_bitCount_0f7a4_24 : decode cJ6_bitCount_0f7a4 24 = .ok (.iload_n 0, 1) := by decide +kernel
theorem dJ6_bitCount_0f7a4_25 : decode cJ6_bitCount_0f7a4 25 = .ok (.iload_n 0, 1) := by decide +kernel
theorem dJ6_bitCount_0f7a4_26 : decode cJ6_bitCount_0f7a4 26 = .ok (.iconst 4, 1) := by decide +kernel
theorem dJ6_bitCount_0f7a4_27 : decode cJ6_bitCount_0f7a4 27 = .ok (.iushr, 1) := by decide +kernel
theorem dJ6_bitCount_0f7a4_28 : decode cJ6_bitCount_0f7a4 28 = .ok (.iadd, 1) := by decide +kernel
theorem dJ6_bitCount_0f7a4_29 : decode cJ6_bitCount_0f7a4 29 = .ok (.ldc_w 267, 3) := by decide +kernel
theorem dJ6_bitCount_0f7a4_32 : decode cJ6_bitCount_0f7a4 32 = .ok (.iand, 1) := by decide +kernel
theorem dJ6_bitCount_0f7a4_33 : decode cJ6_bitCount_0f7a4 33 = .ok (.istore_n 0, 1) := by decide +kernel
theorem dJ6_bitCount_0f7a4_34 : decode cJ6_bitCount_0f7a4 34 = .ok (.iload_n 0, 1) := by decide +kernel
theorem dJ6_bitCount_0f7a4_35 : decode cJ6_bitCount_0f7a4 35 = .ok (.iload_n 0, 1) := by decide +kernel
theorem dJ6_bitCount_0f7a4_36 : decode cJ6_bitCount_0f7a4 36 = .ok (.bipush 8, 2) := by decide +kernel
theorem dJ6_bitCount_0f7a4_38 : decode cJ6_bitCount_0f7a4 38 = .ok (.iushr, 1) := by decide +kernel
theorem dJ6_bitCount_0f7a4_39 : decode cJ6_bitCount_0f7a4 39 = .ok (.iadd, 1) := by decide +kernel
theorem dJ6_bitCount_0f7a4_40 : decode cJ6_bitCount_0f7a4 40 = .ok (.istore_n 0, 1) := by decide +kernel
theorem dJ6_bitCount_0f7a4_41 : decode cJ6_bitCount_0f7a4 41 = .ok (.iload_n 0, 1) := by decide +kernel
theorem dJ6_bitCount_0f7a4_42 : decode cJ6_bitCount_0f7a4 42 = .ok (.iload_n 0, 1) := by decide +kernel
theorem dJ6_bitCount_0f7a4_43 : decode cJ6_bitCount_0f7a4 43 = .ok (.bipush 16, 2) := by decide +kernel
theorem dJ6_bitCount_0f7a4_45 : decode cJ6_bitCount_0f7a4 45 = .ok (.iushr, 1) := by decide +kernel
theorem dJ6_bitCount_0f7a4_46 : decode cJ6_bitCount_0f7a4 46 = .ok (.iadd, 1) := by decide +kernel
theorem dJ6_bitCount_0f7a4_47 : decode cJ6_bitCount_0f7a4 47 = .ok (.istore_n 0, 1) := by decide +kernel
theorem dJ6_bitCount_0f7a4_48 : decode cJ6_bitCount_0f7a4 48 = .ok (.iload_n 0, 1) := by decide +kernel
theorem dJ6_bitCount_0f7a4_49 : decode cJ6_bitCount_0f7a4 49 = .ok (.bipush 63, 2) := by decide +kernel
theorem dJ6_bitCount_0f7a4_51 : decode cJ6_bitCount_0f7a4 51 = .ok (.iand, 1) := by decide +kernel
theorem dJ6_bitCount_0f7a4_52 : decode cJ6_bitCount_0f7a4 52 = .ok (.ireturn, 1) := by decide +kernel
theorem dJ9_max_7cf53_0 : decode cJ9_max_7cf53 0 = .ok (.iload_n 0, 1) := by decide +kernel
theorem dJ9_max_7cf53_1 : decode cJ9_max_7cf53 1 = .ok (.iload_n 1, 1) := by decide +kernel
theorem dJ9_max_7cf53_2 : decode cJ9_max_7cf53 2 = .ok (.if_icmp .lt 7, 3) := by decide +kernel
theorem dJ9_max_7cf53_5 : decode cJ9_max_7cf53 5 = .ok (.iload_n 0, 1) := by decide +kernel
theorem dJ9_max_7cf53_6 : decode cJ9_max_7cf53 6 = .ok (.goto 4, 3) := by decide +kernel
theorem dJ9_max_7cf53_9 : decode cJ9_max_7cf53 9 = .ok (.iload_n 1, 1) := by decide +kernel
theorem dJ9_max_7cf53_10 : decode cJ9_max_7cf53 10 = .ok (.ireturn, 1) := by decide +kernel
theorem dJ9_min_7cf53_0 : decode cJ9_min_7cf53 0 = .ok (.iload_n 0, 1) := by decide +kernel
theorem dJ9_min_7cf53_1 : decode cJ9_min_7cf53 1 = .ok (.iload_n 1, 1) := by decide +kernel
theorem dJ9_min_7cf53_2 : decode cJ9_min_7cf53 2 = .ok (.if_icmp .gt 7, 3) := by decide +kernel
theorem dJ9_min_7cf53_5 : decode cJ9_min_7cf53 5 = .ok (.iload_n 0, 1) := by decide +kernel
theorem dJ9_min_7cf53_6 : decode cJ9_min_7cf53 6 = .ok (.goto 4, 3) := by decide +kernel
theorem dJ9_min_7cf53_9 : decode cJ9_min_7cf53 9 = .ok (.iload_n 1, 1) := by decide +kernel
theorem dJ9_min_7cf53_10 : decode cJ9_min_7cf53 10 = .ok (.ireturn, 1) := by decide +kernel
set_option maxRecDepth 20000 in
theorem ggJ0_length_8abf5_J0_coder_7d493 : GoodIn wsJ0_length_8abf5 wsJ0_coder_7d493 := goodIn_r _ [6, 7, 8] (by decide +kernel) (by decide +kernel)
set_option maxRecDepth 20000 in
theorem gJ0_length_8abf5_J0_coder_7d493 : GoodIn wsJ0_length_8abf5 (wsV RJ0 335 RJ0 yJ0_coder_7d493 wsJ0_coder_7d493) := goodIn_app (goodIn_of _ (by decide +kernel)) ggJ0_length_8abf5_J0_coder_7d493
theorem dJ0_length_8abf5_0 : decode cJ0_length_8abf5 0 = .ok (.aload_n 0, 1) := by decide +kernel
theorem dJ0_length_8abf5_1 : decode cJ0_length_8abf5 1 = .ok (.getfield 9, 3) := by decide +kernel
theorem dJ0_length_8abf5_4 : decode cJ0_length_8abf5 4 = .ok (.arraylength, 1) := by decide +kernel
theorem dJ0_length_8abf5_5 : decode cJ0_length_8abf5 5 = .ok (.aload_n 0, 1) := by decide +kernel
theorem dJ0_length_8abf5_6 : decode cJ0_length_8abf5 6 = .ok (.invokevirtual 335, 3) := by decide +kernel
theorem dJ0_length_8abf5_9 : decode cJ0_length_8abf5 9 = .ok (.ishr, 1) := by decide +kernel
theorem dJ0_length_8abf5_10 : decode cJ0_length_8abf5 10 = .ok (.ireturn, 1) := by decide +kernel
set_option maxRecDepth 20000 in
theorem ggJ0_charAt_5068e_J0_isLatin1_aae02 : GoodIn wsJ0_charAt_5068e wsJ0_isLatin1_aae02 := goodIn_r _ [6, 7, 8] (by decide +kernel) (by decide +kernel)
set_option maxRecDepth 20000 in
theorem gJ0_charAt_5068e_J0_isLatin1_aae02 : GoodIn wsJ0_charAt_5068e (wsV RJ0 492 RJ0 yJ0_isLatin1_aae02 wsJ0_isLatin1_aae02) := goodIn_app (goodIn_of _ (by decide +kernel)) ggJ0_charAt_5068e_J0_isLatin1_aae02
set_option maxRecDepth 20000 in
theorem ggJ0_charAt_5068e_J1_charAt_3b067 : GoodIn wsJ0_charAt_5068e wsJ1_charAt_3b067 := goodIn_r _ [12, 13, 14, 5, 15, 16, 17, 18, 19, 20] (by decide +kernel) (by decide +kernel)
set_option maxRecDepth 20000 in
theorem gJ0_charAt_5068e_J1_charAt_3b067 : GoodIn wsJ0_charAt_5068e (va_wsS RJ0 495 yJ1_charAt_3b067 wsJ1_charAt_3b067) := goodIn_app (goodIn_of _ (by decide +kernel)) ggJ0_charAt_5068e_J1_charAt_3b067
set_option maxRecDepth 20000 in
theorem ggJ0_charAt_5068e_J2_charAt_3b067 : GoodIn wsJ0_charAt_5068e wsJ2_charAt_3b067 := goodIn_r _ [24, 25, 26, 23, 27, 28, 29, 30, 31, 14, 5, 15, 16, 17, 18, 19, 20, 32, 33, 34, 35, 36, 37] (by decide +kernel) (by decide +kernel)
set_option maxRecDepth 20000 in
theorem gJ0_charAt_5068e_J2_charAt_3b067 : GoodIn wsJ0_charAt_5068e (va_wsS RJ0 498 yJ2_charAt_3b067 wsJ2_charAt_3b067) := goodIn_app (goodIn_of _ (by decide +kernel)) ggJ0_charAt_5068e_J2_charAt_3b067
theorem dJ0_charAt_5068e_0 : decode cJ0_charAt_5068e 0 = .ok (.aload_n 0, 1) := by decide +kernel
theorem dJ0_charAt_5068e_1 : decode cJ0_charAt_5068e 1 = .ok (.invokevirtual 492, 3) := by decide +kernel
theorem dJ0_charAt_5068e_4 : decode cJ0_charAt_5068e 4 = .ok (.ifCond .eq 12, 3) := by decide +kernel
theorem dJ0_charAt_5068e_7 : decode cJ0_charAt_5068e 7 = .ok (.aload_n 0, 1) := by decide +kernel
theorem dJ0_charAt_5068e_8 : decode cJ0_charAt_5068e 8 = .ok (.getfield 9, 3) := by decide +kernel
theorem dJ0_charAt_5068e_11 : decode cJ0_charAt_5068e 11 = .ok (.iload_n 1, 1) := by decide +kernel
theorem dJ0_charAt_5068e_12 : decode cJ0_charAt_5068e 12 = .ok (.invokestatic 495, 3) := by decide +kernel
theorem dJ0_charAt_5068e_15 : decode cJ0_charAt_5068e 15 = .ok (.ireturn, 1) := by decide +kernel
theorem dJ0_charAt_5068e_16 : decode cJ0_charAt_5068e 16 = .ok (.aload_n 0, 1) := by decide +kernel
theorem dJ0_charAt_5068e_17 : decode cJ0_charAt_5068e 17 = .ok (.getfield 9, 3) := by decide +kernel
theorem dJ0_charAt_5068e_20 : decode cJ0_charAt_5068e 20 = .ok (.iload_n 1, 1) := by decide +kernel
theorem dJ0_charAt_5068e_21 : decode cJ0_charAt_5068e 21 = .ok (.invokestatic 498, 3) := by decide +kernel
theorem dJ0_charAt_5068e_24 : decode cJ0_charAt_5068e 24 = .ok (.ireturn, 1) := by decide +kernel
theorem dJ0_coder_7d493_0 : decode cJ0_coder_7d493 0 = .ok (.getstatic 38, 3) := by decide +kernel
theorem dJ0_coder_7d493_3 : decode cJ0_coder_7d493 3 = .ok (.ifCond .eq 10, 3) := by decide +kernel
theorem dJ0_coder_7d493_6 : decode cJ0_coder_7d493 6 = .ok (.aload_n 0, 1) := by decide +kernel
theorem dJ0_coder_7d493_7 : decode cJ0_coder_7d493 7 = .ok (.getfield 15, 3) := by decide +kernel
theorem dJ0_coder_7d493_10 : decode cJ0_coder_7d493 10 = .ok (.goto 4, 3) := by decide +kernel
theorem dJ0_coder_7d493_13 : decode cJ0_coder_7d493 13 = .ok (.iconst 1, 1) := by decide +kernel
theorem dJ0_coder_7d493_14 : decode cJ0_coder_7d493 14 = .ok (.ireturn, 1) := by decide +kernel
theorem dJ0_isLatin1_aae02_0 : decode cJ0_isLatin1_aae02 0 = .ok (.getstatic 38, 3) := by decide +kernel
theorem dJ0_isLatin1_aae02_3 : decode cJ0_isLatin1_aae02 3 = .ok (.ifCond .eq 14, 3) := by decide +kernel
theorem dJ0_isLatin1_aae02_6 : decode cJ0_isLatin1_aae02 6 = .ok (.aload_n 0, 1) := by decide +kernel
theorem dJ0_isLatin1_aae02_7 : decode cJ0_isLatin1_aae02 7 = .ok (.getfield 15, 3) := by decide +kernel
theorem dJ0_isLatin1_aae02_10 : decode cJ0_isLatin1_aae02 10 = .ok (.ifCond .ne 7, 3) := by decide +kernel
theorem dJ0_isLatin1_aae02_13 : decode cJ0_isLatin1_aae02 13 = .ok (.iconst 1, 1) := by decide +kernel
theorem dJ0_isLatin1_aae02_14 : decode cJ0_isLatin1_aae02 14 = .ok (.goto 4, 3) := by decide +kernel
theorem dJ0_isLatin1_aae02_17 : decode cJ0_isLatin1_aae02 17 = .ok (.iconst 0, 1) := by decide +kernel
theorem dJ0_isLatin1_aae02_18 : decode cJ0_isLatin1_aae02 18 = .ok (.ireturn, 1) := by decide +kernel
set_option maxRecDepth 20000 in
theorem ggJ0_checkIndex_df160_J3_checkIndex_8e157 : GoodIn wsJ0_checkIndex_df160 wsJ3_checkIndex_8e157 := goodIn_r _ [5] (by decide +kernel) (by decide +kernel)
set_option maxRecDepth 20000 in
theorem gJ0_checkIndex_df160_J3_checkIndex_8e157 : GoodIn wsJ0_checkIndex_df160 (va_wsS RJ0 1059 yJ3_checkIndex_8e157 wsJ3_checkIndex_8e157) := goodIn_app (goodIn_of _ (by decide +kernel)) ggJ0_checkIndex_df160_J3_checkIndex_8e157
theorem dJ0_checkIndex_df160_0 : decode cJ0_checkIndex_df160 0 = .ok (.iload_n 0, 1) := by decide +kernel
theorem dJ0_checkIndex_df160_1 : decode cJ0_checkIndex_df160 1 = .ok (.iload_n 1, 1) := by decide +kernel
theorem dJ0_checkIndex_df160_2 : decode cJ0_checkIndex_df160 2 = .ok (.getstatic 1053, 3) := by decide +kernel
theorem dJ0_checkIndex_df160_5 : decode cJ0_checkIndex_df160 5 = .ok (.invokestatic 1059, 3) := by decide +kernel
theorem dJ0_checkIndex_df160_8 : decode cJ0_checkIndex_df160 8 = .ok (.pop, 1) := by decide +kernel
theorem dJ0_checkIndex_df160_9 : decode cJ0_checkIndex_df160 9 = .ok (.return_, 1) := by decide +kernel
set_option maxRecDepth 20000 in
theorem ggJ1_charAt_3b067_J0_checkIndex_df160 : GoodIn wsJ1_charAt_3b067 wsJ0_checkIndex_df160 := goodIn_r _ [4, 5, 6, 7, 8, 9] (by decide +kernel) (by decide +kernel)
set_option maxRecDepth 20000 in
theorem gJ1_charAt_3b067_J0_checkIndex_df160 : GoodIn wsJ1_charAt_3b067 (va_wsS RJ1 9 yJ0_checkIndex_df160 wsJ0_checkIndex_df160) := goodIn_app (goodIn_of _ (by decide +kernel)) ggJ1_charAt_3b067_J0_checkIndex_df160
theorem dJ1_charAt_3b067_0 : decode cJ1_charAt_3b067 0 = .ok (.iload_n 1, 1) := by decide +kernel
theorem dJ1_charAt_3b067_1 : decode cJ1_charAt_3b067 1 = .ok (.aload_n 0, 1) := by decide +kernel
theorem dJ1_charAt_3b067_2 : decode cJ1_charAt_3b067 2 = .ok (.arraylength, 1) := by decide +kernel
theorem dJ1_charAt_3b067_3 : decode cJ1_charAt_3b067 3 = .ok (.invokestatic 9, 3) := by decide +kernel
theorem dJ1_charAt_3b067_6 : decode cJ1_charAt_3b067 6 = .ok (.aload_n 0, 1) := by decide +kernel
theorem dJ1_charAt_3b067_7 : decode cJ1_charAt_3b067 7 = .ok (.iload_n 1, 1) := by decide +kernel
theorem dJ1_charAt_3b067_8 : decode cJ1_charAt_3b067 8 = .ok (.baload, 1) := by decide +kernel
theorem dJ1_charAt_3b067_9 : decode cJ1_charAt_3b067 9 = .ok (.sipush 255, 3) := by decide +kernel
theorem dJ1_charAt_3b067_12 : decode cJ1_charAt_3b067 12 = .ok (.iand, 1) := by decide +kernel
theorem dJ1_charAt_3b067_13 : decode cJ1_charAt_3b067 13 = .ok (.i2c, 1) := by decide +kernel
theorem dJ1_charAt_3b067_14 : decode cJ1_charAt_3b067 14 = .ok (.ireturn, 1) := by decide +kernel
set_option maxRecDepth 20000 in
theorem ggJ2_getChar_3b067_J2_length_9d52b : GoodIn wsJ2_getChar_3b067 wsJ2_length_9d52b := goodIn_r _ [7] (by decide +kernel) (by decide +kernel)
set_option maxRecDepth 20000 in
theorem gJ2_getChar_3b067_J2_length_9d52b : GoodIn wsJ2_getChar_3b067 (va_wsS RJ2 48 yJ2_length_9d52b wsJ2_length_9d52b) := goodIn_app (goodIn_of _ (by decide +kernel)) ggJ2_getChar_3b067_J2_length_9d52b
theorem dJ2_getChar_3b067_0 : decode cJ2_getChar_3b067 0 = .ok (.getstatic 44, 3) := by decide +kernel
theorem dJ2_getChar_3b067_3 : decode cJ2_getChar_3b067 3 = .ok (.ifCond .ne 25, 3) := by decide +kernel
theorem dJ2_getChar_3b067_6 : decode cJ2_getChar_3b067 6 = .ok (.iload_n 1, 1) := by decide +kernel
theorem dJ2_getChar_3b067_7 : decode cJ2_getChar_3b067 7 = .ok (.ifCond .lt 11, 3) := by decide +kernel
theorem dJ2_getChar_3b067_10 : decode cJ2_getChar_3b067 10 = .ok (.iload_n 1, 1) := by decide +kernel
theorem dJ2_getChar_3b067_11 : decode cJ2_getChar_3b067 11 = .ok (.aload_n 0, 1) := by decide +kernel
theorem dJ2_getChar_3b067_12 : decode cJ2_getChar_3b067 12 = .ok (.invokestatic 48, 3) := by decide +kernel
theorem dJ2_getChar_3b067_15 : decode cJ2_getChar_3b067 15 = .ok (.if_icmp .lt 13, 3) := by decide +kernel
theorem dJ2_getChar_3b067_18 : decode cJ2_getChar_3b067 18 = .ok (.new 52, 3) := by decide +kernel
theorem dJ2_getChar_3b067_21 : decode cJ2_getChar_3b067 21 = .ok (.dup, 1) := by decide +kernel
theorem dJ2_getChar_3b067_22 : decode cJ2_getChar_3b067 22 = .ok (.ldc 54, 2) := by decide +kernel
theorem dJ2_getChar_3b067_24 : decode cJ2_getChar_3b067 24 = .ok (.invokespecial 56, 3) := by decide +kernel
theorem dJ2_getChar_3b067_27 : decode cJ2_getChar_3b067 27 = .ok (.athrow, 1) := by decide +kernel
theorem dJ2_getChar_3b067_28 : decode cJ2_getChar_3b067 28 = .ok (.iload_n 1, 1) := by decide +kernel
theorem dJ2_getChar_3b067_29 : decode cJ2_getChar_3b067 29 = .ok (.iconst 1, 1) := by decide +kernel
theorem dJ2_getChar_3b067_30 : decode cJ2_getChar_3b067 30 = .ok (.ishl, 1) := by decide +kernel
theorem dJ2_getChar_3b067_31 : decode cJ2_getChar_3b067 31 = .ok (.istore_n 1, 1) := by decide +kernel
theorem dJ2_getChar_3b067_32 : decode cJ2_getChar_3b067 32 = .ok (.aload_n 0, 1) := by decide +kernel
theorem dJ2_getChar_3b067_33 : decode cJ2_getChar_3b067 33 = .ok (.iload_n 1, 1) := by decide +kernel
theorem dJ2_getChar_3b067_34 : decode cJ2_getChar_3b067 34 = .ok (.iinc 1 1, 3) := by decide +kernel
theorem dJ2_getChar_3b067_37 : decode cJ2_getChar_3b067 37 = .ok (.baload, 1) := by decide +kernel
theorem dJ2_getChar_3b067_38 : decode cJ2_getChar_3b067 38 = .ok (.sipush 255, 3) := by decide +kernel
theorem dJ2_getChar_3b067_41 : decode cJ2_getChar_3b067 41 = .ok (.iand, 1) := by decide +kernel
theorem dJ2_getChar_3b067_42 : decode cJ2_getChar_3b067 42 = .ok (.getstatic 59, 3) := by decide +kernel
theorem dJ2_getChar_3b067_45 : decode cJ2_getChar_3b067 45 = .ok (.ishl, 1) := by decide +kernel
theorem dJ2_getChar_3b067_46 : decode cJ2_getChar_3b067 46 = .ok (.aload_n 0, 1) := by decide +kernel
theorem dJ2_getChar_3b067_47 : decode cJ2_getChar_3b067 47 = .ok (.iload_n 1, 1) := by decide +kernel
theorem dJ2_getChar_3b067_48 : decode cJ2_getChar_3b067 48 = .ok (.baload, 1) := by decide +kernel
theorem dJ2_getChar_3b067_49 : decode cJ2_getChar_3b067 49 = .ok (.sipush 255, 3) := by decide +kernel
theorem dJ2_getChar_3b067_52 : decode cJ2_getChar_3b067 52 = .ok (.iand, 1) := by decide +kernel
theorem dJ2_getChar_3b067_53 : decode cJ2_getChar_3b067 53 = .ok (.getstatic 63, 3) := by decide +kernel
theorem dJ2_getChar_3b067_56 : decode cJ2_getChar_3b067 56 = .ok (.ishl, 1) := by decide +kernel
theorem dJ2_getChar_3b067_57 : decode cJ2_getChar_3b067 57 = .ok (.ior, 1) := by decide +kernel
theorem dJ2_getChar_3b067_58 : decode cJ2_getChar_3b067 58 = .ok (.i2c, 1) := by decide +kernel
theorem dJ2_getChar_3b067_59 : decode cJ2_getChar_3b067 59 = .ok (.ireturn, 1) := by decide +kernel
theorem dJ2_length_9d52b_0 : decode cJ2_length_9d52b 0 = .ok (.aload_n 0, 1) := by decide +kernel
theorem dJ2_length_9d52b_1 : decode cJ2_length_9d52b 1 = .ok (.arraylength, 1) := by decide +kernel
theorem dJ2_length_9d52b_2 : decode cJ2_length_9d52b 2 = .ok (.iconst 1, 1) := by decide +kernel
theorem dJ2_length_9d52b_3 : decode cJ2_length_9d52b 3 = .ok (.ishr, 1) := by decide +kernel
theorem dJ2_length_9d52b_4 : decode cJ2_length_9d52b 4 = .ok (.ireturn, 1) := by decide +kernel
set_option maxRecDepth 20000 in
theorem ggJ2_charAt_3b067_J2_checkIndex_2214a : GoodIn wsJ2_charAt_3b067 wsJ2_checkIndex_2214a := goodIn_r _ [4, 5, 6, 3, 7, 8, 9, 10, 11, 12, 13, 14, 15, 16] (by decide +kernel) (by decide +kernel)
set_option maxRecDepth 20000 in
theorem gJ2_charAt_3b067_J2_checkIndex_2214a : GoodIn wsJ2_charAt_3b067 (va_wsS RJ2 67 yJ2_checkIndex_2214a wsJ2_checkIndex_2214a) := goodIn_app (goodIn_of _ (by decide +kernel)) ggJ2_charAt_3b067_J2_checkIndex_2214a
set_option maxRecDepth 20000 in
theorem ggJ2_charAt_3b067_J2_getChar_3b067 : GoodIn wsJ2_charAt_3b067 wsJ2_getChar_3b067 := goodIn_r _ [19, 20, 21, 22, 5, 6, 3, 7] (by decide +kernel) (by decide +kernel)
set_option maxRecDepth 20000 in
theorem gJ2_charAt_3b067_J2_getChar_3b067 : GoodIn wsJ2_charAt_3b067 (va_wsS RJ2 71 yJ2_getChar_3b067 wsJ2_getChar_3b067) := goodIn_app (goodIn_of _ (by decide +kernel)) ggJ2_charAt_3b067_J2_getChar_3b067
theorem dJ2_charAt_3b067_0 : decode cJ2_charAt_3b067 0 = .ok (.iload_n 1, 1) := by decide +kernel
theorem dJ2_charAt_3b067_1 : decode cJ2_charAt_3b067 1 = .ok (.aload_n 0, 1) := by decide +kernel
theorem dJ2_charAt_3b067_2 : decode cJ2_charAt_3b067 2 = .ok (.invokestatic 67, 3) := by decide +kernel
theorem dJ2_charAt_3b067_5 : decode cJ2_charAt_3b067 5 = .ok (.aload_n 0, 1) := by decide +kernel
theorem dJ2_charAt_3b067_6 : decode cJ2_charAt_3b067 6 = .ok (.iload_n 1, 1) := by decide +kernel
theorem dJ2_charAt_3b067_7 : decode cJ2_charAt_3b067 7 = .ok (.invokestatic 71, 3) := by decide +kernel
theorem dJ2_charAt_3b067_10 : decode cJ2_charAt_3b067 10 = .ok (.ireturn, 1) := by decide +kernel
set_option maxRecDepth 20000 in
theorem ggJ2_checkIndex_2214a_J2_length_9d52b : GoodIn wsJ2_checkIndex_2214a wsJ2_length_9d52b := goodIn_r _ [4] (by decide +kernel) (by decide +kernel)
set_option maxRecDepth 20000 in
theorem gJ2_checkIndex_2214a_J2_length_9d52b : GoodIn wsJ2_checkIndex_2214a (va_wsS RJ2 48 yJ2_length_9d52b wsJ2_length_9d52b) := goodIn_app (goodIn_of _ (by decide +kernel)) ggJ2_checkIndex_2214a_J2_length_9d52b
set_option maxRecDepth 20000 in
theorem ggJ2_checkIndex_2214a_J0_checkIndex_df160 : GoodIn wsJ2_checkIndex_2214a wsJ0_checkIndex_df160 := goodIn_r _ [8, 9, 10, 11, 12, 13] (by decide +kernel) (by decide +kernel)
set_option maxRecDepth 20000 in
theorem gJ2_checkIndex_2214a_J0_checkIndex_df160 : GoodIn wsJ2_checkIndex_2214a (va_wsS RJ2 414 yJ0_checkIndex_df160 wsJ0_checkIndex_df160) := goodIn_app (goodIn_of _ (by decide +kernel)) ggJ2_checkIndex_2214a_J0_checkIndex_df160
theorem dJ2_checkIndex_2214a_0 : decode cJ2_checkIndex_2214a 0 = .ok (.iload_n 0, 1) := by decide +kernel
theorem dJ2_checkIndex_2214a_1 : decode cJ2_checkIndex_2214a 1 = .ok (.aload_n 1, 1) := by decide +kernel
theorem dJ2_checkIndex_2214a_2 : decode cJ2_checkIndex_2214a 2 = .ok (.invokestatic 48, 3) := by decide +kernel
theorem dJ2_checkIndex_2214a_5 : decode cJ2_checkIndex_2214a 5 = .ok (.invokestatic 414, 3) := by decide +kernel
theorem dJ2_checkIndex_2214a_8 : decode cJ2_checkIndex_2214a 8 = .ok (.return_, 1) := by decide +kernel
theorem dJ3_checkIndex_8e157_0 : decode cJ3_checkIndex_8e157 0 = .ok (.iload_n 0, 1) := by decide +kernel
theorem dJ3_checkIndex_8e157_1 : decode cJ3_checkIndex_8e157 1 = .ok (.ifCond .lt 8, 3) := by decide +kernel
theorem dJ3_checkIndex_8e157_4 : decode cJ3_checkIndex_8e157 4 = .ok (.iload_n 0, 1) := by decide +kernel
theorem dJ3_checkIndex_8e157_5 : decode cJ3_checkIndex_8e157 5 = .ok (.iload_n 1, 1) := by decide +kernel
theorem dJ3_checkIndex_8e157_6 : decode cJ3_checkIndex_8e157 6 = .ok (.if_icmp .lt 10, 3) := by decide +kernel
theorem dJ3_checkIndex_8e157_9 : decode cJ3_checkIndex_8e157 9 = .ok (.aload_n 2, 1) := by decide +kernel
theorem dJ3_checkIndex_8e157_10 : decode cJ3_checkIndex_8e157 10 = .ok (.iload_n 0, 1) := by decide +kernel
theorem dJ3_checkIndex_8e157_11 : decode cJ3_checkIndex_8e157 11 = .ok (.iload_n 1, 1) := by decide +kernel
theorem dJ3_checkIndex_8e157_12 : decode cJ3_checkIndex_8e157 12 = .ok (.invokestatic 95, 3) := by decide +kernel
theorem dJ3_checkIndex_8e157_15 : decode cJ3_checkIndex_8e157 15 = .ok (.athrow, 1) := by decide +kernel
theorem dJ3_checkIndex_8e157_16 : decode cJ3_checkIndex_8e157 16 = .ok (.iload_n 0, 1) := by decide +kernel
theorem dJ3_checkIndex_8e157_17 : decode cJ3_checkIndex_8e157 17 = .ok (.ireturn, 1) := by decide +kernel
end
section
/-! THE FRAME OF THIS PROOF. A world is a block of cells at B + 0, B + 1 ..; 'sh' tells the shape of each, a memory 'x' what ints they hold: x a k is the k-th int of the a-th cell. -/
abbrev Mem : Type := Nat → Nat → Int32
def mst (x : Mem) (a k : Nat) (v : Int32) : Mem := fun a' => if a' = a then upd (x a) k v else x a'
theorem mst_eq (x : Mem) (a k : Nat) (v : Int32) : mst x a k v a = upd (x a) k v := if_pos rfl
theorem mst_ne {x : Mem} {a k : Nat} {v : Int32} {b : Nat} (h : b ≠ a) : mst x a k v b = x b := if_neg h
theorem upd_eq (f : Nat → Int32) (k : Nat) (v : Int32) : upd f k v k = v := if_pos rfl
theorem upd_ne {f : Nat → Int32} {k j : Nat} {v : Int32} (h : j ≠ k) : upd f k v j = f j := if_neg h
theorem mst_self (x : Mem) (a k : Nat) (v : Int32) : mst x a k v a k = v := by rw [mst_eq, upd_eq]
theorem mst_app (x : Mem) (a k : Nat) (v : Int32) (b j : Nat) : mst x a k v b j = if b = a ∧ j = k then v else x b j := by
  unfold mst
  by_cases h : b = a
  · subst h
    by_cases hj : j = k
    · simp [upd, hj]
    · simp [upd, hj]
  · simp [h]
/-- class numbers: of the classes and their slots, of the arrays -/
abbrev GG : Type := va_G × (Nat → ClassId)
abbrev tyl (G : GG) : List (ClassId × FieldType) := [(G.2 0, .int), (G.2 1, .byte), (G.2 2, .object "WindTaken$Mill"), (G.2 3, .object "WindTaken$Quarter"), (G.2 4, .object "WindTaken$Ridge"), (G.2 5, .object "WindTaken$Row")]
/-- a world: how many cells, the first, their shapes, what may be written, what else it stands on -/
abbrev WD : Type := Nat × Nat × (Nat → (Nat → Int32) → va_E) × (Nat → Prop) × (State → Heap → Prop)
def MR (G : GG) (w : WD) (x : Mem) (H : Heap) : Prop := ∀ a, a < w.1 → va_at G.1 vwCl (w.2.1 + a, w.2.2.1 a (x a)) H
def WOK (w : WD) : Prop := (∀ a, a < w.1 → w.2.2.2.1 (w.2.1 + a)) ∧ (∀ (u U : State) (H : Heap), U.vm = u.vm → w.2.2.2.2 u H → w.2.2.2.2 U H) ∧ (∀ (u U : State) (H : Heap), u.WarmedH U.vm → w.2.2.2.2 u H → w.2.2.2.2 U H) ∧ (∀ (U : State) (H H1 : Heap), w.2.2.2.2 U H → (∀ q : Nat, q < H.size → ¬ w.2.2.2.1 q → H1[q]? = H[q]?) → w.2.2.2.2 U H1)
abbrev nestL : List (String × Nat × MethodName × String) := [(RX7, 17, yX5_init, "WindTaken"), (RX7, 53, yX6_init, "WindTaken"), (RX7, 58, yX4_init, "WindTaken"), (RX1, 47, yX7_bit, "WindTaken"), (RX1, 80, yX7_isWithin, "WindTaken"), (RX2, 127, yX7_isWithin, "WindTaken"), (RX3, 17, yX0_init, "WindTaken"), (RX3, 48, yX7_bit, "WindTaken")]
def KN (G : GG) (U : State) : Prop := va_K G.1 vwCl (tyl G) U ∧ ∀ q ∈ nestL, va_Nw (.methodLinkNest q.1 q.2.1 q.2.2.1 q.2.2.2) U
theorem KN.same {G : GG} {u U : State} (h : U.vm = u.vm) (hK : KN G u) : KN G U := ⟨va_K.moved (by rw [h]; exact Vm.Alike.refl _) hK.1, fun q hq => va_Nw.same rfl h.symm (hK.2 q hq)⟩
theorem KN.warm {G : GG} {u U : State} (h : u.WarmedH U.vm) (hK : KN G u) : KN G U := ⟨va_K.moved h.alike hK.1, fun q hq => va_Nw.warmM h (hK.2 q hq)⟩
/-- a method's start: its arguments, the world, what is known -/
def XP (G : GG) (w : WD) (av : List Value) (x : Mem) : Array Value → State → Prop := va_Pc av (fun U => MR G w x U.heap ∧ KN G U ∧ w.2.2.2.2 U U.heap)
def XB (G : GG) (w : WD) : Mem → State → Prop := fun u U => MR G w u U.heap
theorem MR.one {G : GG} {w : WD} {x : Mem} {H : Heap} (h : MR G w x H) {a : Nat} (ha : a < w.1) {e : va_E} (he : w.2.2.1 a (x a) = e) : va_P G.1 vwCl [(w.2.1 + a, e)] H := by
  intro k q hk
  match k, hk with
  | 0, hk => cases hk; rw [← he]; exact h a ha
  | k + 1, hk => simp at hk
theorem MR.put {G : GG} {w : WD} {x : Mem} {H H1 : Heap} (h : MR G w x H) {a k : Nat} {v : Int32} (hq : va_at G.1 vwCl (w.2.1 + a, w.2.2.1 a (upd (x a) k v)) H1) (oq : ∀ q : Nat, q ≠ w.2.1 + a → H1[q]? = H[q]?) : MR G w (mst x a k v) H1 := by
  intro b hb
  by_cases hba : b = a
  · subst hba; rw [mst_eq]; exact hq
  · rw [mst_ne hba]
    exact (h b hb).kept (oq _ (by show w.2.1 + b ≠ w.2.1 + a; omega))
theorem x_pre {G : GG} {w : WD} {x : Mem} {H : Heap} {s : State} {locs : List Loc} (hW : WOK w) (hX : MR G w x H) (hK : KN G s) (hE : w.2.2.2.2 s s.heap) (hS : va_S w.2.2.2.1 s.heap H locs) (av : List Value) : FrameBlind (XP G w av x) ∧ ∀ U : State, U.heap = H → s.WarmedH U.vm → XP G w av x av.toArray U := by
  refine ⟨fun a U g mk q => ⟨q.1, q.2.1, KN.same (u := U) (U := U.calling g mk a) rfl q.2.2.1, hW.2.1 U (U.calling g mk a) _ rfl q.2.2.2⟩, fun U hU hV => ⟨rfl, by rw [hU]; exact hX, KN.warm hV hK, ?_⟩⟩
  rw [hU]
  exact hW.2.2.1 s U _ hV (hW.2.2.2 s s.heap H hE hS.2.1)
theorem x_rcv {G : GG} {w : WD} {x : Mem} {H : Heap} {s : State} (hX : MR G w x H) (hK : KN G s) {a : Nat} (ha : a < w.1) {ci : Nat} {fs : List Value} (he : w.2.2.1 a (x a) = .inr (ci, fs)) {q : vw_C} (hc : vwCl[ci]? = some q) : ∃ cell : Cell, H[w.2.1 + a]? = some cell ∧ cell.vm.isStatics = false ∧ s.vm.findClass q.1 = some cell.cls := va_recv hK.1 (hX.one ha he) hc (q0 := 0) rfl
theorem x_pv {G : GG} {w : WD} {x : Mem} {H : Heap} {s : State} {locs : List Loc} (hW : WOK w) (hX : MR G w x H) (hK : KN G s) (hE : w.2.2.2.2 s s.heap) (hS : va_S w.2.2.2.1 s.heap H locs) (As : List Value) {a : Nat} (ha : a < w.1) {ci : Nat} {fs : List Value} (he : w.2.2.1 a (x a) = .inr (ci, fs)) {q : vw_C} (hc : vwCl[ci]? = some q) : PreV s H q.1 (w.2.1 + a) (XP G w (.ref (w.2.1 + a) :: As) x) As :=
  ⟨(x_pre hW hX hK hE hS (.ref (w.2.1 + a) :: As)).1, x_rcv hX hK ha he hc, (x_pre hW hX hK hE hS (.ref (w.2.1 + a) :: As)).2⟩
theorem x_ps {G : GG} {w : WD} {x : Mem} {H : Heap} {s : State} {locs : List Loc} (hW : WOK w) (hX : MR G w x H) (hK : KN G s) (hE : w.2.2.2.2 s s.heap) (hS : va_S w.2.2.2.1 s.heap H locs) (As : List Value) : PreS s H (XP G w As x) As := x_pre hW hX hK hE hS As
/-- a bit -/
def bI (b : Bool) : Int32 := if b then 1 else 0
section XW
variable {p : Program} {l : Launch} {e : Env} {R : Room} {s : State} {m : MethodId} {args : Array Value} {below : List Frame} {meth : Method} {c : Code} {H : Heap} {locs : List Loc} {cells slots : Nat} {Q : State → Prop}
variable {cc : ByteArray} {pc : Nat} {ls : Array Slot} {rest st0 : List Value} {G : GG} {w : WD} {x : Mem} {a : Nat} {aa : Array Value}
theorem x_get (hexec : p.tables.exec = Jvm.exec) (hb : c.code = cc) {own ref C : String} {T : u_T} {N ci index : Nat} {Ts : List Cond} (hts : ∀ w ∈ Ts, w.before args s = true) (hin : ∀ w ∈ u_ws C T N, w ∈ Ts) (hown : s.vm.findClass own = some m.cls) (hK : KN G s) (hX : MR G w x H) (ha : a < w.1) {fs : List Value} (he : w.2.2.1 a (x a) = .inr (ci, fs)) (hc : vwCl[ci]? = some (C, T, N)) (k : Nat) (hk : k < N) (hlink : (Cond.fieldLink own index ref (T k).2.1 (T k).2.2.1).before args s = true) (hsame : ∀ x, s.fieldFound? (T k).1 (T k).2.1 (T k).2.2.1 = some x → s.fieldFound? ref (T k).2.1 (T k).2.2.1 = some x) {v : Value} (hv : fs[k]? = some v) (hdg : decode cc pc = .ok (.getfield index, 3))
    (kk : W p l e R s m args below meth c H locs cells slots Q (F0 m (pc + 3) ls (v :: rest))) : W p l e R s m args below meth c H locs cells slots Q (F0 m pc ls (.ref (w.2.1 + a) :: rest)) :=
  va_get hexec hb hts hin hown hK.1 (hX.one ha he) 0 rfl hc k hk hlink hsame hv hdg kk
theorem x_put (hexec : p.tables.exec = Jvm.exec) (hb : c.code = cc) {own ref C : String} {T : u_T} {N ci index : Nat} {Ts : List Cond} (hts : ∀ w ∈ Ts, w.before args s = true) (hin : ∀ w ∈ u_ws C T N, w ∈ Ts) (ty0 : Nat → FieldType) (hty : ∀ k, k < N → parseFieldDescriptor (T k).2.2.1 = some (ty0 k)) (hnm : ∀ a, a < N → ∀ b, b < N → a ≠ b → (T a).2.1 ≠ (T b).2.1) (hown : s.vm.findClass own = some m.cls) (hK : KN G s) (hW : WOK w) (hX : MR G w x H) (hS : va_S w.2.2.2.1 s.heap H locs) (ha : a < w.1) {fs : List Value} (he : w.2.2.1 a (x a) = .inr (ci, fs)) (hc : vwCl[ci]? = some (C, T, N)) (k : Nat) (hk : k < N) (hlink : (Cond.fieldLink own index ref (T k).2.1 (T k).2.2.1).before args s = true) (hsame : ∀ x, s.fieldFound? (T k).1 (T k).2.1 (T k).2.2.1 = some x → s.fieldFound? ref (T k).2.1 (T k).2.2.1 = some x) (hfin : (T k).2.2.2 = false) {ty : FieldType} {v : Int32} (hd : parseFieldDescriptor (T k).2.2.1 = some ty) (hn : narrow ty (.int v) = .int v) (hfit : fits ty (.int v) = true) (hl : k < fs.length) (he1 : w.2.2.1 a (upd (x a) k v) = .inr (ci, fs.set k (.int v)))
    (hdg : decode cc pc = .ok (.putfield index, 3)) (kk : ∀ (H1 : Heap) (locs1 : List Loc), MR G w (mst x a k v) H1 → va_S w.2.2.2.1 s.heap H1 locs1 → W p l e R s m args below meth c H1 locs1 cells slots Q (F0 m (pc + 3) ls rest)) : W p l e R s m args below meth c H locs cells slots Q (F0 m pc ls (.int v :: .ref (w.2.1 + a) :: rest)) := by
  have hap := va_apart (own := own) hts hin ty0 hty hnm hK.1 hc
  obtain ⟨r, h1, cell, q1, q2, q3, q4⟩ := hX.one ha he 0 _ rfl
  have hr : r = (C, T, N) := Option.some.inj (h1.symm.trans hc)
  subst hr
  obtain ⟨hS2, hfc, kC, hkC, hkind⟩ := hK.1.1 ci _ hc
  obtain ⟨cf, kf, fi, f, hi, hsl⟩ := hS2 k hk
  have hlay := hts _ (hin _ (u_in_lay hk))
  unfold u_lay at hlay
  rw [if_neg (by rw [hfin]; decide)] at hlay
  have hst := (u_facts hfc hkC (u_lays hts hin hk) hi).1
  have h6 := u_store hfc hkC hkind hlay hi hd hn hfit
  refine W.putK hexec hb (f := f) ⟨hown, hlink, ⟨_, _, _, hsame _ hi⟩, hst⟩ (by rw [q2]; exact h6) q1 q3 (by rw [hsl]; exact k2_hasslot (q4 k hk)) rfl rfl hdg fun H' e1 e2 e3 => ?_
  rw [hsl] at e1 ⊢
  refine kk H' _ (hX.put ?_ e3) (hS.put e2 e3 (hW.1 a ha))
  rw [he1]
  exact ⟨_, hc, t_OB.to (V := updV (vp_V fs) k (.int v)) ⟨_, e1, q2, q3, t_set q4 hap hk (.int v)⟩ (fun j _ => vp_updV_set hl (.int v) j)⟩
theorem x_iald (hexec : p.tables.exec = Jvm.exec) (hb : c.code = cc) (hK : KN G s) (hX : MR G w x H) (ha : a < w.1) {n : Nat} (he : w.2.2.1 a (x a) = .inl (G.2 0, n, .inl (x a))) {i : Int32} {j : Nat} (hi : i = nI j) (hj : j < n) (hn : n < 2 ^ 31) (hdg : decode cc pc = .ok (.iaload, 1))
    (kk : W p l e R s m args below meth c H locs cells slots Q (F0 m (pc + 1) ls (.int (x a j) :: rest))) : W p l e R s m args below meth c H locs cells slots Q (F0 m pc ls (.int i :: .ref (w.2.1 + a) :: rest)) := by
  subst hi
  have hc : (nI j).toNatClampNeg = j := nI_clamp (by omega)
  refine va_iald hexec hb hK.1 (hX.one ha he) 0 0 rfl rfl (vp_in_nI hj hn) hdg ?_
  rw [hc]
  exact kk
theorem x_bald (hexec : p.tables.exec = Jvm.exec) (hb : c.code = cc) (hK : KN G s) (hX : MR G w x H) (ha : a < w.1) {n : Nat} (he : w.2.2.1 a (x a) = .inl (G.2 1, n, .inl (x a))) {i : Int32} {j : Nat} (hi : i = nI j) (hj : j < n) (hn : n < 2 ^ 31) (hdg : decode cc pc = .ok (.baload, 1))
    (kk : W p l e R s m args below meth c H locs cells slots Q (F0 m (pc + 1) ls (.int (x a j) :: rest))) : W p l e R s m args below meth c H locs cells slots Q (F0 m pc ls (.int i :: .ref (w.2.1 + a) :: rest)) := by
  subst hi
  have hc : (nI j).toNatClampNeg = j := nI_clamp (by omega)
  refine va_bald hexec hb hK.1 (hX.one ha he) 0 1 rfl rfl (vp_in_nI hj hn) hdg ?_
  rw [hc]
  exact kk
theorem x_aald (hexec : p.tables.exec = Jvm.exec) (hb : c.code = cc) (hK : KN G s) (hX : MR G w x H) (ha : a < w.1) {n t0 : Nat} {C : String} {cA : ClassId} {f : Nat → Option Nat} (he : w.2.2.1 a (x a) = .inl (cA, n, .inr (.inr (.inr (.inr f))))) (ht : (tyl G)[t0]? = some (cA, .object C)) {i : Int32} {j q : Nat} (hi : i = nI j) (hj : j < n) (hn : n < 2 ^ 31) (hf : f j = some q) (hdg : decode cc pc = .ok (.aaload, 1))
    (kk : W p l e R s m args below meth c H locs cells slots Q (F0 m (pc + 1) ls (.ref q :: rest))) : W p l e R s m args below meth c H locs cells slots Q (F0 m pc ls (.int i :: .ref (w.2.1 + a) :: rest)) := by
  subst hi
  have hc : (nI j).toNatClampNeg = j := nI_clamp (by omega)
  refine va_aldq hexec hb hK.1 (hX.one ha he) 0 t0 rfl ht (vp_in_nI hj hn) hdg ?_
  rw [hc, hf]
  exact kk
theorem x_alen (hexec : p.tables.exec = Jvm.exec) (hb : c.code = cc) (hK : KN G s) (hX : MR G w x H) (ha : a < w.1) {t0 : Nat} {cA : ClassId} {z : vp_A} {ty : FieldType} (he : w.2.2.1 a (x a) = .inl (cA, z)) (ht : (tyl G)[t0]? = some (cA, ty)) {v : Int32} (hv : Int32.ofNat z.1 = v) (hdg : decode cc pc = .ok (.arraylength, 1))
    (kk : W p l e R s m args below meth c H locs cells slots Q (F0 m (pc + 1) ls (.int v :: rest))) : W p l e R s m args below meth c H locs cells slots Q (F0 m pc ls (.ref (w.2.1 + a) :: rest)) :=
  va_alen hexec hb hK.1 (hX.one ha he) 0 t0 rfl ht hv hdg kk
theorem x_iast (hexec : p.tables.exec = Jvm.exec) (hb : c.code = cc) (hK : KN G s) (hW : WOK w) (hX : MR G w x H) (hS : va_S w.2.2.2.1 s.heap H locs) (ha : a < w.1) {n : Nat} (he : ∀ f, w.2.2.1 a f = .inl (G.2 0, n, .inl f)) {i v : Int32} {j : Nat} (hi : i = nI j) (hj : j < n) (hn : n < 2 ^ 31) (hdg : decode cc pc = .ok (.iastore, 1))
    (kk : ∀ (H1 : Heap) (locs1 : List Loc), MR G w (mst x a j v) H1 → va_S w.2.2.2.1 s.heap H1 locs1 → W p l e R s m args below meth c H1 locs1 cells slots Q (F0 m (pc + 1) ls rest)) : W p l e R s m args below meth c H locs cells slots Q (F0 m pc ls (.int v :: .int i :: .ref (w.2.1 + a) :: rest)) := by
  subst hi
  have hc : (nI j).toNatClampNeg = j := nI_clamp (by omega)
  have hin := vp_in_nI hj hn
  refine W.iast hexec hb (hX.one ha (he _) 0 _ rfl) ((hK.1.2 0 _ rfl).1 n (fun j => .int (x a j))) (fun q => by cases q) (by show ¬ (nI j < 0 ∨ (arrV _ _ _).slots.size ≤ _); rw [arrV_size]; exact hin) rfl rfl hdg fun H1 e z oq => ?_
  refine kk H1 _ (hX.put ?_ oq) (hS.put z oq (hW.1 a ha))
  rw [he]
  show H1[w.2.1 + a]? = some (vp_cell _ _)
  rw [e, hc]
  rw [vp_cell_i, vp_cell_i, arrV_store]
  congr 2
  funext q
  by_cases hq : q = j
  · subst hq
    simp [updV, upd]
  · simp [updV, upd, hq]
theorem x_bast (hexec : p.tables.exec = Jvm.exec) (hb : c.code = cc) (hK : KN G s) (hW : WOK w) (hX : MR G w x H) (hS : va_S w.2.2.2.1 s.heap H locs) (ha : a < w.1) {n : Nat} (he : ∀ f, w.2.2.1 a f = .inl (G.2 1, n, .inl f)) {i v : Int32} {j : Nat} (hi : i = nI j) (hj : j < n) (hn : n < 2 ^ 31) (hdg : decode cc pc = .ok (.bastore, 1))
    (kk : ∀ (H1 : Heap) (locs1 : List Loc), MR G w (mst x a j (v.toInt8.toInt32)) H1 → va_S w.2.2.2.1 s.heap H1 locs1 → W p l e R s m args below meth c H1 locs1 cells slots Q (F0 m (pc + 1) ls rest)) : W p l e R s m args below meth c H locs cells slots Q (F0 m pc ls (.int v :: .int i :: .ref (w.2.1 + a) :: rest)) := by
  subst hi
  have hc : (nI j).toNatClampNeg = j := nI_clamp (by omega)
  have hin := vp_in_nI hj hn
  refine W.bast hexec hb (hX.one ha (he _) 0 _ rfl) ((hK.1.2 1 _ rfl).1 n (fun j => .int (x a j))) (fun q => by cases q) (by show ¬ (nI j < 0 ∨ (arrV _ _ _).slots.size ≤ _); rw [arrV_size]; exact hin) rfl rfl hdg fun H1 e z oq => ?_
  refine kk H1 _ (hX.put ?_ oq) (hS.put z oq (hW.1 a ha))
  rw [he]
  show H1[w.2.1 + a]? = some (vp_cell _ _)
  rw [e, hc]
  rw [vp_cell_i, vp_cell_i, arrV_store]
  congr 2
  funext q
  by_cases hq : q = j
  · subst hq
    simp [updV, upd]
    try rfl
  · simp [updV, upd, hq]
/-- behind a call that answers v and leaves the memory as it was -/
theorem x_ip {v : Int32} (hr : va_Run p l e R s m args below meth c H locs cells slots 0 0 (F0 m pc ls st0) rest (va_Qi (fun r u => r = v ∧ u = x) (XB G w) w.2.2.2.1 aa) w.2.2.2.1) (hS : va_S w.2.2.2.1 s.heap H locs)
    (kk : ∀ (H1 : Heap) (locs1 : List Loc), MR G w x H1 → va_S w.2.2.2.1 s.heap H1 locs1 → W p l e R s m args below meth c H1 locs1 cells slots Q (F0 m (pc + 3) ls (.int v :: rest))) : W p l e R s m args below meth c H locs cells slots Q (F0 m pc ls st0) := by
  refine va_calli hr hS (fun _ _ h => h) (fun _ h => h) (fun r u t H1 locs1 ht hvm hp hB hz hk hS1 => ?_)
  obtain ⟨rfl, rfl⟩ := hp
  have hB1 : MR G w u t.heap := hB
  rw [ht] at hB1
  exact kk H1 locs1 hB1 hS1
/-- behind a call whose answer and memory are told by 'post' -/
theorem x_if {post : Int32 → Mem → Prop} (hr : va_Run p l e R s m args below meth c H locs cells slots 0 0 (F0 m pc ls st0) rest (va_Qi post (XB G w) w.2.2.2.1 aa) w.2.2.2.1) (hS : va_S w.2.2.2.1 s.heap H locs)
    (kk : ∀ (r : Int32) (u : Mem) (H1 : Heap) (locs1 : List Loc), post r u → MR G w u H1 → va_S w.2.2.2.1 s.heap H1 locs1 → W p l e R s m args below meth c H1 locs1 cells slots Q (F0 m (pc + 3) ls (.int r :: rest))) : W p l e R s m args below meth c H locs cells slots Q (F0 m pc ls st0) := by
  refine va_calli hr hS (fun _ _ h => h) (fun _ h => h) (fun r u t H1 locs1 ht hvm hp hB hz hk hS1 => ?_)
  have hB1 : MR G w u t.heap := hB
  rw [ht] at hB1
  exact kk r u H1 locs1 hp hB1 hS1
theorem x_vf {post : Mem → Prop} (hr : va_Run p l e R s m args below meth c H locs cells slots 0 0 (F0 m pc ls st0) rest (va_Qv post (XB G w) w.2.2.2.1 aa) w.2.2.2.1) (hS : va_S w.2.2.2.1 s.heap H locs)
    (kk : ∀ (u : Mem) (H1 : Heap) (locs1 : List Loc), post u → MR G w u H1 → va_S w.2.2.2.1 s.heap H1 locs1 → W p l e R s m args below meth c H1 locs1 cells slots Q (F0 m (pc + 3) ls rest)) : W p l e R s m args below meth c H locs cells slots Q (F0 m pc ls st0) := by
  refine va_callv hr hS (fun _ _ h => h) (fun _ h => h) (fun u t H1 locs1 ht hvm hp hB hz hk hS1 => ?_)
  have hB1 : MR G w u t.heap := hB
  rw [ht] at hB1
  exact kk u H1 locs1 hp hB1 hS1
theorem x_vp {x1 : Mem} (hr : va_Run p l e R s m args below meth c H locs cells slots 0 0 (F0 m pc ls st0) rest (va_Qv (fun u => u = x1) (XB G w) w.2.2.2.1 aa) w.2.2.2.1) (hS : va_S w.2.2.2.1 s.heap H locs)
    (kk : ∀ (H1 : Heap) (locs1 : List Loc), MR G w x1 H1 → va_S w.2.2.2.1 s.heap H1 locs1 → W p l e R s m args below meth c H1 locs1 cells slots Q (F0 m (pc + 3) ls rest)) : W p l e R s m args below meth c H locs cells slots Q (F0 m pc ls st0) :=
  x_vf hr hS (fun u H1 locs1 hp hX hS => by subst hp; exact kk H1 locs1 hX hS)
/-- an address for an answer: 'va_Qr' with the address told -/
def XR (G : GG) (w : WD) (q : Nat) : Mem → Nat → State → Prop := fun u ra U => ra = q ∧ MR G w u U.heap
theorem x_rf {post : Mem → Prop} {q : Nat} (hr : va_Run p l e R s m args below meth c H locs cells slots 0 0 (F0 m pc ls st0) rest (va_Qr post (XR G w q) w.2.2.2.1 aa) w.2.2.2.1) (hS : va_S w.2.2.2.1 s.heap H locs)
    (kk : ∀ (u : Mem) (H1 : Heap) (locs1 : List Loc), post u → MR G w u H1 → va_S w.2.2.2.1 s.heap H1 locs1 → W p l e R s m args below meth c H1 locs1 cells slots Q (F0 m (pc + 3) ls (.ref q :: rest))) : W p l e R s m args below meth c H locs cells slots Q (F0 m pc ls st0) := by
  refine va_callr hr hS (fun _ _ h => h) (fun _ h => h) (fun u ra t H1 locs1 ht hvm hp hB hz hk hS1 => ?_)
  obtain ⟨rfl, hB1⟩ := hB
  rw [ht] at hB1
  exact kk u H1 locs1 hp hB1 hS1
/-- the ends -/
theorem x_iret {post : Int32 → Mem → Prop} {v : Int32} (hexec : p.tables.exec = Jvm.exec) (hb : c.code = cc) (hr : meth.sig.returnType = some .int) (hX : MR G w x H) (hS : va_S w.2.2.2.1 s.heap H locs) (hlocks : meth.locks = false) (hdg : decode cc pc = .ok (.ireturn, 1)) (hp : post v x) : W p l e R s m args below meth c H locs cells slots (MQ below (va_Qi post (XB G w) w.2.2.2.1) args s cells slots w.2.2.2.1) (F0 m pc ls [.int v]) :=
  W.iret (v := v) hexec hb hr (fun t ht _ => ⟨⟨v, x, rfl, hp, (by show MR G w x t.heap; rw [ht]; exact hX)⟩, hS.F ht⟩) hS.2.2 hdg hlocks
theorem x_zret {post : Int32 → Mem → Prop} {v : Int32} {ty : FieldType} (hexec : p.tables.exec = Jvm.exec) (hb : c.code = cc) (hr : meth.sig.returnType = some ty) (hn : narrow ty (.int v) = .int v) (hX : MR G w x H) (hS : va_S w.2.2.2.1 s.heap H locs) (hlocks : meth.locks = false) (hdg : decode cc pc = .ok (.ireturn, 1)) (hp : post v x) : W p l e R s m args below meth c H locs cells slots (MQ below (va_Qi post (XB G w) w.2.2.2.1) args s cells slots w.2.2.2.1) (F0 m pc ls [.int v]) :=
  W.zret (v := v) hexec hb hr hn (fun t ht _ => ⟨⟨v, x, rfl, hp, (by show MR G w x t.heap; rw [ht]; exact hX)⟩, hS.F ht⟩) hS.2.2 hdg hlocks
theorem x_vret {post : Mem → Prop} (hexec : p.tables.exec = Jvm.exec) (hb : c.code = cc) (hr : meth.sig.returnType = none) (hX : MR G w x H) (hS : va_S w.2.2.2.1 s.heap H locs) (hlocks : meth.locks = false) (hdg : decode cc pc = .ok (.return_, 1)) (hp : post x) : W p l e R s m args below meth c H locs cells slots (MQ below (va_Qv post (XB G w) w.2.2.2.1) args s cells slots w.2.2.2.1) (F0 m pc ls []) :=
  W.vret hexec hb hr (fun t ht _ => ⟨⟨x, rfl, hp, (by show MR G w x t.heap; rw [ht]; exact hX)⟩, hS.F ht⟩) hS.2.2 hdg hlocks
theorem x_aret {post : Mem → Prop} {q : Nat} {n : String} (hexec : p.tables.exec = Jvm.exec) (hb : c.code = cc) (hr : meth.sig.returnType = some (.object n)) (hX : MR G w x H) (hS : va_S w.2.2.2.1 s.heap H locs) (hlocks : meth.locks = false) (hdg : decode cc pc = .ok (.areturn, 1)) (hp : post x) : W p l e R s m args below meth c H locs cells slots (MQ below (va_Qr post (XR G w q) w.2.2.2.1) args s cells slots w.2.2.2.1) (F0 m pc ls [.ref q]) :=
  W.aret (v := .ref q) hexec hb hr (Or.inl ⟨n, rfl⟩) (Or.inr ⟨q, rfl⟩) (fun t ht _ => ⟨⟨x, q, rfl, hp, rfl, (by show MR G w x t.heap; rw [ht]; exact hX)⟩, hS.F ht⟩) hS.2.2 hdg hlocks
/-- a branch upon a bit -/
theorem x_ifeq (hexec : p.tables.exec = Jvm.exec) (hb : c.code = cc) {b : Bool} {off : Int} {tgt : Nat} (hdg : decode cc pc = .ok (.ifCond .eq off, 3)) (ht : (pc : Int) + off = (tgt : Int))
    (kt : b = false → W p l e R s m args below meth c H locs cells slots Q (F0 m tgt ls rest)) (kf : b = true → W p l e R s m args below meth c H locs cells slots Q (F0 m (pc + 3) ls rest)) : W p l e R s m args below meth c H locs cells slots Q (F0 m pc ls (.int (bI b) :: rest)) := by
  refine lv_if_eq hexec hb hdg ht (fun h => ?_) (fun h => ?_)
  · cases b with
    | false => exact kt rfl
    | true => exact absurd h (by decide)
  · cases b with
    | true => exact kf rfl
    | false => exact absurd rfl h
theorem x_ifne (hexec : p.tables.exec = Jvm.exec) (hb : c.code = cc) {b : Bool} {off : Int} {tgt : Nat} (hdg : decode cc pc = .ok (.ifCond .ne off, 3)) (ht : (pc : Int) + off = (tgt : Int))
    (kt : b = true → W p l e R s m args below meth c H locs cells slots Q (F0 m tgt ls rest)) (kf : b = false → W p l e R s m args below meth c H locs cells slots Q (F0 m (pc + 3) ls rest)) : W p l e R s m args below meth c H locs cells slots Q (F0 m pc ls (.int (bI b) :: rest)) := by
  refine lv_if_ne hexec hb hdg ht (fun h => ?_) (fun h => ?_)
  · cases b with
    | true => exact kt rfl
    | false => exact absurd rfl h
  · cases b with
    | false => exact kf rfl
    | true => exact absurd h (by decide)
end XW
end
section
/-! THE SHAPES. The class: 77 cells: 0 WindTaken, 1 its rows, 2 Tape, 3 its bytes, 4 Reader, 5 Ridge (6 its mills, 7 .. 14), 15 the draft, 25 images, 26 quarters, 27 Trace, 28 its numbers, 29 + 2 r Row (30 + 2 r its items), 45 and 55 the images' Ridges, 65 + 3 q Quarter (66 + 3 q behind, 67 + 3 q after). The reference: 13 cells: 0 itself, its arrays. -/
abbrev rfs (f : Nat → Option Nat) : (Nat → Int32) ⊕ (Nat → Int64) ⊕ (Nat → UInt32) ⊕ (Nat → UInt64) ⊕ (Nat → Option Nat) := .inr (.inr (.inr (.inr f)))
abbrev mnE (B : Nat) (f : Nat → Int32) : va_E := .inr (7, [.ref (B + 1), .ref (B + 2), .ref (B + 4), .ref (B + 5), .ref (B + 15), .ref (B + 25), .ref (B + 26), .ref (B + 27), .int (f 8), .int (f 9)])
abbrev tpE (B : Nat) (f : Nat → Int32) : va_E := .inr (5, [.ref (B + 3), .int (f 1)])
abbrev rdE (B : Nat) (f : Nat → Int32) : va_E := .inr (2, [.ref (B + 2), .int (f 1), .int (f 2), .int (f 3), .int (f 4), .int (f 5), .int (f 6)])
abbrev trE (B : Nat) (f : Nat → Int32) : va_E := .inr (6, [.ref (B + 28), .int (f 1)])
abbrev rwE (B a : Nat) (f : Nat → Int32) : va_E := .inr (4, [.ref (B + (a + 1)), .int (f 1), .int (f 2)])
abbrev quE (B a q : Nat) (f : Nat → Int32) : va_E := .inr (1, [.ref (B + (a + 1)), .ref (B + (a + 2)), .ref (B + 5), .int (nI q), .int (f 4), .int (f 5)])
abbrev riE (B a : Nat) (f : Nat → Int32) : va_E := .inr (3, [.ref (B + (a + 1)), .int (f 1), .int (f 2), .int (f 3), .int (f 4), .int (f 5)])
abbrev miE (f : Nat → Int32) : va_E := .inr (0, [.int (f 0), .int (f 1), .int (f 2), .int (f 3), .int (f 4), .int (f 5), .int (f 6), .int (f 7), .int (f 8), .int (f 9), .int (f 10), .int (bI (decide (f 11 ≠ 0)))])
def shX (G : GG) (B : Nat) (a : Nat) (f : Nat → Int32) : va_E :=
  if a = 0 then mnE B f
  else if a = 1 then .inl (G.2 5, 8, rfs (fun r => some (B + (29 + 2 * r))))
  else if a = 2 then tpE B f
  else if a = 3 then .inl (G.2 1, 400, .inl f)
  else if a = 4 then rdE B f
  else if a = 25 then .inl (G.2 4, 2, rfs (fun k => some (B + (45 + 10 * k))))
  else if a = 26 then .inl (G.2 3, 4, rfs (fun q => some (B + (65 + 3 * q))))
  else if a = 27 then trE B f
  else if a = 28 then .inl (G.2 0, 16, .inl f)
  else if 29 ≤ a ∧ a < 45 then (if a % 2 = 1 then rwE B a f else .inl (G.2 0, 40, .inl f))
  else if 65 ≤ a then (if (a - 65) % 3 = 0 then quE B a ((a - 65) / 3) f else .inl (G.2 0, if (a - 65) % 3 = 1 then 8 else 9, .inl f))
  else if a = 5 ∨ a = 15 ∨ a = 45 ∨ a = 55 then riE B a f
  else if a = 6 ∨ a = 16 ∨ a = 46 ∨ a = 56 then .inl (G.2 2, 8, rfs (fun j => some (B + (a + 1 + j))))
  else miE f
def isRg (ρ : Nat) : Prop := ρ = 5 ∨ ρ = 15 ∨ ρ = 45 ∨ ρ = 55
theorem rg5 : isRg 5 := Or.inl rfl
theorem rg15 : isRg 15 := Or.inr (Or.inl rfl)
theorem rgI {k : Nat} (h : k < 2) : isRg (45 + 10 * k) := by unfold isRg; omega
section SHX
variable {G : GG} {B : Nat} {f : Nat → Int32}
theorem shX_mn : shX G B 0 f = mnE B f := rfl
theorem shX_ra : shX G B 1 f = .inl (G.2 5, 8, rfs (fun r => some (B + (29 + 2 * r)))) := rfl
theorem shX_tp : shX G B 2 f = tpE B f := rfl
theorem shX_tb : shX G B 3 f = .inl (G.2 1, 400, .inl f) := rfl
theorem shX_rd : shX G B 4 f = rdE B f := rfl
theorem shX_ia : shX G B 25 f = .inl (G.2 4, 2, rfs (fun k => some (B + (45 + 10 * k)))) := rfl
theorem shX_qa : shX G B 26 f = .inl (G.2 3, 4, rfs (fun q => some (B + (65 + 3 * q)))) := rfl
theorem shX_tr : shX G B 27 f = trE B f := rfl
theorem shX_tn : shX G B 28 f = .inl (G.2 0, 16, .inl f) := rfl
theorem shX_rw {r : Nat} (h : r < 8) : shX G B (29 + 2 * r) f = rwE B (29 + 2 * r) f := by
  unfold shX
  rw [if_neg (by omega), if_neg (by omega), if_neg (by omega), if_neg (by omega), if_neg (by omega), if_neg (by omega), if_neg (by omega), if_neg (by omega), if_neg (by omega), if_pos (by omega), if_pos (by omega)]
theorem shX_it {r : Nat} (h : r < 8) : shX G B (29 + 2 * r + 1) f = .inl (G.2 0, 40, .inl f) := by
  unfold shX
  rw [if_neg (by omega), if_neg (by omega), if_neg (by omega), if_neg (by omega), if_neg (by omega), if_neg (by omega), if_neg (by omega), if_neg (by omega), if_neg (by omega), if_pos (by omega), if_neg (by omega)]
theorem shX_qu {q : Nat} (h : q < 4) : shX G B (65 + 3 * q) f = quE B (65 + 3 * q) q f := by
  unfold shX
  rw [if_neg (by omega), if_neg (by omega), if_neg (by omega), if_neg (by omega), if_neg (by omega), if_neg (by omega), if_neg (by omega), if_neg (by omega), if_neg (by omega), if_neg (by omega), if_pos (by omega), if_pos (by omega), show (65 + 3 * q - 65) / 3 = q by omega]
theorem shX_bh {q : Nat} (h : q < 4) : shX G B (65 + 3 * q + 1) f = .inl (G.2 0, 8, .inl f) := by
  unfold shX
  rw [if_neg (by omega), if_neg (by omega), if_neg (by omega), if_neg (by omega), if_neg (by omega), if_neg (by omega), if_neg (by omega), if_neg (by omega), if_neg (by omega), if_neg (by omega), if_pos (by omega), if_neg (by omega), if_pos (by omega)]
theorem shX_af {q : Nat} (h : q < 4) : shX G B (65 + 3 * q + 2) f = .inl (G.2 0, 9, .inl f) := by
  unfold shX
  rw [if_neg (by omega), if_neg (by omega), if_neg (by omega), if_neg (by omega), if_neg (by omega), if_neg (by omega), if_neg (by omega), if_neg (by omega), if_neg (by omega), if_neg (by omega), if_pos (by omega), if_neg (by omega), if_neg (by omega)]
theorem shX_ri {ρ : Nat} (h : isRg ρ) : shX G B ρ f = riE B ρ f := by
  rcases h with rfl | rfl | rfl | rfl <;> rfl
theorem shX_ma {ρ : Nat} (h : isRg ρ) : shX G B (ρ + 1) f = .inl (G.2 2, 8, rfs (fun j => some (B + (ρ + 1 + 1 + j)))) := by
  rcases h with rfl | rfl | rfl | rfl <;> rfl
theorem shX_mi {ρ j : Nat} (h : isRg ρ) (hj : j < 8) : shX G B (ρ + 1 + 1 + j) f = miE f := by
  unfold isRg at h
  unfold shX
  rw [if_neg (by omega), if_neg (by omega), if_neg (by omega), if_neg (by omega), if_neg (by omega), if_neg (by omega), if_neg (by omega), if_neg (by omega), if_neg (by omega), if_neg (by omega), if_neg (by omega), if_neg (by omega), if_neg (by omega)]
end SHX
theorem rg_lt {ρ : Nat} (h : isRg ρ) : ρ < 77 := by unfold isRg at h; omega
theorem rg_lt1 {ρ : Nat} (h : isRg ρ) : ρ + 1 < 77 := by unfold isRg at h; omega
theorem rg_ltm {ρ j : Nat} (h : isRg ρ) (hj : j < 8) : ρ + 1 + 1 + j < 77 := by unfold isRg at h; omega
/-- a long in two ints -/
def mkL (h k : Int32) : Int64 := Int64.ofInt (h.toInt * 4294967296 + k.toInt % 4294967296)
def hiL (v : Int64) : Int32 := Int32.ofInt (v.toInt / 4294967296)
def loL (v : Int64) : Int32 := Int32.ofInt v.toInt
theorem mkL_eq (v : Int64) : mkL (hiL v) (loL v) = v := by
  have h1 := Int64.le_toInt v
  have h2 := Int64.toInt_lt v
  have e1 : (hiL v).toInt = v.toInt / 4294967296 := by
    unfold hiL
    rw [Int32.toInt_ofInt, Int.bmod_def, show Int32.size = 4294967296 from rfl]
    split <;> omega
  have e2 : (loL v).toInt % 4294967296 = v.toInt % 4294967296 := by
    unfold loL
    rw [Int32.toInt_ofInt, Int.bmod_def, show Int32.size = 4294967296 from rfl]
    split <;> omega
  unfold mkL
  rw [e1, e2, show v.toInt / 4294967296 * 4294967296 + v.toInt % 4294967296 = v.toInt by omega]
  exact Int64.ofInt_toInt v
abbrev mdE (B : Nat) (f : Nat → Int32) : va_E := .inr (8, [.ref (B + 1), .ref (B + 2), .ref (B + 3), .int (f 3), .int (f 4), .ref (B + 4), .int (f 6), .ref (B + 5), .ref (B + 6), .ref (B + 7), .ref (B + 8), .ref (B + 9), .int (f 12), .ref (B + 10), .int (f 14), .int (f 15), .int (f 16), .long (mkL (f 17) (f 21)), .int (f 18), .ref (B + 11), .ref (B + 12)])
/-- how long the reference's arrays are: lanes, sizes, items, tape, now, image0, image1, read, trace, lent, ground, worn -/
def mdN (a : Nat) : Nat := if a = 1 ∨ a = 2 ∨ a = 11 ∨ a = 12 then 8 else if a = 3 then 320 else if a = 4 then 400 else if a = 9 then 16 else if a = 10 then 40 else 93
def shM (G : GG) (B : Nat) (a : Nat) (f : Nat → Int32) : va_E := if a = 0 then mdE B f else .inl (G.2 0, mdN a, .inl f)
theorem shM_0 {G : GG} {B : Nat} {f : Nat → Int32} : shM G B 0 f = mdE B f := rfl
theorem shM_a {G : GG} {B a : Nat} {f : Nat → Int32} (h : a ≠ 0) : shM G B a f = .inl (G.2 0, mdN a, .inl f) := if_neg h
/-- the cells of the class, of the reference -/
def blkA (lo hi : Nat) : Nat → Prop := fun q => lo ≤ q ∧ q < hi
/-- what the class stands on besides: its static tables, the texts -/
def tblF (q : Nat) : String := if q = 0 then "NEXT_KIND" else if q = 1 then "SIZE_BODY" else "MARK_BODY"
def nextK : Nat → Int32 := fun j => ([-1, 0, 1, 2, 0, 1] : List Int32).getD j 0
def sizeK : Nat → Int32 := fun j => ([10, 11, 11, 12, 13, 14] : List Int32).getD j 0
def markK : Nat → Int32 := fun j => ([20, 21, 22, 24, 23, 21] : List Int32).getD j 0
def tblV (q : Nat) : Nat → Int32 := if q = 0 then nextK else if q = 1 then sizeK else markK
def strL : List (Nat × String) := [(43, "law"), (65, "mill"), (157, "fixed"), (159, "hooded"), (161, "half"), (163, "water"), (165, "ruin")]
def strLen : List Nat := [3, 4, 5, 6, 4, 5, 4]
def strByt : List (List Int32) := [[108, 97, 119], [109, 105, 108, 108], [102, 105, 120, 101, 100], [104, 111, 111, 100, 101, 100], [104, 97, 108, 102], [119, 97, 116, 101, 114], [114, 117, 105, 110]]
def EX (B : Nat) (tt : Nat → Nat) (U : State) (H : Heap) : Prop :=
  (∀ q, q < 3 → va_Z "WindTaken" (tblF q) "[I" (.ref (tt q)) (blkA B (B + 77)) U H) ∧ (∀ q, q < 3 → va_T .int (tt q) 6 (fun j => .int (tblV q j)) (blkA B (B + 77)) U H) ∧
  (∀ (i k : Nat) (tx : String), strL[i]? = some (k, tx) → vk_R RX2 k tx (tt (100 + i)) U) ∧ vk_S 7 strLen strByt (fun i => tt (100 + i)) (fun i => tt (200 + i)) (blkA B (B + 77)) U H ∧
  va_Z "java/lang/String" "COMPACT_STRINGS" "Z" (.int 1) (blkA B (B + 77)) U H ∧ va_Zq "jdk/internal/util/Preconditions" "SIOOBE_FORMATTER" "Ljava/util/function/BiFunction;" (blkA B (B + 77)) U H
abbrev wX (G : GG) (B : Nat) (tt : Nat → Nat) : WD := (77, B, shX G B, blkA B (B + 77), EX B tt)
abbrev wM (G : GG) (B : Nat) : WD := (13, B, shM G B, blkA B (B + 13), fun _ _ => True)
theorem wM_ok (G : GG) (B : Nat) : WOK (wM G B) := ⟨fun a h => ⟨Nat.le_add_right _ _, Nat.add_lt_add_left h _⟩, fun _ _ _ _ _ => trivial, fun _ _ _ _ _ => trivial, fun _ _ _ _ _ => trivial⟩
theorem EX_vm {B : Nat} {tt : Nat → Nat} {u U : State} {H : Heap} (hvm : u.vm.Alike U.vm) (hR : ∀ (k : Nat) (tx : String) (a : Nat), vk_R RX2 k tx a u → vk_R RX2 k tx a U) (h : EX B tt u H) : EX B tt U H :=
  ⟨fun q hq => va_Z.moved hvm (h.1 q hq), fun q hq => va_T.moved hvm (h.2.1 q hq), fun i k tx hi => hR _ _ _ (h.2.2.1 i k tx hi), vk_S.moved hvm h.2.2.2.1, va_Z.moved hvm h.2.2.2.2.1, va_Zq.moved hvm h.2.2.2.2.2⟩
theorem wX_ok (G : GG) (B : Nat) (tt : Nat → Nat) : WOK (wX G B tt) :=
  ⟨fun a h => ⟨Nat.le_add_right _ _, Nat.add_lt_add_left h _⟩, fun u U H hv h => EX_vm (by rw [hv]; exact Vm.Alike.refl _) (fun k tx a q => vk_R.same hv q) h, fun u U H hv h => EX_vm hv.alike (fun k tx a q => vk_R.warm hv q) h,
    fun U H H1 h hq => ⟨fun q h3 => (h.1 q h3).kept hq, fun q h3 => (h.2.1 q h3).kept hq, h.2.2.1, h.2.2.2.1.kept hq, h.2.2.2.2.1.kept hq, h.2.2.2.2.2.kept hq⟩⟩
end
section
section MORE
theorem rw_lt {r : Nat} (h : r < 8) : 29 + 2 * r < 77 := by omega
theorem it_lt {r : Nat} (h : r < 8) : 29 + 2 * r + 1 < 77 := by omega
theorem qu_lt {q : Nat} (h : q < 4) : 65 + 3 * q < 77 := by omega
theorem bh_lt {q : Nat} (h : q < 4) : 65 + 3 * q + 1 < 77 := by omega
theorem af_lt {q : Nat} (h : q < 4) : 65 + 3 * q + 2 < 77 := by omega
theorem inc_nI (i : Nat) : nI i + Int32.ofInt 1 = nI (i + 1) := (nI_succ i).symm
theorem incN_nI (i n : Nat) : nI i + Int32.ofInt n = nI (i + n) := nI_add i n
theorem dec_nI (i : Nat) : nI (i + 1) + Int32.ofInt (-1) = nI i := pk_m1 i
theorem bI_nar (b : Bool) : narrow .boolean (.int (bI b)) = .int (bI b) := by cases b <;> decide
theorem bI_fit (b : Bool) : fits .boolean (.int (bI b)) = true := by cases b <;> decide
theorem bI_t : bI true = 1 := rfl
theorem bI_f : bI false = 0 := rfl
theorem ne_of_true {b : Bool} (h : b = true) : ¬ b = false := by rw [h]; decide
theorem ne_of_false {b : Bool} (h : b = false) : ¬ b = true := by rw [h]; decide
def jmin (x y : Int32) : Int32 := if y < x then y else x
def jmax (x y : Int32) : Int32 := if x < y then y else x
theorem ts_out {y : Int32} {lo hi : Int} (h : ∀ k : Int, lo ≤ k → k ≤ hi → ¬ y = Int32.ofInt k) : y.toInt < lo ∨ hi < y.toInt := by
  rcases Int.lt_or_le y.toInt lo with h1 | h1
  · exact Or.inl h1
  · rcases Int.lt_or_le hi y.toInt with h2 | h2
    · exact Or.inr h2
    · exact absurd (Int32.ofInt_toInt y).symm (h _ h1 h2)
theorem lk_ne {y k' : Int32} {k : Int} (h : ¬ y = k') (hk : k'.toInt = k) : ¬ k = y.toInt := fun q => h (Int32.toInt_inj.mp (by rw [hk]; exact q.symm))
variable {p : Program} {l : Launch} {e : Env} {R : Room} {s : State} {m : MethodId} {args : Array Value} {below : List Frame} {meth : Method} {c : Code} {H : Heap} {locs : List Loc} {cells slots : Nat} {Q : State → Prop}
variable {cc : ByteArray} {pc : Nat} {ls : Array Slot} {rest st0 : List Value} {G : GG} {w : WD} {x : Mem} {a : Nat} {aa : Array Value}
theorem x_mmax (hexec : p.tables.exec = Jvm.exec) (hb : c.code = cc) (hml : c.maxLocals = ls.size) {own : String} {index : Nat} (hown : s.vm.findClass own = some m.cls) (hlink : (Cond.methodLink own index Lib.Math.max.name).before args s = true) (hstat : (Cond.static Lib.Math.max.name).before args s = true) (hini : (Cond.initialized "java/lang/Math").before args s = true) (hcode : (Cond.code Lib.Math.max.name Lib.Math.max.code 2 (some .int)).before args s = true)
    (hroom : 1 ≤ R.frames ∧ (rest.map fun v => v.category).sum + 13 ≤ R.locals ∧ cells ≤ R.cells ∧ slots ≤ R.slots) {x y : Int32} (hdg : decode cc pc = .ok (.invokestatic index, 3))
    (kk : W p l e R s m args below meth c H locs cells slots Q (F0 m (pc + 3) ls (.int (jmax x y) :: rest))) : W p l e R s m args below meth c H locs cells slots Q (F0 m pc ls (.int y :: .int x :: rest)) :=
  va_mmax hexec hb hml hown hlink hstat hini hcode hroom.1 hroom.2.1 hroom.2.2.1 hroom.2.2.2 hdg kk
theorem x_mmin (hexec : p.tables.exec = Jvm.exec) (hb : c.code = cc) (hml : c.maxLocals = ls.size) {own : String} {index : Nat} (hown : s.vm.findClass own = some m.cls) (hlink : (Cond.methodLink own index Lib.Math.min.name).before args s = true) (hstat : (Cond.static Lib.Math.min.name).before args s = true) (hini : (Cond.initialized "java/lang/Math").before args s = true) (hcode : (Cond.code Lib.Math.min.name Lib.Math.min.code 2 (some .int)).before args s = true)
    (hroom : 1 ≤ R.frames ∧ (rest.map fun v => v.category).sum + 13 ≤ R.locals ∧ cells ≤ R.cells ∧ slots ≤ R.slots) {x y : Int32} (hdg : decode cc pc = .ok (.invokestatic index, 3))
    (kk : W p l e R s m args below meth c H locs cells slots Q (F0 m (pc + 3) ls (.int (jmin x y) :: rest))) : W p l e R s m args below meth c H locs cells slots Q (F0 m pc ls (.int y :: .int x :: rest)) :=
  va_mmin hexec hb hml hown hlink hstat hini hcode hroom.1 hroom.2.1 hroom.2.2.1 hroom.2.2.2 hdg kk
theorem x_lclt (hexec : p.tables.exec = Jvm.exec) (hb : c.code = cc) {x y : Int64} {off : Int} {tgt : Nat} (hdg : decode cc pc = .ok (.ifCond .lt off, 3)) (ht : (pc : Int) + off = (tgt : Int))
    (kt : x < y → W p l e R s m args below meth c H locs cells slots Q (F0 m tgt ls rest)) (kf : ¬ x < y → W p l e R s m args below meth c H locs cells slots Q (F0 m (pc + 3) ls rest)) : W p l e R s m args below meth c H locs cells slots Q (F0 m pc ls (.int (lg_cmp x y) :: rest)) :=
  lv_if_lt hexec hb hdg ht (fun h => kt ((lg_cmp_lt x y).mp h)) (fun h => kf (fun q => h ((lg_cmp_lt x y).mpr q)))
theorem x_lcgt (hexec : p.tables.exec = Jvm.exec) (hb : c.code = cc) {x y : Int64} {off : Int} {tgt : Nat} (hdg : decode cc pc = .ok (.ifCond .gt off, 3)) (ht : (pc : Int) + off = (tgt : Int))
    (kt : y < x → W p l e R s m args below meth c H locs cells slots Q (F0 m tgt ls rest)) (kf : ¬ y < x → W p l e R s m args below meth c H locs cells slots Q (F0 m (pc + 3) ls rest)) : W p l e R s m args below meth c H locs cells slots Q (F0 m pc ls (.int (lg_cmp x y) :: rest)) :=
  lv_if_gt hexec hb hdg ht (fun h => kt ((lg_cmp_gt x y).mp h)) (fun h => kf (fun q => h ((lg_cmp_gt x y).mpr q)))
theorem x_lcne (hexec : p.tables.exec = Jvm.exec) (hb : c.code = cc) {x y : Int64} {off : Int} {tgt : Nat} (hdg : decode cc pc = .ok (.ifCond .ne off, 3)) (ht : (pc : Int) + off = (tgt : Int))
    (kt : ¬ x = y → W p l e R s m args below meth c H locs cells slots Q (F0 m tgt ls rest)) (kf : x = y → W p l e R s m args below meth c H locs cells slots Q (F0 m (pc + 3) ls rest)) : W p l e R s m args below meth c H locs cells slots Q (F0 m pc ls (.int (lg_cmp x y) :: rest)) :=
  lv_if_ne hexec hb hdg ht (fun h => kt (fun q => h ((lg_cmp_eq x y).mpr q))) (fun h => kf ((lg_cmp_eq x y).mp h))
theorem x_lcle (hexec : p.tables.exec = Jvm.exec) (hb : c.code = cc) {x y : Int64} {off : Int} {tgt : Nat} (hdg : decode cc pc = .ok (.ifCond .le off, 3)) (ht : (pc : Int) + off = (tgt : Int))
    (kt : x ≤ y → W p l e R s m args below meth c H locs cells slots Q (F0 m tgt ls rest)) (kf : ¬ x ≤ y → W p l e R s m args below meth c H locs cells slots Q (F0 m (pc + 3) ls rest)) : W p l e R s m args below meth c H locs cells slots Q (F0 m pc ls (.int (lg_cmp x y) :: rest)) :=
  lv_if_le hexec hb hdg ht (fun h => kt ((lg_cmp_le x y).mp h)) (fun h => kf (fun q => h ((lg_cmp_le x y).mpr q)))
/-- a static table of ints -/
theorem x_tld (hexec : p.tables.exec = Jvm.exec) (hb : c.code = cc) {A : Nat → Prop} {t N : Nat} {f : Nat → Int32} (hS : va_S A s.heap H locs) (hT : va_T .int t N (fun j => .int (f j)) A s s.heap) {i : Int32} {j : Nat} (hi : i = nI j) (hj : j < N) (hN : N < 2 ^ 31) (hdg : decode cc pc = .ok (.iaload, 1))
    (kk : W p l e R s m args below meth c H locs cells slots Q (F0 m (pc + 1) ls (.int (f j) :: rest))) : W p l e R s m args below meth c H locs cells slots Q (F0 m pc ls (.int i :: .ref t :: rest)) := by
  subst hi
  have hc : (nI j).toNatClampNeg = j := nI_clamp (by omega)
  obtain ⟨cell, h1, h2, h3, h4, h5, h6, h7⟩ := hT.kept hS.2.1
  refine W.iald (v := .int (f j)) hexec hb h1 h2 h3 ?_ (by rw [hc]; exact h6 j hj) rfl rfl hdg kk
  intro q
  rcases q with q | q
  · exact nI_pos (show j < 2 ^ 31 by omega) q
  · rw [hc] at q; omega
end MORE
theorem shX_fu {G : GG} {B ρ j : Nat} (h : isRg ρ) (hj : j < 8) (f : Nat → Int32) (b : Bool) : shX G B (ρ + 1 + 1 + j) (upd f 11 (bI b)) = .inr (0, [.int (f 0), .int (f 1), .int (f 2), .int (f 3), .int (f 4), .int (f 5), .int (f 6), .int (f 7), .int (f 8), .int (f 9), .int (f 10), .int (bI b)]) := by
  rw [shX_mi h hj]
  have e : bI (decide (upd f 11 (bI b) 11 ≠ 0)) = bI b := by rw [upd_eq]; cases b <;> decide
  show (Sum.inr (0, _) : va_E) = _
  rw [e]
  rfl
end
section
theorem kX0_turnsIn_27 : (.fieldLink RX0 27 "WindTaken$Mill" "furled" "Z" : Cond) ∈ wsX0_turnsIn := by decide +kernel
theorem iX0_turnsIn_X0 : ∀ w ∈ wsX00, w ∈ wsX0_turnsIn := by decide +kernel
theorem kX0_turnsIn_15 : (.fieldLink RX0 15 "WindTaken$Mill" "kind" "I" : Cond) ∈ wsX0_turnsIn := by decide +kernel
theorem kX0_turnsIn_24 : (.fieldLink RX0 24 "WindTaken$Mill" "facing" "I" : Cond) ∈ wsX0_turnsIn := by decide +kernel
abbrev rmX0_turnsIn : Room := { frames := 0, cells := 0, slots := 0, locals := 0 }
set_option maxHeartbeats 4000000 in
set_option maxRecDepth 100000 in
theorem c_X0_turnsIn (l : Launch) (G : GG) (B : Nat) (tt : Nat → Nat) (hW : WOK (wX G B tt)) (x : Mem) {ρ : Nat} (hρ : isRg ρ) {j : Nat} (hj : j < 8) (q : Int32) : Met l yX0_turnsIn wsX0_turnsIn rmX0_turnsIn (XP G (wX G B tt) [.ref (B + (ρ + 1 + 1 + j)), .int (q)] x) (va_Qi (fun r u => r = bI (!decide (x (ρ + 1 + 1 + j) 11 ≠ 0) && (decide (x (ρ + 1 + 1 + j) 1 ≠ 5) && (decide (x (ρ + 1 + 1 + j) 1 ≠ 1) || decide (x (ρ + 1 + 1 + j) 10 = q)))) ∧ u = x) (XB G (wX G B tt)) (blkA B (B + 77))) 0 0 (blkA B (B + 77)) := by
  refine Met.ofW (cc := cX0_turnsIn) (maxL := 2) (ret := (some .boolean)) (by decide) rfl ?_
  intro p e s m args below meth c s₁ Bd hml hv
  obtain ⟨hae, hX, hK, hE⟩ := hv
  have hx := Bd.exec
  have hb := Bd.bytes
  have hr := Bd.returns
  have hts := atoms_spec (ws := wsX0_turnsIn) Bd.pre
  have hown : s.vm.findClass RX0 = some m.cls := findClass_of_methodNamed Bd.named
  have hlocks := Bd.notSynchronized
  have hS : va_S (blkA B (B + 77)) s.heap s.heap [] := va_S.rf
  have hl := lv_entry ([.ref (B + (ρ + 1 + 1 + j)), .int (q)]) (n := 2) (Nat.le_of_ble_eq_true rfl)
  subst hae
  rw [lg_entry_eq]
  generalize (lg_sl ([.ref (B + (ρ + 1 + 1 + j)), .int (q)]) ++ List.replicate (2 - (lg_sl ([.ref (B + (ρ + 1 + 1 + j)), .int (q)])).length) Slot.unset).toArray = ls at hl ⊢
  have hl : lv_has ls 2 [(0, .ref (B + (ρ + 1 + 1 + j))), (1, .int (q))] := hl
  generalize ([.ref (B + (ρ + 1 + 1 + j)), .int (q)] : List Value).toArray = args at hts ⊢
  show W p l e rmX0_turnsIn s m args below meth c s.heap [] 0 0 _ (F0 m 0 ls [])
  generalize hQ : MQ below (va_Qi (fun r u => r = bI (!decide (x (ρ + 1 + 1 + j) 11 ≠ 0) && (decide (x (ρ + 1 + 1 + j) 1 ≠ 5) && (decide (x (ρ + 1 + 1 + j) 1 ≠ 1) || decide (x (ρ + 1 + 1 + j) 10 = q)))) ∧ u = x) (XB G (wX G B tt)) (blkA B (B + 77))) args s 0 0 (blkA B (B + 77)) = Q
  refine lv_aload_n hx hb dX0_turnsIn_0 rfl (lv_at hl 0 rfl) ?_
  refine x_get (w := (wX G B tt)) (a := ρ + 1 + 1 + j) (v := .int (bI (decide (x (ρ + 1 + 1 + j) 11 ≠ 0)))) hx hb hts iX0_turnsIn_X0 hown hK hX (rg_ltm hρ hj) (shX_mi hρ hj) rfl 11 (by decide) (hts _ kX0_turnsIn_27) (fun _ h9 => h9) rfl dX0_turnsIn_1 ?_
  have kJ_3 : ∀ (v_2 : Bool) (_ : v_2 = (if (decide (x (ρ + 1 + 1 + j) 11 ≠ 0)) = true then false else (if (x (ρ + 1 + 1 + j) 1) = 5 then false else (if (x (ρ + 1 + 1 + j) 1) = 1 then (if (x (ρ + 1 + 1 + j) 10) = q then true else false) else true)))) (H_4 : Heap) (lo_5 : List Loc) (_ : MR G (wX G B tt) x H_4) (_ : va_S (blkA B (B + 77)) s.heap H_4 lo_5) (ls : Array Slot) (_ : lv_has ls 2 [(0, .ref (B + (ρ + 1 + 1 + j))), (1, .int (q))]), W p l e rmX0_turnsIn s m args below meth c H_4 lo_5 0 0 Q (F0 m 36 ls [.int (bI (v_2))]) := by
    intro v_2 ev_2 H_4 lo_5 hX hS ls hl
    rw [← hQ]
    refine x_zret (v := bI (v_2)) (ty := .boolean) hx hb hr (bI_nar _) hX hS hlocks dX0_turnsIn_36 ?_
    refine ⟨?_, rfl⟩
    first | rfl | simp [bI, ev_2]
  refine x_ifne (tgt := 35) hx hb dX0_turnsIn_4 (by decide) (fun c_1 => ?_) (fun c_1 => ?_)
  · refine lv_iconst (v := 0) hx hb dX0_turnsIn_35 (by decide) ?_
    exact kJ_3 (false) (by rw [if_pos c_1]) _ _ hX hS ls (lv_sub hl [0, 1] rfl)
  · refine lv_aload_n hx hb dX0_turnsIn_7 rfl (lv_at hl 0 rfl) ?_
    refine x_get (w := (wX G B tt)) (a := ρ + 1 + 1 + j) (v := .int (x (ρ + 1 + 1 + j) 1)) hx hb hts iX0_turnsIn_X0 hown hK hX (rg_ltm hρ hj) (shX_mi hρ hj) rfl 1 (by decide) (hts _ kX0_turnsIn_15) (fun _ h9 => h9) rfl dX0_turnsIn_8 ?_
    refine lv_iconst (v := 5) hx hb dX0_turnsIn_11 (by decide) ?_
    refine lv_icmp_eq (tgt := 35) hx hb dX0_turnsIn_12 (by decide) (fun c_6 => ?_) (fun c_6 => ?_)
    · refine lv_iconst (v := 0) hx hb dX0_turnsIn_35 (by decide) ?_
      exact kJ_3 (false) (by rw [if_neg (ne_of_false c_1), if_pos c_6]) _ _ hX hS ls (lv_sub hl [0, 1] rfl)
    · refine lv_aload_n hx hb dX0_turnsIn_15 rfl (lv_at hl 0 rfl) ?_
      refine x_get (w := (wX G B tt)) (a := ρ + 1 + 1 + j) (v := .int (x (ρ + 1 + 1 + j) 1)) hx hb hts iX0_turnsIn_X0 hown hK hX (rg_ltm hρ hj) (shX_mi hρ hj) rfl 1 (by decide) (hts _ kX0_turnsIn_15) (fun _ h9 => h9) rfl dX0_turnsIn_16 ?_
      refine lv_iconst (v := 1) hx hb dX0_turnsIn_19 (by decide) ?_
      refine lv_icmp_ne (tgt := 31) hx hb dX0_turnsIn_20 (by decide) (fun c_7 => ?_) (fun c_7 => ?_)
      · refine lv_iconst (v := 1) hx hb dX0_turnsIn_31 (by decide) ?_
        refine lv_goto (tgt := 36) hx hb dX0_turnsIn_32 (by decide) ?_
        exact kJ_3 (true) (by rw [if_neg (ne_of_false c_1), if_neg c_6, if_neg c_7]) _ _ hX hS ls (lv_sub hl [0, 1] rfl)
      · refine lv_aload_n hx hb dX0_turnsIn_23 rfl (lv_at hl 0 rfl) ?_
        refine x_get (w := (wX G B tt)) (a := ρ + 1 + 1 + j) (v := .int (x (ρ + 1 + 1 + j) 10)) hx hb hts iX0_turnsIn_X0 hown hK hX (rg_ltm hρ hj) (shX_mi hρ hj) rfl 10 (by decide) (hts _ kX0_turnsIn_24) (fun _ h9 => h9) rfl dX0_turnsIn_24 ?_
        refine lv_iload_n hx hb dX0_turnsIn_27 rfl (lv_at hl 1 rfl) ?_
        refine lv_icmp_ne (tgt := 35) hx hb dX0_turnsIn_28 (by decide) (fun c_8 => ?_) (fun c_8 => ?_)
        · refine lv_iconst (v := 0) hx hb dX0_turnsIn_35 (by decide) ?_
          exact kJ_3 (false) (by rw [if_neg (ne_of_false c_1), if_neg c_6, if_pos c_7, if_neg c_8]) _ _ hX hS ls (lv_sub hl [0, 1] rfl)
        · refine lv_iconst (v := 1) hx hb dX0_turnsIn_31 (by decide) ?_
          refine lv_goto (tgt := 36) hx hb dX0_turnsIn_32 (by decide) ?_
          exact kJ_3 (true) (by rw [if_neg (ne_of_false c_1), if_neg c_6, if_pos c_7, if_pos c_8]) _ _ hX hS ls (lv_sub hl [0, 1] rfl)

theorem kX4_isMissing_15 : (.fieldLink RX4 15 "WindTaken$Row" "size" "I" : Cond) ∈ wsX4_isMissing := by decide +kernel
theorem iX4_isMissing_X4 : ∀ w ∈ wsX40, w ∈ wsX4_isMissing := by decide +kernel
abbrev rmX4_isMissing : Room := { frames := 0, cells := 0, slots := 0, locals := 0 }
set_option maxHeartbeats 4000000 in
set_option maxRecDepth 100000 in
theorem c_X4_isMissing (l : Launch) (G : GG) (B : Nat) (tt : Nat → Nat) (hW : WOK (wX G B tt)) (x : Mem) {ro : Nat} (hro : ro < 8) : Met l yX4_isMissing wsX4_isMissing rmX4_isMissing (XP G (wX G B tt) [.ref (B + (29 + 2 * ro))] x) (va_Qi (fun r u => r = bI (decide (x (29 + 2 * ro) 2 = -1)) ∧ u = x) (XB G (wX G B tt)) (blkA B (B + 77))) 0 0 (blkA B (B + 77)) := by
  refine Met.ofW (cc := cX4_isMissing) (maxL := 1) (ret := (some .boolean)) (by decide) rfl ?_
  intro p e s m args below meth c s₁ Bd hml hv
  obtain ⟨hae, hX, hK, hE⟩ := hv
  have hx := Bd.exec
  have hb := Bd.bytes
  have hr := Bd.returns
  have hts := atoms_spec (ws := wsX4_isMissing) Bd.pre
  have hown : s.vm.findClass RX4 = some m.cls := findClass_of_methodNamed Bd.named
  have hlocks := Bd.notSynchronized
  have hS : va_S (blkA B (B + 77)) s.heap s.heap [] := va_S.rf
  have hl := lv_entry ([.ref (B + (29 + 2 * ro))]) (n := 1) (Nat.le_of_ble_eq_true rfl)
  subst hae
  rw [lg_entry_eq]
  generalize (lg_sl ([.ref (B + (29 + 2 * ro))]) ++ List.replicate (1 - (lg_sl ([.ref (B + (29 + 2 * ro))])).length) Slot.unset).toArray = ls at hl ⊢
  have hl : lv_has ls 1 [(0, .ref (B + (29 + 2 * ro)))] := hl
  generalize ([.ref (B + (29 + 2 * ro))] : List Value).toArray = args at hts ⊢
  show W p l e rmX4_isMissing s m args below meth c s.heap [] 0 0 _ (F0 m 0 ls [])
  generalize hQ : MQ below (va_Qi (fun r u => r = bI (decide (x (29 + 2 * ro) 2 = -1)) ∧ u = x) (XB G (wX G B tt)) (blkA B (B + 77))) args s 0 0 (blkA B (B + 77)) = Q
  refine lv_aload_n hx hb dX4_isMissing_0 rfl (lv_at hl 0 rfl) ?_
  refine x_get (w := (wX G B tt)) (a := 29 + 2 * ro) (v := .int (x (29 + 2 * ro) 2)) hx hb hts iX4_isMissing_X4 hown hK hX (rw_lt hro) (shX_rw hro) rfl 2 (by decide) (hts _ kX4_isMissing_15) (fun _ h9 => h9) rfl dX4_isMissing_1 ?_
  refine lv_iconst (v := (-1)) hx hb dX4_isMissing_4 (by decide) ?_
  have kJ_3 : ∀ (v_2 : Bool) (_ : v_2 = (if (x (29 + 2 * ro) 2) = ((-1)) then true else false)) (H_4 : Heap) (lo_5 : List Loc) (_ : MR G (wX G B tt) x H_4) (_ : va_S (blkA B (B + 77)) s.heap H_4 lo_5) (ls : Array Slot) (_ : lv_has ls 1 [(0, .ref (B + (29 + 2 * ro)))]), W p l e rmX4_isMissing s m args below meth c H_4 lo_5 0 0 Q (F0 m 13 ls [.int (bI (v_2))]) := by
    intro v_2 ev_2 H_4 lo_5 hX hS ls hl
    rw [← hQ]
    refine x_zret (v := bI (v_2)) (ty := .boolean) hx hb hr (bI_nar _) hX hS hlocks dX4_isMissing_13 ?_
    refine ⟨?_, rfl⟩
    first | rfl | simp [bI, ev_2]
  refine lv_icmp_ne (tgt := 12) hx hb dX4_isMissing_5 (by decide) (fun c_1 => ?_) (fun c_1 => ?_)
  · refine lv_iconst (v := 0) hx hb dX4_isMissing_12 (by decide) ?_
    exact kJ_3 (false) (by rw [if_neg c_1]) _ _ hX hS ls (lv_sub hl [0] rfl)
  · refine lv_iconst (v := 1) hx hb dX4_isMissing_8 (by decide) ?_
    refine lv_goto (tgt := 13) hx hb dX4_isMissing_9 (by decide) ?_
    exact kJ_3 (true) (by rw [if_pos c_1]) _ _ hX hS ls (lv_sub hl [0] rfl)

theorem kX4_covers_15 : (.fieldLink RX4 15 "WindTaken$Row" "size" "I" : Cond) ∈ wsX4_covers := by decide +kernel
theorem iX4_covers_X4 : ∀ w ∈ wsX40, w ∈ wsX4_covers := by decide +kernel
abbrev rmX4_covers : Room := { frames := 0, cells := 0, slots := 0, locals := 0 }
set_option maxHeartbeats 4000000 in
set_option maxRecDepth 100000 in
theorem c_X4_covers (l : Launch) (G : GG) (B : Nat) (tt : Nat → Nat) (hW : WOK (wX G B tt)) (x : Mem) {ro : Nat} (hro : ro < 8) (i : Int32) (n : Int32) : Met l yX4_covers wsX4_covers rmX4_covers (XP G (wX G B tt) [.ref (B + (29 + 2 * ro)), .int (i), .int (n)] x) (va_Qi (fun r u => r = bI (decide (0 ≤ i) && (decide (0 ≤ n) && decide (n ≤ x (29 + 2 * ro) 2 - i))) ∧ u = x) (XB G (wX G B tt)) (blkA B (B + 77))) 0 0 (blkA B (B + 77)) := by
  refine Met.ofW (cc := cX4_covers) (maxL := 3) (ret := (some .boolean)) (by decide) rfl ?_
  intro p e s m args below meth c s₁ Bd hml hv
  obtain ⟨hae, hX, hK, hE⟩ := hv
  have hx := Bd.exec
  have hb := Bd.bytes
  have hr := Bd.returns
  have hts := atoms_spec (ws := wsX4_covers) Bd.pre
  have hown : s.vm.findClass RX4 = some m.cls := findClass_of_methodNamed Bd.named
  have hlocks := Bd.notSynchronized
  have hS : va_S (blkA B (B + 77)) s.heap s.heap [] := va_S.rf
  have hl := lv_entry ([.ref (B + (29 + 2 * ro)), .int (i), .int (n)]) (n := 3) (Nat.le_of_ble_eq_true rfl)
  subst hae
  rw [lg_entry_eq]
  generalize (lg_sl ([.ref (B + (29 + 2 * ro)), .int (i), .int (n)]) ++ List.replicate (3 - (lg_sl ([.ref (B + (29 + 2 * ro)), .int (i), .int (n)])).length) Slot.unset).toArray = ls at hl ⊢
  have hl : lv_has ls 3 [(0, .ref (B + (29 + 2 * ro))), (1, .int (i)), (2, .int (n))] := hl
  generalize ([.ref (B + (29 + 2 * ro)), .int (i), .int (n)] : List Value).toArray = args at hts ⊢
  show W p l e rmX4_covers s m args below meth c s.heap [] 0 0 _ (F0 m 0 ls [])
  generalize hQ : MQ below (va_Qi (fun r u => r = bI (decide (0 ≤ i) && (decide (0 ≤ n) && decide (n ≤ x (29 + 2 * ro) 2 - i))) ∧ u = x) (XB G (wX G B tt)) (blkA B (B + 77))) args s 0 0 (blkA B (B + 77)) = Q
  refine lv_iload_n hx hb dX4_covers_0 rfl (lv_at hl 1 rfl) ?_
  have kJ_3 : ∀ (v_2 : Bool) (_ : v_2 = (if i < 0 then false else (if n < 0 then false else (if ((x (29 + 2 * ro) 2) - i) < n then false else true)))) (H_4 : Heap) (lo_5 : List Loc) (_ : MR G (wX G B tt) x H_4) (_ : va_S (blkA B (B + 77)) s.heap H_4 lo_5) (ls : Array Slot) (_ : lv_has ls 3 [(0, .ref (B + (29 + 2 * ro))), (1, .int (i)), (2, .int (n))]), W p l e rmX4_covers s m args below meth c H_4 lo_5 0 0 Q (F0 m 23 ls [.int (bI (v_2))]) := by
    intro v_2 ev_2 H_4 lo_5 hX hS ls hl
    rw [← hQ]
    refine x_zret (v := bI (v_2)) (ty := .boolean) hx hb hr (bI_nar _) hX hS hlocks dX4_covers_23 ?_
    refine ⟨?_, rfl⟩
    first | rfl | simp [bI, ev_2]
  refine lv_if_lt (tgt := 22) hx hb dX4_covers_1 (by decide) (fun c_1 => ?_) (fun c_1 => ?_)
  · refine lv_iconst (v := 0) hx hb dX4_covers_22 (by decide) ?_
    exact kJ_3 (false) (by rw [if_pos c_1]) _ _ hX hS ls (lv_sub hl [0, 1, 2] rfl)
  · refine lv_iload_n hx hb dX4_covers_4 rfl (lv_at hl 2 rfl) ?_
    refine lv_if_lt (tgt := 22) hx hb dX4_covers_5 (by decide) (fun c_6 => ?_) (fun c_6 => ?_)
    · refine lv_iconst (v := 0) hx hb dX4_covers_22 (by decide) ?_
      exact kJ_3 (false) (by rw [if_neg c_1, if_pos c_6]) _ _ hX hS ls (lv_sub hl [0, 1, 2] rfl)
    · refine lv_iload_n hx hb dX4_covers_8 rfl (lv_at hl 2 rfl) ?_
      refine lv_aload_n hx hb dX4_covers_9 rfl (lv_at hl 0 rfl) ?_
      refine x_get (w := (wX G B tt)) (a := 29 + 2 * ro) (v := .int (x (29 + 2 * ro) 2)) hx hb hts iX4_covers_X4 hown hK hX (rw_lt hro) (shX_rw hro) rfl 2 (by decide) (hts _ kX4_covers_15) (fun _ h9 => h9) rfl dX4_covers_10 ?_
      refine lv_iload_n hx hb dX4_covers_13 rfl (lv_at hl 1 rfl) ?_
      refine lv_isub hx hb dX4_covers_14 ?_
      refine lv_icmp_gt (tgt := 22) hx hb dX4_covers_15 (by decide) (fun c_7 => ?_) (fun c_7 => ?_)
      · refine lv_iconst (v := 0) hx hb dX4_covers_22 (by decide) ?_
        exact kJ_3 (false) (by rw [if_neg c_1, if_neg c_6, if_pos c_7]) _ _ hX hS ls (lv_sub hl [0, 1, 2] rfl)
      · refine lv_iconst (v := 1) hx hb dX4_covers_18 (by decide) ?_
        refine lv_goto (tgt := 23) hx hb dX4_covers_19 (by decide) ?_
        exact kJ_3 (true) (by rw [if_neg c_1, if_neg c_6, if_neg c_7]) _ _ hX hS ls (lv_sub hl [0, 1, 2] rfl)
end
