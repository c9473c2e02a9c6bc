section
-- ===== PART A: goes FIRST, ahead of the names: the tables' words, and 'selects' of the private methods out of them =====
/-- a private method of a class that the tables say can be made, by its rows of tables_1 -/
def lw_okq (q : MethodName × Nat) : Prop := (q.1.cls ≠ "java/lang/invoke/MethodHandle" ∧ q.1.cls ≠ "java/lang/invoke/VarHandle") ∧ Cond.instantiable q.1.cls q.2 ∈ tables_1 ∧ Cond.privateMethod q.1 ∈ tables_1 ∧ Cond.instanceMethod q.1 ∈ tables_1
theorem lw_p0 : lw_okq (⟨"OverABar$Reader", "readToken", "(LOverABar$Tape;)V"⟩, 7) := ⟨⟨by decide +kernel, by decide +kernel⟩, List.mem_of_getElem? (i := 43) (by decide +kernel), List.mem_of_getElem? (i := 247) (by decide +kernel), List.mem_of_getElem? (i := 248) (by decide +kernel)⟩
theorem lw_p1 : lw_okq (⟨"OverABar$Reader", "takeName", "(LOverABar$Tape;)V"⟩, 7) := ⟨⟨by decide +kernel, by decide +kernel⟩, List.mem_of_getElem? (i := 43) (by decide +kernel), List.mem_of_getElem? (i := 255) (by decide +kernel), List.mem_of_getElem? (i := 256) (by decide +kernel)⟩
theorem lw_p2 : lw_okq (⟨"OverABar$Reader", "isName", "(LOverABar$Tape;I)Z"⟩, 7) := ⟨⟨by decide +kernel, by decide +kernel⟩, List.mem_of_getElem? (i := 43) (by decide +kernel), List.mem_of_getElem? (i := 259) (by decide +kernel), List.mem_of_getElem? (i := 260) (by decide +kernel)⟩
theorem lw_p3 : lw_okq (⟨"OverABar$Reader", "takeNumber", "(LOverABar$Tape;)V"⟩, 7) := ⟨⟨by decide +kernel, by decide +kernel⟩, List.mem_of_getElem? (i := 43) (by decide +kernel), List.mem_of_getElem? (i := 307) (by decide +kernel), List.mem_of_getElem? (i := 308) (by decide +kernel)⟩
theorem lw_p4 : lw_okq (⟨"OverABar$Reader", "readLine", "(LOverABar$Tape;)V"⟩, 7) := ⟨⟨by decide +kernel, by decide +kernel⟩, List.mem_of_getElem? (i := 43) (by decide +kernel), List.mem_of_getElem? (i := 311) (by decide +kernel), List.mem_of_getElem? (i := 312) (by decide +kernel)⟩
theorem lw_p5 : lw_okq (⟨"OverABar$Reader", "readSlot", "(LOverABar$Tape;)I"⟩, 7) := ⟨⟨by decide +kernel, by decide +kernel⟩, List.mem_of_getElem? (i := 43) (by decide +kernel), List.mem_of_getElem? (i := 315) (by decide +kernel), List.mem_of_getElem? (i := 316) (by decide +kernel)⟩
theorem lw_p6 : lw_okq (⟨"OverABar$Reader", "readNumber", "(LOverABar$Tape;II)I"⟩, 7) := ⟨⟨by decide +kernel, by decide +kernel⟩, List.mem_of_getElem? (i := 43) (by decide +kernel), List.mem_of_getElem? (i := 319) (by decide +kernel), List.mem_of_getElem? (i := 320) (by decide +kernel)⟩
theorem lw_p7 : lw_okq (⟨"OverABar", "isPartOfWay", "(III)Z"⟩, 10) := ⟨⟨by decide +kernel, by decide +kernel⟩, List.mem_of_getElem? (i := 18) (by decide +kernel), List.mem_of_getElem? (i := 359) (by decide +kernel), List.mem_of_getElem? (i := 360) (by decide +kernel)⟩
theorem lw_p8 : lw_okq (⟨"OverABar", "isWay", "(I)Z"⟩, 10) := ⟨⟨by decide +kernel, by decide +kernel⟩, List.mem_of_getElem? (i := 18) (by decide +kernel), List.mem_of_getElem? (i := 363) (by decide +kernel), List.mem_of_getElem? (i := 364) (by decide +kernel)⟩
theorem lw_p9 : lw_okq (⟨"OverABar$Judge", "baseOf", "(LOverABar$Way;II)I"⟩, 9) := ⟨⟨by decide +kernel, by decide +kernel⟩, List.mem_of_getElem? (i := 115) (by decide +kernel), List.mem_of_getElem? (i := 402) (by decide +kernel), List.mem_of_getElem? (i := 403) (by decide +kernel)⟩
theorem lw_p10 : lw_okq (⟨"OverABar$Judge", "measureTenth", "(LOverABar$Way;I)V"⟩, 9) := ⟨⟨by decide +kernel, by decide +kernel⟩, List.mem_of_getElem? (i := 115) (by decide +kernel), List.mem_of_getElem? (i := 434) (by decide +kernel), List.mem_of_getElem? (i := 435) (by decide +kernel)⟩
theorem lw_p11 : lw_okq (⟨"OverABar$Judge", "measurePlaces", "(LOverABar$Way;I)V"⟩, 9) := ⟨⟨by decide +kernel, by decide +kernel⟩, List.mem_of_getElem? (i := 115) (by decide +kernel), List.mem_of_getElem? (i := 438) (by decide +kernel), List.mem_of_getElem? (i := 439) (by decide +kernel)⟩
theorem lw_p12 : lw_okq (⟨"OverABar$Judge", "isBent", "(LOverABar$Way;I)Z"⟩, 9) := ⟨⟨by decide +kernel, by decide +kernel⟩, List.mem_of_getElem? (i := 115) (by decide +kernel), List.mem_of_getElem? (i := 451) (by decide +kernel), List.mem_of_getElem? (i := 452) (by decide +kernel)⟩
theorem lw_p13 : lw_okq (⟨"OverABar$Judge", "isHasty", "(LOverABar$Way;I)Z"⟩, 9) := ⟨⟨by decide +kernel, by decide +kernel⟩, List.mem_of_getElem? (i := 115) (by decide +kernel), List.mem_of_getElem? (i := 455) (by decide +kernel), List.mem_of_getElem? (i := 456) (by decide +kernel)⟩
theorem lw_p14 : lw_okq (⟨"OverABar$Judge", "firstAcross", "(LOverABar$Way;I)I"⟩, 9) := ⟨⟨by decide +kernel, by decide +kernel⟩, List.mem_of_getElem? (i := 115) (by decide +kernel), List.mem_of_getElem? (i := 501) (by decide +kernel), List.mem_of_getElem? (i := 502) (by decide +kernel)⟩
theorem lw_p15 : lw_okq (⟨"OverABar", "bestWay", "()I"⟩, 10) := ⟨⟨by decide +kernel, by decide +kernel⟩, List.mem_of_getElem? (i := 18) (by decide +kernel), List.mem_of_getElem? (i := 605) (by decide +kernel), List.mem_of_getElem? (i := 606) (by decide +kernel)⟩
def lw_privs_1 : List (MethodName × Nat) := [(⟨"OverABar$Reader", "readToken", "(LOverABar$Tape;)V"⟩, 7), (⟨"OverABar$Reader", "takeName", "(LOverABar$Tape;)V"⟩, 7), (⟨"OverABar$Reader", "isName", "(LOverABar$Tape;I)Z"⟩, 7), (⟨"OverABar$Reader", "takeNumber", "(LOverABar$Tape;)V"⟩, 7), (⟨"OverABar$Reader", "readLine", "(LOverABar$Tape;)V"⟩, 7), (⟨"OverABar$Reader", "readSlot", "(LOverABar$Tape;)I"⟩, 7), (⟨"OverABar$Reader", "readNumber", "(LOverABar$Tape;II)I"⟩, 7), (⟨"OverABar", "isPartOfWay", "(III)Z"⟩, 10), (⟨"OverABar", "isWay", "(I)Z"⟩, 10), (⟨"OverABar$Judge", "baseOf", "(LOverABar$Way;II)I"⟩, 9), (⟨"OverABar$Judge", "measureTenth", "(LOverABar$Way;I)V"⟩, 9), (⟨"OverABar$Judge", "measurePlaces", "(LOverABar$Way;I)V"⟩, 9), (⟨"OverABar$Judge", "isBent", "(LOverABar$Way;I)Z"⟩, 9), (⟨"OverABar$Judge", "isHasty", "(LOverABar$Way;I)Z"⟩, 9), (⟨"OverABar$Judge", "firstAcross", "(LOverABar$Way;I)I"⟩, 9), (⟨"OverABar", "bestWay", "()I"⟩, 10)]
theorem lw_r1 : ∀ q ∈ lw_privs_1, lw_okq q := List.forall_mem_cons.mpr ⟨lw_p0, List.forall_mem_cons.mpr ⟨lw_p1, List.forall_mem_cons.mpr ⟨lw_p2, List.forall_mem_cons.mpr ⟨lw_p3, List.forall_mem_cons.mpr ⟨lw_p4, List.forall_mem_cons.mpr ⟨lw_p5, List.forall_mem_cons.mpr ⟨lw_p6, List.forall_mem_cons.mpr ⟨lw_p7, List.forall_mem_cons.mpr ⟨lw_p8, List.forall_mem_cons.mpr ⟨lw_p9, List.forall_mem_cons.mpr ⟨lw_p10, List.forall_mem_cons.mpr ⟨lw_p11, List.forall_mem_cons.mpr ⟨lw_p12, List.forall_mem_cons.mpr ⟨lw_p13, List.forall_mem_cons.mpr ⟨lw_p14, List.forall_mem_cons.mpr ⟨lw_p15, fun _ h => absurd h List.not_mem_nil⟩⟩⟩⟩⟩⟩⟩⟩⟩⟩⟩⟩⟩⟩⟩⟩
theorem lw_p16 : lw_okq (⟨"OverABar", "weighWays", "()V"⟩, 10) := ⟨⟨by decide +kernel, by decide +kernel⟩, List.mem_of_getElem? (i := 18) (by decide +kernel), List.mem_of_getElem? (i := 609) (by decide +kernel), List.mem_of_getElem? (i := 610) (by decide +kernel)⟩
theorem lw_p17 : lw_okq (⟨"OverABar", "goYears", "(I)V"⟩, 10) := ⟨⟨by decide +kernel, by decide +kernel⟩, List.mem_of_getElem? (i := 18) (by decide +kernel), List.mem_of_getElem? (i := 650) (by decide +kernel), List.mem_of_getElem? (i := 651) (by decide +kernel)⟩
theorem lw_p18 : lw_okq (⟨"OverABar$Ring", "seenBits", "(II)I"⟩, 4) := ⟨⟨by decide +kernel, by decide +kernel⟩, List.mem_of_getElem? (i := 151) (by decide +kernel), List.mem_of_getElem? (i := 658) (by decide +kernel), List.mem_of_getElem? (i := 659) (by decide +kernel)⟩
theorem lw_p19 : lw_okq (⟨"OverABar", "countWays", "()I"⟩, 10) := ⟨⟨by decide +kernel, by decide +kernel⟩, List.mem_of_getElem? (i := 18) (by decide +kernel), List.mem_of_getElem? (i := 776) (by decide +kernel), List.mem_of_getElem? (i := 777) (by decide +kernel)⟩
theorem lw_p20 : lw_okq (⟨"OverABar", "countTenths", "()I"⟩, 10) := ⟨⟨by decide +kernel, by decide +kernel⟩, List.mem_of_getElem? (i := 18) (by decide +kernel), List.mem_of_getElem? (i := 780) (by decide +kernel), List.mem_of_getElem? (i := 781) (by decide +kernel)⟩
theorem lw_p21 : lw_okq (⟨"OverABarModel", "next", "()V"⟩, 30) := ⟨⟨by decide +kernel, by decide +kernel⟩, List.mem_of_getElem? (i := 794) (by decide +kernel), List.mem_of_getElem? (i := 906) (by decide +kernel), List.mem_of_getElem? (i := 907) (by decide +kernel)⟩
theorem lw_p22 : lw_okq (⟨"OverABarModel", "byteAt", "(I)I"⟩, 30) := ⟨⟨by decide +kernel, by decide +kernel⟩, List.mem_of_getElem? (i := 794) (by decide +kernel), List.mem_of_getElem? (i := 910) (by decide +kernel), List.mem_of_getElem? (i := 911) (by decide +kernel)⟩
theorem lw_p23 : lw_okq (⟨"OverABarModel", "nameAt", "(II)I"⟩, 30) := ⟨⟨by decide +kernel, by decide +kernel⟩, List.mem_of_getElem? (i := 794) (by decide +kernel), List.mem_of_getElem? (i := 916) (by decide +kernel), List.mem_of_getElem? (i := 917) (by decide +kernel)⟩
theorem lw_p24 : lw_okq (⟨"OverABarModel", "fails", "(I)V"⟩, 30) := ⟨⟨by decide +kernel, by decide +kernel⟩, List.mem_of_getElem? (i := 794) (by decide +kernel), List.mem_of_getElem? (i := 920) (by decide +kernel), List.mem_of_getElem? (i := 921) (by decide +kernel)⟩
theorem lw_p25 : lw_okq (⟨"OverABarModel", "readLine", "()V"⟩, 30) := ⟨⟨by decide +kernel, by decide +kernel⟩, List.mem_of_getElem? (i := 794) (by decide +kernel), List.mem_of_getElem? (i := 926) (by decide +kernel), List.mem_of_getElem? (i := 927) (by decide +kernel)⟩
theorem lw_p26 : lw_okq (⟨"OverABarModel", "told", "(I)V"⟩, 30) := ⟨⟨by decide +kernel, by decide +kernel⟩, List.mem_of_getElem? (i := 794) (by decide +kernel), List.mem_of_getElem? (i := 930) (by decide +kernel), List.mem_of_getElem? (i := 931) (by decide +kernel)⟩
theorem lw_p27 : lw_okq (⟨"OverABarModel", "number", "(II)I"⟩, 30) := ⟨⟨by decide +kernel, by decide +kernel⟩, List.mem_of_getElem? (i := 794) (by decide +kernel), List.mem_of_getElem? (i := 934) (by decide +kernel), List.mem_of_getElem? (i := 935) (by decide +kernel)⟩
theorem lw_p28 : lw_okq (⟨"OverABarModel", "clear", "(I)V"⟩, 30) := ⟨⟨by decide +kernel, by decide +kernel⟩, List.mem_of_getElem? (i := 794) (by decide +kernel), List.mem_of_getElem? (i := 957) (by decide +kernel), List.mem_of_getElem? (i := 958) (by decide +kernel)⟩
theorem lw_p29 : lw_okq (⟨"OverABarModel", "isTenth", "(II)Z"⟩, 30) := ⟨⟨by decide +kernel, by decide +kernel⟩, List.mem_of_getElem? (i := 794) (by decide +kernel), List.mem_of_getElem? (i := 965) (by decide +kernel), List.mem_of_getElem? (i := 966) (by decide +kernel)⟩
theorem lw_p30 : lw_okq (⟨"OverABarModel", "isWay", "(I)Z"⟩, 30) := ⟨⟨by decide +kernel, by decide +kernel⟩, List.mem_of_getElem? (i := 794) (by decide +kernel), List.mem_of_getElem? (i := 969) (by decide +kernel), List.mem_of_getElem? (i := 970) (by decide +kernel)⟩
theorem lw_p31 : lw_okq (⟨"OverABarModel", "its", "(IIII)I"⟩, 30) := ⟨⟨by decide +kernel, by decide +kernel⟩, List.mem_of_getElem? (i := 794) (by decide +kernel), List.mem_of_getElem? (i := 983) (by decide +kernel), List.mem_of_getElem? (i := 984) (by decide +kernel)⟩
def lw_privs_2 : List (MethodName × Nat) := [(⟨"OverABar", "weighWays", "()V"⟩, 10), (⟨"OverABar", "goYears", "(I)V"⟩, 10), (⟨"OverABar$Ring", "seenBits", "(II)I"⟩, 4), (⟨"OverABar", "countWays", "()I"⟩, 10), (⟨"OverABar", "countTenths", "()I"⟩, 10), (⟨"OverABarModel", "next", "()V"⟩, 30), (⟨"OverABarModel", "byteAt", "(I)I"⟩, 30), (⟨"OverABarModel", "nameAt", "(II)I"⟩, 30), (⟨"OverABarModel", "fails", "(I)V"⟩, 30), (⟨"OverABarModel", "readLine", "()V"⟩, 30), (⟨"OverABarModel", "told", "(I)V"⟩, 30), (⟨"OverABarModel", "number", "(II)I"⟩, 30), (⟨"OverABarModel", "clear", "(I)V"⟩, 30), (⟨"OverABarModel", "isTenth", "(II)Z"⟩, 30), (⟨"OverABarModel", "isWay", "(I)Z"⟩, 30), (⟨"OverABarModel", "its", "(IIII)I"⟩, 30)]
theorem lw_r2 : ∀ q ∈ lw_privs_2, lw_okq q := List.forall_mem_cons.mpr ⟨lw_p16, List.forall_mem_cons.mpr ⟨lw_p17, List.forall_mem_cons.mpr ⟨lw_p18, List.forall_mem_cons.mpr ⟨lw_p19, List.forall_mem_cons.mpr ⟨lw_p20, List.forall_mem_cons.mpr ⟨lw_p21, List.forall_mem_cons.mpr ⟨lw_p22, List.forall_mem_cons.mpr ⟨lw_p23, List.forall_mem_cons.mpr ⟨lw_p24, List.forall_mem_cons.mpr ⟨lw_p25, List.forall_mem_cons.mpr ⟨lw_p26, List.forall_mem_cons.mpr ⟨lw_p27, List.forall_mem_cons.mpr ⟨lw_p28, List.forall_mem_cons.mpr ⟨lw_p29, List.forall_mem_cons.mpr ⟨lw_p30, List.forall_mem_cons.mpr ⟨lw_p31, fun _ h => absurd h List.not_mem_nil⟩⟩⟩⟩⟩⟩⟩⟩⟩⟩⟩⟩⟩⟩⟩⟩
theorem lw_p32 : lw_okq (⟨"OverABarModel", "placeOf", "(IIII)I"⟩, 30) := ⟨⟨by decide +kernel, by decide +kernel⟩, List.mem_of_getElem? (i := 794) (by decide +kernel), List.mem_of_getElem? (i := 999) (by decide +kernel), List.mem_of_getElem? (i := 1000) (by decide +kernel)⟩
theorem lw_p33 : lw_okq (⟨"OverABarModel", "middle", "(II)I"⟩, 30) := ⟨⟨by decide +kernel, by decide +kernel⟩, List.mem_of_getElem? (i := 794) (by decide +kernel), List.mem_of_getElem? (i := 1003) (by decide +kernel), List.mem_of_getElem? (i := 1004) (by decide +kernel)⟩
theorem lw_p34 : lw_okq (⟨"OverABarModel", "whole", "()I"⟩, 30) := ⟨⟨by decide +kernel, by decide +kernel⟩, List.mem_of_getElem? (i := 794) (by decide +kernel), List.mem_of_getElem? (i := 1007) (by decide +kernel), List.mem_of_getElem? (i := 1008) (by decide +kernel)⟩
theorem lw_p35 : lw_okq (⟨"OverABarModel", "isNear", "(III)Z"⟩, 30) := ⟨⟨by decide +kernel, by decide +kernel⟩, List.mem_of_getElem? (i := 794) (by decide +kernel), List.mem_of_getElem? (i := 1016) (by decide +kernel), List.mem_of_getElem? (i := 1017) (by decide +kernel)⟩
theorem lw_p36 : lw_okq (⟨"OverABarModel", "highOf", "(I)I"⟩, 30) := ⟨⟨by decide +kernel, by decide +kernel⟩, List.mem_of_getElem? (i := 794) (by decide +kernel), List.mem_of_getElem? (i := 1024) (by decide +kernel), List.mem_of_getElem? (i := 1025) (by decide +kernel)⟩
theorem lw_p37 : lw_okq (⟨"OverABarModel", "getsAcross", "(I)Z"⟩, 30) := ⟨⟨by decide +kernel, by decide +kernel⟩, List.mem_of_getElem? (i := 794) (by decide +kernel), List.mem_of_getElem? (i := 1028) (by decide +kernel), List.mem_of_getElem? (i := 1029) (by decide +kernel)⟩
theorem lw_p38 : lw_okq (⟨"OverABarModel", "lowestOf", "(I)I"⟩, 30) := ⟨⟨by decide +kernel, by decide +kernel⟩, List.mem_of_getElem? (i := 794) (by decide +kernel), List.mem_of_getElem? (i := 1032) (by decide +kernel), List.mem_of_getElem? (i := 1033) (by decide +kernel)⟩
theorem lw_p39 : lw_okq (⟨"OverABarModel", "overAt", "(II)I"⟩, 30) := ⟨⟨by decide +kernel, by decide +kernel⟩, List.mem_of_getElem? (i := 794) (by decide +kernel), List.mem_of_getElem? (i := 1049) (by decide +kernel), List.mem_of_getElem? (i := 1050) (by decide +kernel)⟩
theorem lw_p40 : lw_okq (⟨"OverABarModel", "barredBy", "(II)I"⟩, 30) := ⟨⟨by decide +kernel, by decide +kernel⟩, List.mem_of_getElem? (i := 794) (by decide +kernel), List.mem_of_getElem? (i := 1057) (by decide +kernel), List.mem_of_getElem? (i := 1058) (by decide +kernel)⟩
theorem lw_p41 : lw_okq (⟨"OverABarModel", "isBent", "(I)Z"⟩, 30) := ⟨⟨by decide +kernel, by decide +kernel⟩, List.mem_of_getElem? (i := 794) (by decide +kernel), List.mem_of_getElem? (i := 1061) (by decide +kernel), List.mem_of_getElem? (i := 1062) (by decide +kernel)⟩
theorem lw_p42 : lw_okq (⟨"OverABarModel", "isQuick", "(I)Z"⟩, 30) := ⟨⟨by decide +kernel, by decide +kernel⟩, List.mem_of_getElem? (i := 794) (by decide +kernel), List.mem_of_getElem? (i := 1068) (by decide +kernel), List.mem_of_getElem? (i := 1069) (by decide +kernel)⟩
theorem lw_p43 : lw_okq (⟨"OverABarModel", "landsOn", "(I)I"⟩, 30) := ⟨⟨by decide +kernel, by decide +kernel⟩, List.mem_of_getElem? (i := 794) (by decide +kernel), List.mem_of_getElem? (i := 1072) (by decide +kernel), List.mem_of_getElem? (i := 1073) (by decide +kernel)⟩
theorem lw_p44 : lw_okq (⟨"OverABarModel", "worthOf", "(II)I"⟩, 30) := ⟨⟨by decide +kernel, by decide +kernel⟩, List.mem_of_getElem? (i := 794) (by decide +kernel), List.mem_of_getElem? (i := 1089) (by decide +kernel), List.mem_of_getElem? (i := 1090) (by decide +kernel)⟩
theorem lw_p45 : lw_okq (⟨"OverABarModel", "changed", "(II)I"⟩, 30) := ⟨⟨by decide +kernel, by decide +kernel⟩, List.mem_of_getElem? (i := 794) (by decide +kernel), List.mem_of_getElem? (i := 1093) (by decide +kernel), List.mem_of_getElem? (i := 1094) (by decide +kernel)⟩
theorem lw_p46 : lw_okq (⟨"OverABarModel", "worthBy", "(II)I"⟩, 30) := ⟨⟨by decide +kernel, by decide +kernel⟩, List.mem_of_getElem? (i := 794) (by decide +kernel), List.mem_of_getElem? (i := 1097) (by decide +kernel), List.mem_of_getElem? (i := 1098) (by decide +kernel)⟩
theorem lw_p47 : lw_okq (⟨"OverABarModel", "betterOf", "(I)I"⟩, 30) := ⟨⟨by decide +kernel, by decide +kernel⟩, List.mem_of_getElem? (i := 794) (by decide +kernel), List.mem_of_getElem? (i := 1105) (by decide +kernel), List.mem_of_getElem? (i := 1106) (by decide +kernel)⟩
def lw_privs_3 : List (MethodName × Nat) := [(⟨"OverABarModel", "placeOf", "(IIII)I"⟩, 30), (⟨"OverABarModel", "middle", "(II)I"⟩, 30), (⟨"OverABarModel", "whole", "()I"⟩, 30), (⟨"OverABarModel", "isNear", "(III)Z"⟩, 30), (⟨"OverABarModel", "highOf", "(I)I"⟩, 30), (⟨"OverABarModel", "getsAcross", "(I)Z"⟩, 30), (⟨"OverABarModel", "lowestOf", "(I)I"⟩, 30), (⟨"OverABarModel", "overAt", "(II)I"⟩, 30), (⟨"OverABarModel", "barredBy", "(II)I"⟩, 30), (⟨"OverABarModel", "isBent", "(I)Z"⟩, 30), (⟨"OverABarModel", "isQuick", "(I)Z"⟩, 30), (⟨"OverABarModel", "landsOn", "(I)I"⟩, 30), (⟨"OverABarModel", "worthOf", "(II)I"⟩, 30), (⟨"OverABarModel", "changed", "(II)I"⟩, 30), (⟨"OverABarModel", "worthBy", "(II)I"⟩, 30), (⟨"OverABarModel", "betterOf", "(I)I"⟩, 30)]
theorem lw_r3 : ∀ q ∈ lw_privs_3, lw_okq q := List.forall_mem_cons.mpr ⟨lw_p32, List.forall_mem_cons.mpr ⟨lw_p33, List.forall_mem_cons.mpr ⟨lw_p34, List.forall_mem_cons.mpr ⟨lw_p35, List.forall_mem_cons.mpr ⟨lw_p36, List.forall_mem_cons.mpr ⟨lw_p37, List.forall_mem_cons.mpr ⟨lw_p38, List.forall_mem_cons.mpr ⟨lw_p39, List.forall_mem_cons.mpr ⟨lw_p40, List.forall_mem_cons.mpr ⟨lw_p41, List.forall_mem_cons.mpr ⟨lw_p42, List.forall_mem_cons.mpr ⟨lw_p43, List.forall_mem_cons.mpr ⟨lw_p44, List.forall_mem_cons.mpr ⟨lw_p45, List.forall_mem_cons.mpr ⟨lw_p46, List.forall_mem_cons.mpr ⟨lw_p47, fun _ h => absurd h List.not_mem_nil⟩⟩⟩⟩⟩⟩⟩⟩⟩⟩⟩⟩⟩⟩⟩⟩
theorem lw_p48 : lw_okq (⟨"OverABarModel", "bestOf", "()I"⟩, 30) := ⟨⟨by decide +kernel, by decide +kernel⟩, List.mem_of_getElem? (i := 794) (by decide +kernel), List.mem_of_getElem? (i := 1126) (by decide +kernel), List.mem_of_getElem? (i := 1127) (by decide +kernel)⟩
theorem lw_p49 : lw_okq (⟨"OverABarModel", "worthOrNone", "(I)I"⟩, 30) := ⟨⟨by decide +kernel, by decide +kernel⟩, List.mem_of_getElem? (i := 794) (by decide +kernel), List.mem_of_getElem? (i := 1130) (by decide +kernel), List.mem_of_getElem? (i := 1131) (by decide +kernel)⟩
theorem lw_p50 : lw_okq (⟨"OverABarModel", "isJumper", "(I)Z"⟩, 30) := ⟨⟨by decide +kernel, by decide +kernel⟩, List.mem_of_getElem? (i := 794) (by decide +kernel), List.mem_of_getElem? (i := 1153) (by decide +kernel), List.mem_of_getElem? (i := 1154) (by decide +kernel)⟩
theorem lw_p51 : lw_okq (⟨"OverABarModel", "layWorths", "()V"⟩, 30) := ⟨⟨by decide +kernel, by decide +kernel⟩, List.mem_of_getElem? (i := 794) (by decide +kernel), List.mem_of_getElem? (i := 1161) (by decide +kernel), List.mem_of_getElem? (i := 1162) (by decide +kernel)⟩
theorem lw_p52 : lw_okq (⟨"OverABarModel", "keepJumpers", "()V"⟩, 30) := ⟨⟨by decide +kernel, by decide +kernel⟩, List.mem_of_getElem? (i := 794) (by decide +kernel), List.mem_of_getElem? (i := 1165) (by decide +kernel), List.mem_of_getElem? (i := 1166) (by decide +kernel)⟩
theorem lw_p53 : lw_okq (⟨"OverABarModel", "oneYear", "()V"⟩, 30) := ⟨⟨by decide +kernel, by decide +kernel⟩, List.mem_of_getElem? (i := 794) (by decide +kernel), List.mem_of_getElem? (i := 1169) (by decide +kernel), List.mem_of_getElem? (i := 1170) (by decide +kernel)⟩
theorem lw_p54 : lw_okq (⟨"OverABarModel", "taken", "(I)I"⟩, 30) := ⟨⟨by decide +kernel, by decide +kernel⟩, List.mem_of_getElem? (i := 794) (by decide +kernel), List.mem_of_getElem? (i := 1173) (by decide +kernel), List.mem_of_getElem? (i := 1174) (by decide +kernel)⟩
theorem lw_p55 : lw_okq (⟨"OverABarModel", "haveWay", "(I)I"⟩, 30) := ⟨⟨by decide +kernel, by decide +kernel⟩, List.mem_of_getElem? (i := 794) (by decide +kernel), List.mem_of_getElem? (i := 1181) (by decide +kernel), List.mem_of_getElem? (i := 1182) (by decide +kernel)⟩
theorem lw_p56 : lw_okq (⟨"OverABarModel", "jumpersBack", "()V"⟩, 30) := ⟨⟨by decide +kernel, by decide +kernel⟩, List.mem_of_getElem? (i := 794) (by decide +kernel), List.mem_of_getElem? (i := 1189) (by decide +kernel), List.mem_of_getElem? (i := 1190) (by decide +kernel)⟩
def lw_privs_4 : List (MethodName × Nat) := [(⟨"OverABarModel", "bestOf", "()I"⟩, 30), (⟨"OverABarModel", "worthOrNone", "(I)I"⟩, 30), (⟨"OverABarModel", "isJumper", "(I)Z"⟩, 30), (⟨"OverABarModel", "layWorths", "()V"⟩, 30), (⟨"OverABarModel", "keepJumpers", "()V"⟩, 30), (⟨"OverABarModel", "oneYear", "()V"⟩, 30), (⟨"OverABarModel", "taken", "(I)I"⟩, 30), (⟨"OverABarModel", "haveWay", "(I)I"⟩, 30), (⟨"OverABarModel", "jumpersBack", "()V"⟩, 30)]
theorem lw_r4 : ∀ q ∈ lw_privs_4, lw_okq q := List.forall_mem_cons.mpr ⟨lw_p48, List.forall_mem_cons.mpr ⟨lw_p49, List.forall_mem_cons.mpr ⟨lw_p50, List.forall_mem_cons.mpr ⟨lw_p51, List.forall_mem_cons.mpr ⟨lw_p52, List.forall_mem_cons.mpr ⟨lw_p53, List.forall_mem_cons.mpr ⟨lw_p54, List.forall_mem_cons.mpr ⟨lw_p55, List.forall_mem_cons.mpr ⟨lw_p56, fun _ h => absurd h List.not_mem_nil⟩⟩⟩⟩⟩⟩⟩⟩⟩
def lw_privs : List (MethodName × Nat) := lw_privs_1 ++ (lw_privs_2 ++ (lw_privs_3 ++ (lw_privs_4)))
def lw_tbl : List Cond := k2_sels lw_privs ++ tables_1
theorem lw_privs_ok : ∀ q ∈ lw_privs, lw_okq q := by
  show ∀ q ∈ lw_privs_1 ++ (lw_privs_2 ++ (lw_privs_3 ++ (lw_privs_4))), lw_okq q
  exact List.forall_mem_append.mpr ⟨lw_r1, List.forall_mem_append.mpr ⟨lw_r2, List.forall_mem_append.mpr ⟨lw_r3, lw_r4⟩⟩⟩

/-! the words that last: those of the tables that a call may hand on -/
def TB : List Cond := lw_tbl.filter goodWord
theorem TB_mem {w : Cond} (h : w ∈ lw_tbl) (g : goodWord w = true) : w ∈ TB := List.mem_filter.mpr ⟨h, g⟩
theorem TB_in {w : Cond} (h : w ∈ TB) : w ∈ lw_tbl := (List.mem_filter.mp h).1
theorem TB_good {w : Cond} (h : w ∈ TB) : goodWord w = true := (List.mem_filter.mp h).2
theorem mt0 {w : Cond} (i : Nat) (h : (k2_sels lw_privs)[i]? = some w) : w ∈ lw_tbl := List.mem_append_left _ (List.mem_of_getElem? h)
theorem mtT {w : Cond} (h : w ∈ tables_1) : w ∈ lw_tbl := List.mem_append_right _ h
theorem mt1 {w : Cond} (i : Nat) (h : tables_1_1[i]? = some w) : w ∈ lw_tbl := mtT (List.mem_append_left _ (List.mem_of_getElem? h))
theorem mt2 {w : Cond} (i : Nat) (h : tables_1_2[i]? = some w) : w ∈ lw_tbl := mtT (List.mem_append_right _ (List.mem_append_left _ (List.mem_of_getElem? h)))
theorem mt3 {w : Cond} (i : Nat) (h : tables_1_3[i]? = some w) : w ∈ lw_tbl := mtT (List.mem_append_right _ (List.mem_append_right _ (List.mem_append_left _ (List.mem_of_getElem? h))))
theorem mt4 {w : Cond} (i : Nat) (h : tables_1_4[i]? = some w) : w ∈ lw_tbl := mtT (List.mem_append_right _ (List.mem_append_right _ (List.mem_append_right _ (List.mem_append_left _ (List.mem_of_getElem? h)))))
theorem mt5 {w : Cond} (i : Nat) (h : tables_1_5[i]? = some w) : w ∈ lw_tbl := mtT (List.mem_append_right _ (List.mem_append_right _ (List.mem_append_right _ (List.mem_append_right _ (List.mem_append_left _ (List.mem_of_getElem? h))))))
theorem mt6 {w : Cond} (i : Nat) (h : tables_1_6[i]? = some w) : w ∈ lw_tbl := mtT (List.mem_append_right _ (List.mem_append_right _ (List.mem_append_right _ (List.mem_append_right _ (List.mem_append_right _ (List.mem_of_getElem? h))))))
end
section
def RX0 : String := "OverABar$Judge"
def TX0 : u_T := fun k => match k with
  | 0 => ("OverABar$Judge", "rules", "LOverABar$Rules;", true)
  | 1 => ("OverABar$Judge", "leastAcross", "[I", true)
  | 2 => ("OverABar$Judge", "mostAcross", "[I", true)
  | 3 => ("OverABar$Judge", "leastUp", "[I", true)
  | 4 => ("OverABar$Judge", "leastPart", "[I", true)
  | 5 => ("OverABar$Judge", "bent", "[Z", true)
  | 6 => ("OverABar$Judge", "hasty", "[Z", true)
  | 7 => ("OverABar$Judge", "own", "I", false)
  | _ => ("OverABar$Judge", "changed", "[I", true)
def tyX0 : Nat → FieldType := fun k => match k with
  | 0 => .object "OverABar$Rules"
  | 1 => .array .int
  | 2 => .array .int
  | 3 => .array .int
  | 4 => .array .int
  | 5 => .array .boolean
  | 6 => .array .boolean
  | 7 => .int
  | _ => .array .int
abbrev wsX00 : List Cond := u_ws RX0 TX0 9
theorem nmX0 : ∀ a, a < 9 → ∀ b, b < 9 → a ≠ b → (TX0 a).2.1 ≠ (TX0 b).2.1 := by decide +kernel
theorem tyX0_ok : ∀ k, k < 9 → parseFieldDescriptor (TX0 k).2.2.1 = some (tyX0 k) := by decide +kernel
abbrev cX0_init : ByteArray := prog_2_method_1_code
def yX0_init : MethodName := ⟨RX0, "<init>", "(LOverABar$Rules;)V"⟩
abbrev cX0_placeOf : ByteArray := prog_2_method_2_code
def yX0_placeOf : MethodName := ⟨RX0, "placeOf", "(LOverABar$Way;III)I"⟩
abbrev cX0_baseOf : ByteArray := prog_2_method_3_code
def yX0_baseOf : MethodName := ⟨RX0, "baseOf", "(LOverABar$Way;II)I"⟩
abbrev cX0_isNear : ByteArray := prog_2_method_4_code
def yX0_isNear : MethodName := ⟨RX0, "isNear", "(I)Z"⟩
abbrev cX0_measure : ByteArray := prog_2_method_5_code
def yX0_measure : MethodName := ⟨RX0, "measure", "(LOverABar$Way;)V"⟩
abbrev cX0_measureTenth : ByteArray := prog_2_method_6_code
def yX0_measureTenth : MethodName := ⟨RX0, "measureTenth", "(LOverABar$Way;I)V"⟩
abbrev cX0_measurePlaces : ByteArray := prog_2_method_7_code
def yX0_measurePlaces : MethodName := ⟨RX0, "measurePlaces", "(LOverABar$Way;I)V"⟩
abbrev cX0_isBent : ByteArray := prog_2_method_8_code
def yX0_isBent : MethodName := ⟨RX0, "isBent", "(LOverABar$Way;I)Z"⟩
abbrev cX0_isHasty : ByteArray := prog_2_method_9_code
def yX0_isHasty : MethodName := ⟨RX0, "isHasty", "(LOverABar$Way;I)Z"⟩
abbrev cX0_getsAcross : ByteArray := prog_2_method_10_code
def yX0_getsAcross : MethodName := ⟨RX0, "getsAcross", "(LOverABar$Way;)Z"⟩
abbrev cX0_lowestTenth : ByteArray := prog_2_method_11_code
def yX0_lowestTenth : MethodName := ⟨RX0, "lowestTenth", "(LOverABar$Way;)I"⟩
abbrev cX0_clears : ByteArray := prog_2_method_12_code
def yX0_clears : MethodName := ⟨RX0, "clears", "(LOverABar$Way;)I"⟩
abbrev cX0_greatestMiddle : ByteArray := prog_2_method_13_code
def yX0_greatestMiddle : MethodName := ⟨RX0, "greatestMiddle", "(LOverABar$Way;)I"⟩
abbrev cX0_orderOfParts : ByteArray := prog_2_method_14_code
def yX0_orderOfParts : MethodName := ⟨RX0, "orderOfParts", "(LOverABar$Way;)I"⟩
abbrev cX0_firstAcross : ByteArray := prog_2_method_15_code
def yX0_firstAcross : MethodName := ⟨RX0, "firstAcross", "(LOverABar$Way;I)I"⟩
abbrev cX0_whyBarred : ByteArray := prog_2_method_16_code
def yX0_whyBarred : MethodName := ⟨RX0, "whyBarred", "(LOverABar$Way;)I"⟩
abbrev cX0_pitBears : ByteArray := prog_2_method_17_code
def yX0_pitBears : MethodName := ⟨RX0, "pitBears", "(ILOverABar$Way;)Z"⟩
abbrev cX0_value : ByteArray := prog_2_method_18_code
def yX0_value : MethodName := ⟨RX0, "value", "(LOverABar$Way;)I"⟩
abbrev cX0_valueWith : ByteArray := prog_2_method_19_code
def yX0_valueWith : MethodName := ⟨RX0, "valueWith", "(LOverABar$Way;I)I"⟩
abbrev cX0_survey : ByteArray := prog_2_method_20_code
def yX0_survey : MethodName := ⟨RX0, "survey", "(LOverABar$Way;)V"⟩
abbrev cX0_bestChange : ByteArray := prog_2_method_21_code
def yX0_bestChange : MethodName := ⟨RX0, "bestChange", "()I"⟩
abbrev cX0_changesThatCompare : ByteArray := prog_2_method_22_code
def yX0_changesThatCompare : MethodName := ⟨RX0, "changesThatCompare", "(I)I"⟩
abbrev cX0_leastOnTheWay : ByteArray := prog_2_method_23_code
def yX0_leastOnTheWay : MethodName := ⟨RX0, "leastOnTheWay", "(LOverABar$Way;LOverABar$Way;)I"⟩
def RX1 : String := "OverABar$Reader"
def TX1 : u_T := fun k => match k with
  | 0 => ("OverABar$Reader", "draft", "[I", true)
  | 1 => ("OverABar$Reader", "told", "I", false)
  | 2 => ("OverABar$Reader", "start", "I", false)
  | 3 => ("OverABar$Reader", "fault", "I", false)
  | 4 => ("OverABar$Reader", "at", "I", false)
  | 5 => ("OverABar$Reader", "kind", "I", false)
  | _ => ("OverABar$Reader", "value", "I", false)
def tyX1 : Nat → FieldType := fun k => match k with
  | 0 => .array .int
  | 1 => .int
  | 2 => .int
  | 3 => .int
  | 4 => .int
  | 5 => .int
  | _ => .int
abbrev wsX10 : List Cond := u_ws RX1 TX1 7
theorem nmX1 : ∀ a, a < 7 → ∀ b, b < 7 → a ≠ b → (TX1 a).2.1 ≠ (TX1 b).2.1 := by decide +kernel
theorem tyX1_ok : ∀ k, k < 7 → parseFieldDescriptor (TX1 k).2.2.1 = some (tyX1 k) := by decide +kernel
abbrev cX1_init : ByteArray := prog_3_method_1_code
def yX1_init : MethodName := ⟨RX1, "<init>", "()V"⟩
abbrev cX1_readText : ByteArray := prog_3_method_2_code
def yX1_readText : MethodName := ⟨RX1, "readText", "(LOverABar$Tape;)I"⟩
abbrev cX1_readLine : ByteArray := prog_3_method_3_code
def yX1_readLine : MethodName := ⟨RX1, "readLine", "(LOverABar$Tape;)V"⟩
abbrev cX1_readSlot : ByteArray := prog_3_method_4_code
def yX1_readSlot : MethodName := ⟨RX1, "readSlot", "(LOverABar$Tape;)I"⟩
abbrev cX1_readNumber : ByteArray := prog_3_method_5_code
def yX1_readNumber : MethodName := ⟨RX1, "readNumber", "(LOverABar$Tape;II)I"⟩
abbrev cX1_readToken : ByteArray := prog_3_method_6_code
def yX1_readToken : MethodName := ⟨RX1, "readToken", "(LOverABar$Tape;)V"⟩
abbrev cX1_takeName : ByteArray := prog_3_method_7_code
def yX1_takeName : MethodName := ⟨RX1, "takeName", "(LOverABar$Tape;)V"⟩
abbrev cX1_isName : ByteArray := prog_3_method_8_code
def yX1_isName : MethodName := ⟨RX1, "isName", "(LOverABar$Tape;I)Z"⟩
abbrev cX1_takeNumber : ByteArray := prog_3_method_9_code
def yX1_takeNumber : MethodName := ⟨RX1, "takeNumber", "(LOverABar$Tape;)V"⟩
abbrev cX1_isLetter : ByteArray := prog_3_method_10_code
def yX1_isLetter : MethodName := ⟨RX1, "isLetter", "(I)Z"⟩
abbrev cX1_isFigure : ByteArray := prog_3_method_11_code
def yX1_isFigure : MethodName := ⟨RX1, "isFigure", "(I)Z"⟩
def RX2 : String := "OverABar$Ring"
def TX2 : u_T := fun k => match k with
  | 0 => ("OverABar$Ring", "held", "[I", true)
  | 1 => ("OverABar$Ring", "now", "[I", true)
  | 2 => ("OverABar$Ring", "then", "[I", true)
  | _ => ("OverABar$Ring", "count", "I", false)
def tyX2 : Nat → FieldType := fun k => match k with
  | 0 => .array .int
  | 1 => .array .int
  | 2 => .array .int
  | _ => .int
abbrev wsX20 : List Cond := u_ws RX2 TX2 4
theorem nmX2 : ∀ a, a < 4 → ∀ b, b < 4 → a ≠ b → (TX2 a).2.1 ≠ (TX2 b).2.1 := by decide +kernel
theorem tyX2_ok : ∀ k, k < 4 → parseFieldDescriptor (TX2 k).2.2.1 = some (tyX2 k) := by decide +kernel
abbrev cX2_init : ByteArray := prog_4_method_1_code
def yX2_init : MethodName := ⟨RX2, "<init>", "()V"⟩
abbrev cX2_join : ByteArray := prog_4_method_2_code
def yX2_join : MethodName := ⟨RX2, "join", "(I)Z"⟩
abbrev cX2_has : ByteArray := prog_4_method_3_code
def yX2_has : MethodName := ⟨RX2, "has", "(I)Z"⟩
abbrev cX2_begin : ByteArray := prog_4_method_4_code
def yX2_begin : MethodName := ⟨RX2, "begin", "()V"⟩
abbrev cX2_keep : ByteArray := prog_4_method_5_code
def yX2_keep : MethodName := ⟨RX2, "keep", "()V"⟩
abbrev cX2_goYear : ByteArray := prog_4_method_6_code
def yX2_goYear : MethodName := ⟨RX2, "goYear", "([ILOverABar$Rules;)V"⟩
abbrev cX2_seenBits : ByteArray := prog_4_method_7_code
def yX2_seenBits : MethodName := ⟨RX2, "seenBits", "(II)I"⟩
abbrev cX2_choice : ByteArray := prog_4_method_8_code
def yX2_choice : MethodName := ⟨RX2, "choice", "(II[II)I"⟩
abbrev cX2_unlikeHeld : ByteArray := prog_4_method_9_code
def yX2_unlikeHeld : MethodName := ⟨RX2, "unlikeHeld", "()I"⟩
abbrev cX2_countIn : ByteArray := prog_4_method_10_code
def yX2_countIn : MethodName := ⟨RX2, "countIn", "([II)I"⟩
abbrev cX2_isOfOneWay : ByteArray := prog_4_method_11_code
def yX2_isOfOneWay : MethodName := ⟨RX2, "isOfOneWay", "()Z"⟩
abbrev cX2_heldBits : ByteArray := prog_4_method_12_code
def yX2_heldBits : MethodName := ⟨RX2, "heldBits", "()I"⟩
def RX3 : String := "OverABar$Rules"
def TX3 : u_T := fun k => match k with
  | _ => ("OverABar$Rules", "values", "[I", true)
def tyX3 : Nat → FieldType := fun k => match k with
  | _ => .array .int
abbrev wsX30 : List Cond := u_ws RX3 TX3 1
theorem nmX3 : ∀ a, a < 1 → ∀ b, b < 1 → a ≠ b → (TX3 a).2.1 ≠ (TX3 b).2.1 := by decide +kernel
theorem tyX3_ok : ∀ k, k < 1 → parseFieldDescriptor (TX3 k).2.2.1 = some (tyX3 k) := by decide +kernel
abbrev cX3_init : ByteArray := prog_5_method_1_code
def yX3_init : MethodName := ⟨RX3, "<init>", "()V"⟩
abbrev cX3_setAll : ByteArray := prog_5_method_2_code
def yX3_setAll : MethodName := ⟨RX3, "setAll", "([I)V"⟩
abbrev cX3_total : ByteArray := prog_5_method_3_code
def yX3_total : MethodName := ⟨RX3, "total", "()I"⟩
abbrev cX3_middleAt : ByteArray := prog_5_method_4_code
def yX3_middleAt : MethodName := ⟨RX3, "middleAt", "(II)I"⟩
def RX4 : String := "OverABar$Sheet"
def TX4 : u_T := fun k => match k with
  | 0 => ("OverABar$Sheet", "lane", "I", false)
  | 1 => ("OverABar$Sheet", "size", "I", false)
  | _ => ("OverABar$Sheet", "cells", "[I", true)
def tyX4 : Nat → FieldType := fun k => match k with
  | 0 => .int
  | 1 => .int
  | _ => .array .int
abbrev wsX40 : List Cond := u_ws RX4 TX4 3
theorem nmX4 : ∀ a, a < 3 → ∀ b, b < 3 → a ≠ b → (TX4 a).2.1 ≠ (TX4 b).2.1 := by decide +kernel
theorem tyX4_ok : ∀ k, k < 3 → parseFieldDescriptor (TX4 k).2.2.1 = some (tyX4 k) := by decide +kernel
abbrev cX4_init : ByteArray := prog_6_method_1_code
def yX4_init : MethodName := ⟨RX4, "<init>", "()V"⟩
abbrev cX4_isLane : ByteArray := prog_6_method_2_code
def yX4_isLane : MethodName := ⟨RX4, "isLane", "(I)Z"⟩
abbrev cX4_isNothing : ByteArray := prog_6_method_3_code
def yX4_isNothing : MethodName := ⟨RX4, "isNothing", "()Z"⟩
abbrev cX4_hasCell : ByteArray := prog_6_method_4_code
def yX4_hasCell : MethodName := ⟨RX4, "hasCell", "(I)Z"⟩
abbrev cX4_begin : ByteArray := prog_6_method_5_code
def yX4_begin : MethodName := ⟨RX4, "begin", "(II)V"⟩
abbrev cX4_write : ByteArray := prog_6_method_6_code
def yX4_write : MethodName := ⟨RX4, "write", "(II)V"⟩
abbrev cX4_faultAs : ByteArray := prog_6_method_7_code
def yX4_faultAs : MethodName := ⟨RX4, "faultAs", "(I)I"⟩
abbrev cX4_readTenth : ByteArray := prog_6_method_8_code
def yX4_readTenth : MethodName := ⟨RX4, "readTenth", "(II[I)I"⟩
def RX5 : String := "OverABar$Tape"
def TX5 : u_T := fun k => match k with
  | 0 => ("OverABar$Tape", "bytes", "[I", true)
  | _ => ("OverABar$Tape", "length", "I", false)
def tyX5 : Nat → FieldType := fun k => match k with
  | 0 => .array .int
  | _ => .int
abbrev wsX50 : List Cond := u_ws RX5 TX5 2
theorem nmX5 : ∀ a, a < 2 → ∀ b, b < 2 → a ≠ b → (TX5 a).2.1 ≠ (TX5 b).2.1 := by decide +kernel
theorem tyX5_ok : ∀ k, k < 2 → parseFieldDescriptor (TX5 k).2.2.1 = some (tyX5 k) := by decide +kernel
abbrev cX5_init : ByteArray := prog_7_method_1_code
def yX5_init : MethodName := ⟨RX5, "<init>", "()V"⟩
abbrev cX5_addEight : ByteArray := prog_7_method_2_code
def yX5_addEight : MethodName := ⟨RX5, "addEight", "(J)Z"⟩
def RX6 : String := "OverABar$Way"
def TX6 : u_T := fun k => match k with
  | 0 => ("OverABar$Way", "numbers", "[I", true)
  | 1 => ("OverABar$Way", "tenths", "I", false)
  | _ => ("OverABar$Way", "feet", "I", false)
def tyX6 : Nat → FieldType := fun k => match k with
  | 0 => .array .int
  | 1 => .int
  | _ => .int
abbrev wsX60 : List Cond := u_ws RX6 TX6 3
theorem nmX6 : ∀ a, a < 3 → ∀ b, b < 3 → a ≠ b → (TX6 a).2.1 ≠ (TX6 b).2.1 := by decide +kernel
theorem tyX6_ok : ∀ k, k < 3 → parseFieldDescriptor (TX6 k).2.2.1 = some (tyX6 k) := by decide +kernel
abbrev cX6_init : ByteArray := prog_8_method_1_code
def yX6_init : MethodName := ⟨RX6, "<init>", "()V"⟩
abbrev cX6_canHave : ByteArray := prog_8_method_2_code
def yX6_canHave : MethodName := ⟨RX6, "canHave", "(II)Z"⟩
abbrev cX6_isNumber : ByteArray := prog_8_method_3_code
def yX6_isNumber : MethodName := ⟨RX6, "isNumber", "(I)Z"⟩
abbrev cX6_spot : ByteArray := prog_8_method_4_code
def yX6_spot : MethodName := ⟨RX6, "spot", "(II)I"⟩
abbrev cX6_begin : ByteArray := prog_8_method_5_code
def yX6_begin : MethodName := ⟨RX6, "begin", "(II)V"⟩
abbrev cX6_become : ByteArray := prog_8_method_6_code
def yX6_become : MethodName := ⟨RX6, "become", "(LOverABar$Way;)V"⟩
abbrev cX6_countNumbers : ByteArray := prog_8_method_7_code
def yX6_countNumbers : MethodName := ⟨RX6, "countNumbers", "()I"⟩
abbrev cX6_isTenthInBounds : ByteArray := prog_8_method_8_code
def yX6_isTenthInBounds : MethodName := ⟨RX6, "isTenthInBounds", "(I)Z"⟩
abbrev cX6_unlikeNumbers : ByteArray := prog_8_method_9_code
def yX6_unlikeNumbers : MethodName := ⟨RX6, "unlikeNumbers", "(LOverABar$Way;)I"⟩
abbrev cX6_hasChange : ByteArray := prog_8_method_10_code
def yX6_hasChange : MethodName := ⟨RX6, "hasChange", "(I)Z"⟩
abbrev cX6_change : ByteArray := prog_8_method_11_code
def yX6_change : MethodName := ⟨RX6, "change", "(I)V"⟩
abbrev cX6_changeBack : ByteArray := prog_8_method_12_code
def yX6_changeBack : MethodName := ⟨RX6, "changeBack", "(I)V"⟩
abbrev cX6_step : ByteArray := prog_8_method_13_code
def yX6_step : MethodName := ⟨RX6, "step", "(I)I"⟩
def RX7 : String := "OverABar"
def TX7 : u_T := fun k => match k with
  | 0 => ("OverABar", "tape", "LOverABar$Tape;", true)
  | 1 => ("OverABar", "reader", "LOverABar$Reader;", true)
  | 2 => ("OverABar", "rules", "LOverABar$Rules;", true)
  | 3 => ("OverABar", "ways", "[LOverABar$Way;", true)
  | 4 => ("OverABar", "spare", "LOverABar$Way;", true)
  | 5 => ("OverABar", "judge", "LOverABar$Judge;", true)
  | 6 => ("OverABar", "worths", "[I", true)
  | 7 => ("OverABar", "ring", "LOverABar$Ring;", true)
  | 8 => ("OverABar", "sheets", "[LOverABar$Sheet;", true)
  | _ => ("OverABar", "torn", "I", false)
def tyX7 : Nat → FieldType := fun k => match k with
  | 0 => .object "OverABar$Tape"
  | 1 => .object "OverABar$Reader"
  | 2 => .object "OverABar$Rules"
  | 3 => .array (.object "OverABar$Way")
  | 4 => .object "OverABar$Way"
  | 5 => .object "OverABar$Judge"
  | 6 => .array .int
  | 7 => .object "OverABar$Ring"
  | 8 => .array (.object "OverABar$Sheet")
  | _ => .int
abbrev wsX70 : List Cond := u_ws RX7 TX7 10
theorem nmX7 : ∀ a, a < 10 → ∀ b, b < 10 → a ≠ b → (TX7 a).2.1 ≠ (TX7 b).2.1 := by decide +kernel
theorem tyX7_ok : ∀ k, k < 10 → parseFieldDescriptor (TX7 k).2.2.1 = some (tyX7 k) := by decide +kernel
abbrev cX7_init : ByteArray := prog_1_method_1_code
def yX7_init : MethodName := ⟨RX7, "<init>", "()V"⟩
abbrev cX7_feed : ByteArray := prog_1_method_2_code
def yX7_feed : MethodName := ⟨RX7, "feed", "(J)I"⟩
abbrev cX7_end : ByteArray := prog_1_method_3_code
def yX7_end : MethodName := ⟨RX7, "end", "(I)I"⟩
abbrev cX7_text : ByteArray := prog_1_method_4_code
def yX7_text : MethodName := ⟨RX7, "text", "()I"⟩
abbrev cX7_fault : ByteArray := prog_1_method_5_code
def yX7_fault : MethodName := ⟨RX7, "fault", "()I"⟩
abbrev cX7_rule : ByteArray := prog_1_method_6_code
def yX7_rule : MethodName := ⟨RX7, "rule", "(I)I"⟩
abbrev cX7_way : ByteArray := prog_1_method_7_code
def yX7_way : MethodName := ⟨RX7, "way", "(III)I"⟩
abbrev cX7_put : ByteArray := prog_1_method_8_code
def yX7_put : MethodName := ⟨RX7, "put", "(IIIII)I"⟩
abbrev cX7_at : ByteArray := prog_1_method_9_code
def yX7_at : MethodName := ⟨RX7, "at", "(IIII)I"⟩
abbrev cX7_of : ByteArray := prog_1_method_10_code
def yX7_of : MethodName := ⟨RX7, "of", "(II)I"⟩
abbrev cX7_copy : ByteArray := prog_1_method_11_code
def yX7_copy : MethodName := ⟨RX7, "copy", "(II)I"⟩
abbrev cX7_place : ByteArray := prog_1_method_12_code
def yX7_place : MethodName := ⟨RX7, "place", "(IIII)I"⟩
abbrev cX7_near : ByteArray := prog_1_method_13_code
def yX7_near : MethodName := ⟨RX7, "near", "(III)I"⟩
abbrev cX7_high : ByteArray := prog_1_method_14_code
def yX7_high : MethodName := ⟨RX7, "high", "(I)I"⟩
abbrev cX7_lowest : ByteArray := prog_1_method_15_code
def yX7_lowest : MethodName := ⟨RX7, "lowest", "(I)I"⟩
abbrev cX7_under : ByteArray := prog_1_method_16_code
def yX7_under : MethodName := ⟨RX7, "under", "(I)I"⟩
abbrev cX7_order : ByteArray := prog_1_method_17_code
def yX7_order : MethodName := ⟨RX7, "order", "(I)I"⟩
abbrev cX7_barred : ByteArray := prog_1_method_18_code
def yX7_barred : MethodName := ⟨RX7, "barred", "(I)I"⟩
abbrev cX7_pits : ByteArray := prog_1_method_19_code
def yX7_pits : MethodName := ⟨RX7, "pits", "(I)I"⟩
abbrev cX7_worth : ByteArray := prog_1_method_20_code
def yX7_worth : MethodName := ⟨RX7, "worth", "(II)I"⟩
abbrev cX7_better : ByteArray := prog_1_method_21_code
def yX7_better : MethodName := ⟨RX7, "better", "(I)I"⟩
abbrev cX7_climb : ByteArray := prog_1_method_22_code
def yX7_climb : MethodName := ⟨RX7, "climb", "(II)I"⟩
abbrev cX7_around : ByteArray := prog_1_method_23_code
def yX7_around : MethodName := ⟨RX7, "around", "(II)I"⟩
abbrev cX7_valley : ByteArray := prog_1_method_24_code
def yX7_valley : MethodName := ⟨RX7, "valley", "(III)I"⟩
abbrev cX7_best : ByteArray := prog_1_method_25_code
def yX7_best : MethodName := ⟨RX7, "best", "(I)I"⟩
abbrev cX7_suits : ByteArray := prog_1_method_26_code
def yX7_suits : MethodName := ⟨RX7, "suits", "(II)I"⟩
abbrev cX7_pays : ByteArray := prog_1_method_27_code
def yX7_pays : MethodName := ⟨RX7, "pays", "(IIII)I"⟩
abbrev cX7_jumper : ByteArray := prog_1_method_28_code
def yX7_jumper : MethodName := ⟨RX7, "jumper", "(I)I"⟩
abbrev cX7_takes : ByteArray := prog_1_method_29_code
def yX7_takes : MethodName := ⟨RX7, "takes", "(II)I"⟩
abbrev cX7_years : ByteArray := prog_1_method_30_code
def yX7_years : MethodName := ⟨RX7, "years", "(I)I"⟩
abbrev cX7_who : ByteArray := prog_1_method_31_code
def yX7_who : MethodName := ⟨RX7, "who", "(I)I"⟩
abbrev cX7_all : ByteArray := prog_1_method_32_code
def yX7_all : MethodName := ⟨RX7, "all", "()I"⟩
abbrev cX7_odd : ByteArray := prog_1_method_33_code
def yX7_odd : MethodName := ⟨RX7, "odd", "(III)I"⟩
abbrev cX7_odds : ByteArray := prog_1_method_34_code
def yX7_odds : MethodName := ⟨RX7, "odds", "(IIIII)I"⟩
abbrev cX7_asks : ByteArray := prog_1_method_35_code
def yX7_asks : MethodName := ⟨RX7, "asks", "(IIII)I"⟩
abbrev cX7_sheet : ByteArray := prog_1_method_36_code
def yX7_sheet : MethodName := ⟨RX7, "sheet", "(III)I"⟩
abbrev cX7_lay : ByteArray := prog_1_method_37_code
def yX7_lay : MethodName := ⟨RX7, "lay", "(III)I"⟩
abbrev cX7_film : ByteArray := prog_1_method_38_code
def yX7_film : MethodName := ⟨RX7, "film", "(IIIIII)I"⟩
abbrev cX7_torn : ByteArray := prog_1_method_39_code
def yX7_torn : MethodName := ⟨RX7, "torn", "()I"⟩
abbrev cX7_count : ByteArray := prog_1_method_40_code
def yX7_count : MethodName := ⟨RX7, "count", "(I)I"⟩
abbrev cX7_within : ByteArray := prog_1_method_41_code
def yX7_within : MethodName := ⟨RX7, "within", "(III)Z"⟩
abbrev cX7_isWayNumber : ByteArray := prog_1_method_42_code
def yX7_isWayNumber : MethodName := ⟨RX7, "isWayNumber", "(I)Z"⟩
abbrev cX7_isPart : ByteArray := prog_1_method_43_code
def yX7_isPart : MethodName := ⟨RX7, "isPart", "(I)Z"⟩
abbrev cX7_isSheet : ByteArray := prog_1_method_44_code
def yX7_isSheet : MethodName := ⟨RX7, "isSheet", "(I)Z"⟩
abbrev cX7_isWay : ByteArray := prog_1_method_45_code
def yX7_isWay : MethodName := ⟨RX7, "isWay", "(I)Z"⟩
abbrev cX7_isPartOfWay : ByteArray := prog_1_method_46_code
def yX7_isPartOfWay : MethodName := ⟨RX7, "isPartOfWay", "(III)Z"⟩
abbrev cX7_weighWays : ByteArray := prog_1_method_47_code
def yX7_weighWays : MethodName := ⟨RX7, "weighWays", "()V"⟩
abbrev cX7_bestWay : ByteArray := prog_1_method_48_code
def yX7_bestWay : MethodName := ⟨RX7, "bestWay", "()I"⟩
abbrev cX7_goYears : ByteArray := prog_1_method_49_code
def yX7_goYears : MethodName := ⟨RX7, "goYears", "(I)V"⟩
abbrev cX7_countWays : ByteArray := prog_1_method_50_code
def yX7_countWays : MethodName := ⟨RX7, "countWays", "()I"⟩
abbrev cX7_countTenths : ByteArray := prog_1_method_51_code
def yX7_countTenths : MethodName := ⟨RX7, "countTenths", "()I"⟩
abbrev cX7_goodSlips : ByteArray := prog_1_method_52_code
def yX7_goodSlips : MethodName := ⟨RX7, "goodSlips", "(III)I"⟩
abbrev cX7_goodInThree : ByteArray := prog_1_method_53_code
def yX7_goodInThree : MethodName := ⟨RX7, "goodInThree", "(III)I"⟩
abbrev cX7_cube : ByteArray := prog_1_method_54_code
def yX7_cube : MethodName := ⟨RX7, "cube", "(I)I"⟩
abbrev cX7_dividedDown : ByteArray := prog_1_method_55_code
def yX7_dividedDown : MethodName := ⟨RX7, "dividedDown", "(II)I"⟩
abbrev cX7_commonDivisor : ByteArray := prog_1_method_56_code
def yX7_commonDivisor : MethodName := ⟨RX7, "commonDivisor", "(II)I"⟩
def RX8 : String := "OverABarModel"
def TX8 : u_T := fun k => match k with
  | 0 => ("OverABarModel", "tape", "[I", true)
  | 1 => ("OverABarModel", "taped", "I", false)
  | 2 => ("OverABarModel", "fault", "I", false)
  | 3 => ("OverABarModel", "wrong", "I", false)
  | 4 => ("OverABarModel", "wrongAt", "I", false)
  | 5 => ("OverABarModel", "spot", "I", false)
  | 6 => ("OverABarModel", "place", "I", false)
  | 7 => ("OverABarModel", "token", "I", false)
  | 8 => ("OverABarModel", "value", "I", false)
  | 9 => ("OverABarModel", "cuts", "[I", true)
  | 10 => ("OverABarModel", "letters", "[I", true)
  | 11 => ("OverABarModel", "plain", "[I", true)
  | 12 => ("OverABarModel", "leasts", "[I", true)
  | 13 => ("OverABarModel", "mosts", "[I", true)
  | 14 => ("OverABarModel", "holds", "[I", true)
  | 15 => ("OverABarModel", "reads", "[I", true)
  | 16 => ("OverABarModel", "toldOnes", "I", false)
  | 17 => ("OverABarModel", "numbers", "[I", true)
  | 18 => ("OverABarModel", "tenths", "[I", true)
  | 19 => ("OverABarModel", "feet", "[I", true)
  | 20 => ("OverABarModel", "kept", "[I", true)
  | 21 => ("OverABarModel", "jumpers", "[I", true)
  | 22 => ("OverABarModel", "jumperMany", "I", false)
  | 23 => ("OverABarModel", "then", "[I", true)
  | 24 => ("OverABarModel", "before", "[I", true)
  | 25 => ("OverABarModel", "worths", "[I", true)
  | 26 => ("OverABarModel", "lanes", "[I", true)
  | 27 => ("OverABarModel", "lengths", "[I", true)
  | 28 => ("OverABarModel", "cells", "[I", true)
  | _ => ("OverABarModel", "torn", "I", false)
def tyX8 : Nat → FieldType := fun k => match k with
  | 0 => .array .int
  | 1 => .int
  | 2 => .int
  | 3 => .int
  | 4 => .int
  | 5 => .int
  | 6 => .int
  | 7 => .int
  | 8 => .int
  | 9 => .array .int
  | 10 => .array .int
  | 11 => .array .int
  | 12 => .array .int
  | 13 => .array .int
  | 14 => .array .int
  | 15 => .array .int
  | 16 => .int
  | 17 => .array .int
  | 18 => .array .int
  | 19 => .array .int
  | 20 => .array .int
  | 21 => .array .int
  | 22 => .int
  | 23 => .array .int
  | 24 => .array .int
  | 25 => .array .int
  | 26 => .array .int
  | 27 => .array .int
  | 28 => .array .int
  | _ => .int
abbrev wsX80 : List Cond := u_ws RX8 TX8 30
theorem nmX8 : ∀ a, a < 30 → ∀ b, b < 30 → a ≠ b → (TX8 a).2.1 ≠ (TX8 b).2.1 := by decide +kernel
theorem tyX8_ok : ∀ k, k < 30 → parseFieldDescriptor (TX8 k).2.2.1 = some (tyX8 k) := by decide +kernel
abbrev cX8_init : ByteArray := prog_10_method_1_code
def yX8_init : MethodName := ⟨RX8, "<init>", "()V"⟩
abbrev cX8_in : ByteArray := prog_10_method_3_code
def yX8_in : MethodName := ⟨RX8, "in", "(JJJ)Z"⟩
abbrev cX8_feed : ByteArray := prog_10_method_4_code
def yX8_feed : MethodName := ⟨RX8, "feed", "(J)I"⟩
abbrev cX8_end : ByteArray := prog_10_method_5_code
def yX8_end : MethodName := ⟨RX8, "end", "(I)I"⟩
abbrev cX8_byteAt : ByteArray := prog_10_method_6_code
def yX8_byteAt : MethodName := ⟨RX8, "byteAt", "(I)I"⟩
abbrev cX8_fails : ByteArray := prog_10_method_7_code
def yX8_fails : MethodName := ⟨RX8, "fails", "(I)V"⟩
abbrev cX8_nameAt : ByteArray := prog_10_method_8_code
def yX8_nameAt : MethodName := ⟨RX8, "nameAt", "(II)I"⟩
abbrev cX8_next : ByteArray := prog_10_method_9_code
def yX8_next : MethodName := ⟨RX8, "next", "()V"⟩
abbrev cX8_number : ByteArray := prog_10_method_10_code
def yX8_number : MethodName := ⟨RX8, "number", "(II)I"⟩
abbrev cX8_told : ByteArray := prog_10_method_11_code
def yX8_told : MethodName := ⟨RX8, "told", "(I)V"⟩
abbrev cX8_readLine : ByteArray := prog_10_method_12_code
def yX8_readLine : MethodName := ⟨RX8, "readLine", "()V"⟩
abbrev cX8_text : ByteArray := prog_10_method_13_code
def yX8_text : MethodName := ⟨RX8, "text", "()I"⟩
abbrev cX8_fault : ByteArray := prog_10_method_14_code
def yX8_fault : MethodName := ⟨RX8, "fault", "()I"⟩
abbrev cX8_rule : ByteArray := prog_10_method_15_code
def yX8_rule : MethodName := ⟨RX8, "rule", "(I)I"⟩
abbrev cX8_isNumber : ByteArray := prog_10_method_16_code
def yX8_isNumber : MethodName := ⟨RX8, "isNumber", "(I)Z"⟩
abbrev cX8_isWay : ByteArray := prog_10_method_17_code
def yX8_isWay : MethodName := ⟨RX8, "isWay", "(I)Z"⟩
abbrev cX8_isTenth : ByteArray := prog_10_method_18_code
def yX8_isTenth : MethodName := ⟨RX8, "isTenth", "(II)Z"⟩
abbrev cX8_isPart : ByteArray := prog_10_method_19_code
def yX8_isPart : MethodName := ⟨RX8, "isPart", "(I)Z"⟩
abbrev cX8_clear : ByteArray := prog_10_method_20_code
def yX8_clear : MethodName := ⟨RX8, "clear", "(I)V"⟩
abbrev cX8_way : ByteArray := prog_10_method_21_code
def yX8_way : MethodName := ⟨RX8, "way", "(III)I"⟩
abbrev cX8_put : ByteArray := prog_10_method_22_code
def yX8_put : MethodName := ⟨RX8, "put", "(IIIII)I"⟩
abbrev cX8_its : ByteArray := prog_10_method_23_code
def yX8_its : MethodName := ⟨RX8, "its", "(IIII)I"⟩
abbrev cX8_at : ByteArray := prog_10_method_24_code
def yX8_at : MethodName := ⟨RX8, "at", "(IIII)I"⟩
abbrev cX8_of : ByteArray := prog_10_method_25_code
def yX8_of : MethodName := ⟨RX8, "of", "(II)I"⟩
abbrev cX8_copy : ByteArray := prog_10_method_26_code
def yX8_copy : MethodName := ⟨RX8, "copy", "(II)I"⟩
abbrev cX8_whole : ByteArray := prog_10_method_27_code
def yX8_whole : MethodName := ⟨RX8, "whole", "()I"⟩
abbrev cX8_middle : ByteArray := prog_10_method_28_code
def yX8_middle : MethodName := ⟨RX8, "middle", "(II)I"⟩
abbrev cX8_placeOf : ByteArray := prog_10_method_29_code
def yX8_placeOf : MethodName := ⟨RX8, "placeOf", "(IIII)I"⟩
abbrev cX8_place : ByteArray := prog_10_method_30_code
def yX8_place : MethodName := ⟨RX8, "place", "(IIII)I"⟩
abbrev cX8_isNear : ByteArray := prog_10_method_31_code
def yX8_isNear : MethodName := ⟨RX8, "isNear", "(III)Z"⟩
abbrev cX8_near : ByteArray := prog_10_method_32_code
def yX8_near : MethodName := ⟨RX8, "near", "(III)I"⟩
abbrev cX8_getsAcross : ByteArray := prog_10_method_33_code
def yX8_getsAcross : MethodName := ⟨RX8, "getsAcross", "(I)Z"⟩
abbrev cX8_lowestOf : ByteArray := prog_10_method_34_code
def yX8_lowestOf : MethodName := ⟨RX8, "lowestOf", "(I)I"⟩
abbrev cX8_highOf : ByteArray := prog_10_method_35_code
def yX8_highOf : MethodName := ⟨RX8, "highOf", "(I)I"⟩
abbrev cX8_high : ByteArray := prog_10_method_36_code
def yX8_high : MethodName := ⟨RX8, "high", "(I)I"⟩
abbrev cX8_lowest : ByteArray := prog_10_method_37_code
def yX8_lowest : MethodName := ⟨RX8, "lowest", "(I)I"⟩
abbrev cX8_under : ByteArray := prog_10_method_38_code
def yX8_under : MethodName := ⟨RX8, "under", "(I)I"⟩
abbrev cX8_overAt : ByteArray := prog_10_method_39_code
def yX8_overAt : MethodName := ⟨RX8, "overAt", "(II)I"⟩
abbrev cX8_order : ByteArray := prog_10_method_40_code
def yX8_order : MethodName := ⟨RX8, "order", "(I)I"⟩
abbrev cX8_size : ByteArray := prog_10_method_41_code
def yX8_size : MethodName := ⟨RX8, "size", "(I)I"⟩
abbrev cX8_isBent : ByteArray := prog_10_method_42_code
def yX8_isBent : MethodName := ⟨RX8, "isBent", "(I)Z"⟩
abbrev cX8_isQuick : ByteArray := prog_10_method_43_code
def yX8_isQuick : MethodName := ⟨RX8, "isQuick", "(I)Z"⟩
abbrev cX8_landsOn : ByteArray := prog_10_method_44_code
def yX8_landsOn : MethodName := ⟨RX8, "landsOn", "(I)I"⟩
abbrev cX8_doesBear : ByteArray := prog_10_method_45_code
def yX8_doesBear : MethodName := ⟨RX8, "doesBear", "(II)Z"⟩
abbrev cX8_barredBy : ByteArray := prog_10_method_46_code
def yX8_barredBy : MethodName := ⟨RX8, "barredBy", "(II)I"⟩
abbrev cX8_barred : ByteArray := prog_10_method_47_code
def yX8_barred : MethodName := ⟨RX8, "barred", "(I)I"⟩
abbrev cX8_pits : ByteArray := prog_10_method_48_code
def yX8_pits : MethodName := ⟨RX8, "pits", "(I)I"⟩
abbrev cX8_worthOf : ByteArray := prog_10_method_49_code
def yX8_worthOf : MethodName := ⟨RX8, "worthOf", "(II)I"⟩
abbrev cX8_worthOrNone : ByteArray := prog_10_method_50_code
def yX8_worthOrNone : MethodName := ⟨RX8, "worthOrNone", "(I)I"⟩
abbrev cX8_changed : ByteArray := prog_10_method_51_code
def yX8_changed : MethodName := ⟨RX8, "changed", "(II)I"⟩
abbrev cX8_worthBy : ByteArray := prog_10_method_52_code
def yX8_worthBy : MethodName := ⟨RX8, "worthBy", "(II)I"⟩
abbrev cX8_worth : ByteArray := prog_10_method_53_code
def yX8_worth : MethodName := ⟨RX8, "worth", "(II)I"⟩
abbrev cX8_betterOf : ByteArray := prog_10_method_54_code
def yX8_betterOf : MethodName := ⟨RX8, "betterOf", "(I)I"⟩
abbrev cX8_better : ByteArray := prog_10_method_55_code
def yX8_better : MethodName := ⟨RX8, "better", "(I)I"⟩
abbrev cX8_climb : ByteArray := prog_10_method_56_code
def yX8_climb : MethodName := ⟨RX8, "climb", "(II)I"⟩
abbrev cX8_around : ByteArray := prog_10_method_57_code
def yX8_around : MethodName := ⟨RX8, "around", "(II)I"⟩
abbrev cX8_valley : ByteArray := prog_10_method_58_code
def yX8_valley : MethodName := ⟨RX8, "valley", "(III)I"⟩
abbrev cX8_bestOf : ByteArray := prog_10_method_59_code
def yX8_bestOf : MethodName := ⟨RX8, "bestOf", "()I"⟩
abbrev cX8_best : ByteArray := prog_10_method_60_code
def yX8_best : MethodName := ⟨RX8, "best", "(I)I"⟩
abbrev cX8_suits : ByteArray := prog_10_method_61_code
def yX8_suits : MethodName := ⟨RX8, "suits", "(II)I"⟩
abbrev cX8_pays : ByteArray := prog_10_method_62_code
def yX8_pays : MethodName := ⟨RX8, "pays", "(IIII)I"⟩
abbrev cX8_jumper : ByteArray := prog_10_method_63_code
def yX8_jumper : MethodName := ⟨RX8, "jumper", "(I)I"⟩
abbrev cX8_isJumper : ByteArray := prog_10_method_64_code
def yX8_isJumper : MethodName := ⟨RX8, "isJumper", "(I)Z"⟩
abbrev cX8_takes : ByteArray := prog_10_method_65_code
def yX8_takes : MethodName := ⟨RX8, "takes", "(II)I"⟩
abbrev cX8_layWorths : ByteArray := prog_10_method_66_code
def yX8_layWorths : MethodName := ⟨RX8, "layWorths", "()V"⟩
abbrev cX8_taken : ByteArray := prog_10_method_67_code
def yX8_taken : MethodName := ⟨RX8, "taken", "(I)I"⟩
abbrev cX8_oneYear : ByteArray := prog_10_method_68_code
def yX8_oneYear : MethodName := ⟨RX8, "oneYear", "()V"⟩
abbrev cX8_keepJumpers : ByteArray := prog_10_method_69_code
def yX8_keepJumpers : MethodName := ⟨RX8, "keepJumpers", "()V"⟩
abbrev cX8_jumpersBack : ByteArray := prog_10_method_70_code
def yX8_jumpersBack : MethodName := ⟨RX8, "jumpersBack", "()V"⟩
abbrev cX8_years : ByteArray := prog_10_method_71_code
def yX8_years : MethodName := ⟨RX8, "years", "(I)I"⟩
abbrev cX8_haveWay : ByteArray := prog_10_method_72_code
def yX8_haveWay : MethodName := ⟨RX8, "haveWay", "(I)I"⟩
abbrev cX8_who : ByteArray := prog_10_method_73_code
def yX8_who : MethodName := ⟨RX8, "who", "(I)I"⟩
abbrev cX8_all : ByteArray := prog_10_method_74_code
def yX8_all : MethodName := ⟨RX8, "all", "()I"⟩
abbrev cX8_odd : ByteArray := prog_10_method_75_code
def yX8_odd : MethodName := ⟨RX8, "odd", "(III)I"⟩
abbrev cX8_inLowest : ByteArray := prog_10_method_76_code
def yX8_inLowest : MethodName := ⟨RX8, "inLowest", "(III)I"⟩
abbrev cX8_failing : ByteArray := prog_10_method_77_code
def yX8_failing : MethodName := ⟨RX8, "failing", "(III)I"⟩
abbrev cX8_odds : ByteArray := prog_10_method_78_code
def yX8_odds : MethodName := ⟨RX8, "odds", "(IIIII)I"⟩
abbrev cX8_asks : ByteArray := prog_10_method_79_code
def yX8_asks : MethodName := ⟨RX8, "asks", "(IIII)I"⟩
abbrev cX8_sheet : ByteArray := prog_10_method_80_code
def yX8_sheet : MethodName := ⟨RX8, "sheet", "(III)I"⟩
abbrev cX8_lay : ByteArray := prog_10_method_81_code
def yX8_lay : MethodName := ⟨RX8, "lay", "(III)I"⟩
abbrev cX8_film : ByteArray := prog_10_method_82_code
def yX8_film : MethodName := ⟨RX8, "film", "(IIIIII)I"⟩
abbrev cX8_torn : ByteArray := prog_10_method_83_code
def yX8_torn : MethodName := ⟨RX8, "torn", "()I"⟩
abbrev cX8_count : ByteArray := prog_10_method_84_code
def yX8_count : MethodName := ⟨RX8, "count", "(I)I"⟩
def RJ6 : String := "java/lang/Integer"
def TJ6 : u_T := fun k => match k with
  | _ => ("", "", "", false)
def tyJ6 : Nat → FieldType := fun k => match k with
  | _ => .int
abbrev wsJ60 : List Cond := u_ws RJ6 TJ6 0
theorem nmJ6 : ∀ a, a < 0 → ∀ b, b < 0 → a ≠ b → (TJ6 a).2.1 ≠ (TJ6 b).2.1 := by decide +kernel
theorem tyJ6_ok : ∀ k, k < 0 → parseFieldDescriptor (TJ6 k).2.2.1 = some (tyJ6 k) := by decide +kernel
abbrev cJ6_compare_7cf53 : ByteArray := prog_11_method_40_code
def yJ6_compare_7cf53 : MethodName := ⟨RJ6, "compare", "(II)I"⟩
abbrev cJ6_bitCount_0f7a4 : ByteArray := prog_11_method_49_code
def yJ6_bitCount_0f7a4 : MethodName := ⟨RJ6, "bitCount", "(I)I"⟩
def RJ9 : String := "java/lang/Math"
def TJ9 : u_T := fun k => match k with
  | _ => ("", "", "", false)
def tyJ9 : Nat → FieldType := fun k => match k with
  | _ => .int
abbrev wsJ90 : List Cond := u_ws RJ9 TJ9 0
theorem nmJ9 : ∀ a, a < 0 → ∀ b, b < 0 → a ≠ b → (TJ9 a).2.1 ≠ (TJ9 b).2.1 := by decide +kernel
theorem tyJ9_ok : ∀ k, k < 0 → parseFieldDescriptor (TJ9 k).2.2.1 = some (tyJ9 k) := by decide +kernel
abbrev cJ9_floorDiv_7cf53 : ByteArray := prog_12_method_47_code
def yJ9_floorDiv_7cf53 : MethodName := ⟨RJ9, "floorDiv", "(II)I"⟩
abbrev cJ9_floorMod_7cf53 : ByteArray := prog_12_method_50_code
def yJ9_floorMod_7cf53 : MethodName := ⟨RJ9, "floorMod", "(II)I"⟩
abbrev cJ9_abs_0f7a4 : ByteArray := prog_12_method_59_code
def yJ9_abs_0f7a4 : MethodName := ⟨RJ9, "abs", "(I)I"⟩
abbrev cJ9_max_7cf53 : ByteArray := prog_12_method_65_code
def yJ9_max_7cf53 : MethodName := ⟨RJ9, "max", "(II)I"⟩
abbrev cJ9_min_7cf53 : ByteArray := prog_12_method_69_code
def yJ9_min_7cf53 : MethodName := ⟨RJ9, "min", "(II)I"⟩
def RJ0 : String := "java/lang/String"
def TJ0 : u_T := fun k => match k with
  | _ => ("", "", "", false)
def tyJ0 : Nat → FieldType := fun k => match k with
  | _ => .int
abbrev wsJ00 : List Cond := u_ws RJ0 TJ0 0
theorem nmJ0 : ∀ a, a < 0 → ∀ b, b < 0 → a ≠ b → (TJ0 a).2.1 ≠ (TJ0 b).2.1 := by decide +kernel
theorem tyJ0_ok : ∀ k, k < 0 → parseFieldDescriptor (TJ0 k).2.2.1 = some (tyJ0 k) := by decide +kernel
abbrev cJ0_charAt_5068e : ByteArray := prog_13_method_56_code
def yJ0_charAt_5068e : MethodName := ⟨RJ0, "charAt", "(I)C"⟩
abbrev cJ0_isLatin1_aae02 : ByteArray := prog_13_method_154_code
def yJ0_isLatin1_aae02 : MethodName := ⟨RJ0, "isLatin1", "()Z"⟩
abbrev cJ0_checkIndex_df160 : ByteArray := prog_13_method_155_code
def yJ0_checkIndex_df160 : MethodName := ⟨RJ0, "checkIndex", "(II)V"⟩
def RJ1 : String := "java/lang/StringLatin1"
def TJ1 : u_T := fun k => match k with
  | _ => ("", "", "", false)
def tyJ1 : Nat → FieldType := fun k => match k with
  | _ => .int
abbrev wsJ10 : List Cond := u_ws RJ1 TJ1 0
theorem nmJ1 : ∀ a, a < 0 → ∀ b, b < 0 → a ≠ b → (TJ1 a).2.1 ≠ (TJ1 b).2.1 := by decide +kernel
theorem tyJ1_ok : ∀ k, k < 0 → parseFieldDescriptor (TJ1 k).2.2.1 = some (tyJ1 k) := by decide +kernel
abbrev cJ1_charAt_3b067 : ByteArray := prog_14_method_2_code
def yJ1_charAt_3b067 : MethodName := ⟨RJ1, "charAt", "([BI)C"⟩
def RJ2 : String := "java/lang/StringUTF16"
def TJ2 : u_T := fun k => match k with
  | _ => ("", "", "", false)
def tyJ2 : Nat → FieldType := fun k => match k with
  | _ => .int
abbrev wsJ20 : List Cond := u_ws RJ2 TJ2 0
theorem nmJ2 : ∀ a, a < 0 → ∀ b, b < 0 → a ≠ b → (TJ2 a).2.1 ≠ (TJ2 b).2.1 := by decide +kernel
theorem tyJ2_ok : ∀ k, k < 0 → parseFieldDescriptor (TJ2 k).2.2.1 = some (tyJ2 k) := by decide +kernel
abbrev cJ2_getChar_3b067 : ByteArray := prog_15_method_5_code
def yJ2_getChar_3b067 : MethodName := ⟨RJ2, "getChar", "([BI)C"⟩
abbrev cJ2_length_9d52b : ByteArray := prog_15_method_6_code
def yJ2_length_9d52b : MethodName := ⟨RJ2, "length", "([B)I"⟩
abbrev cJ2_charAt_3b067 : ByteArray := prog_15_method_83_code
def yJ2_charAt_3b067 : MethodName := ⟨RJ2, "charAt", "([BI)C"⟩
abbrev cJ2_checkIndex_2214a : ByteArray := prog_15_method_91_code
def yJ2_checkIndex_2214a : MethodName := ⟨RJ2, "checkIndex", "(I[B)V"⟩
def RJ10 : String := "java/lang/System"
def TJ10 : u_T := fun k => match k with
  | _ => ("", "", "", false)
def tyJ10 : Nat → FieldType := fun k => match k with
  | _ => .int
abbrev wsJ100 : List Cond := u_ws RJ10 TJ10 0
theorem nmJ10 : ∀ a, a < 0 → ∀ b, b < 0 → a ≠ b → (TJ10 a).2.1 ≠ (TJ10 b).2.1 := by decide +kernel
theorem tyJ10_ok : ∀ k, k < 0 → parseFieldDescriptor (TJ10 k).2.2.1 = some (tyJ10 k) := by decide +kernel
def RJ3 : String := "jdk/internal/util/Preconditions"
def TJ3 : u_T := fun k => match k with
  | _ => ("", "", "", false)
def tyJ3 : Nat → FieldType := fun k => match k with
  | _ => .int
abbrev wsJ30 : List Cond := u_ws RJ3 TJ3 0
theorem nmJ3 : ∀ a, a < 0 → ∀ b, b < 0 → a ≠ b → (TJ3 a).2.1 ≠ (TJ3 b).2.1 := by decide +kernel
theorem tyJ3_ok : ∀ k, k < 0 → parseFieldDescriptor (TJ3 k).2.2.1 = some (tyJ3 k) := by decide +kernel
abbrev cJ3_checkIndex_8e157 : ByteArray := prog_17_method_11_code
def yJ3_checkIndex_8e157 : MethodName := ⟨RJ3, "checkIndex", "(IILjava/util/function/BiFunction;)I"⟩
def RL : String := "OverABarLaw"
abbrev cL_law : ByteArray := code
def yL_law : MethodName := ⟨RL, "law", "([I)Z"⟩
abbrev vwCl : List vw_C := [(RX0, TX0, 9), (RX1, TX1, 7), (RX2, TX2, 4), (RX3, TX3, 1), (RX4, TX4, 3), (RX5, TX5, 2), (RX6, TX6, 3), (RX7, TX7, 10), (RX8, TX8, 30)]
end
section
theorem dX0_init_0 : decode cX0_init 0 = .ok (.aload_n 0, 1) := by decide +kernel
theorem dX0_init_1 : decode cX0_init 1 = .ok (.invokespecial 5, 3) := by decide +kernel
theorem dX0_init_4 : decode cX0_init 4 = .ok (.aload_n 0, 1) := by decide +kernel
theorem dX0_init_5 : decode cX0_init 5 = .ok (.bipush 8, 2) := by decide +kernel
theorem dX0_init_7 : decode cX0_init 7 = .ok (.newarray .int, 2) := by decide +kernel
theorem dX0_init_9 : decode cX0_init 9 = .ok (.putfield 11, 3) := by decide +kernel
theorem dX0_init_12 : decode cX0_init 12 = .ok (.aload_n 0, 1) := by decide +kernel
theorem dX0_init_13 : decode cX0_init 13 = .ok (.bipush 8, 2) := by decide +kernel
theorem dX0_init_15 : decode cX0_init 15 = .ok (.newarray .int, 2) := by decide +kernel
theorem dX0_init_17 : decode cX0_init 17 = .ok (.putfield 17, 3) := by decide +kernel
theorem dX0_init_20 : decode cX0_init 20 = .ok (.aload_n 0, 1) := by decide +kernel
theorem dX0_init_21 : decode cX0_init 21 = .ok (.bipush 8, 2) := by decide +kernel
theorem dX0_init_23 : decode cX0_init 23 = .ok (.newarray .int, 2) := by decide +kernel
theorem dX0_init_25 : decode cX0_init 25 = .ok (.putfield 20, 3) := by decide +kernel
theorem dX0_init_28 : decode cX0_init 28 = .ok (.aload_n 0, 1) := by decide +kernel
theorem dX0_init_29 : decode cX0_init 29 = .ok (.bipush 8, 2) := by decide +kernel
theorem dX0_init_31 : decode cX0_init 31 = .ok (.newarray .int, 2) := by decide +kernel
theorem dX0_init_33 : decode cX0_init 33 = .ok (.putfield 23, 3) := by decide +kernel
theorem dX0_init_36 : decode cX0_init 36 = .ok (.aload_n 0, 1) := by decide +kernel
theorem dX0_init_37 : decode cX0_init 37 = .ok (.bipush 8, 2) := by decide +kernel
theorem dX0_init_39 : decode cX0_init 39 = .ok (.newarray .boolean, 2) := by decide +kernel
theorem dX0_init_41 : decode cX0_init 41 = .ok (.putfield 26, 3) := by decide +kernel
theorem dX0_init_44 : decode cX0_init 44 = .ok (.aload_n 0, 1) := by decide +kernel
theorem dX0_init_45 : decode cX0_init 45 = .ok (.bipush 8, 2) := by decide +kernel
theorem dX0_init_47 : decode cX0_init 47 = .ok (.newarray .boolean, 2) := by decide +kernel
theorem dX0_init_49 : decode cX0_init 49 = .ok (.putfield 30, 3) := by decide +kernel
theorem dX0_init_52 : decode cX0_init 52 = .ok (.aload_n 0, 1) := by decide +kernel
theorem dX0_init_53 : decode cX0_init 53 = .ok (.sipush 128, 3) := by decide +kernel
theorem dX0_init_56 : decode cX0_init 56 = .ok (.newarray .int, 2) := by decide +kernel
theorem dX0_init_58 : decode cX0_init 58 = .ok (.putfield 33, 3) := by decide +kernel
theorem dX0_init_61 : decode cX0_init 61 = .ok (.aload_n 0, 1) := by decide +kernel
theorem dX0_init_62 : decode cX0_init 62 = .ok (.aload_n 1, 1) := by decide +kernel
theorem dX0_init_63 : decode cX0_init 63 = .ok (.putfield 36, 3) := by decide +kernel
theorem dX0_init_66 : decode cX0_init 66 = .ok (.return_, 1) := by decide +kernel
theorem dX0_placeOf_0 : decode cX0_placeOf 0 = .ok (.aload_n 0, 1) := by decide +kernel
theorem dX0_placeOf_1 : decode cX0_placeOf 1 = .ok (.aload_n 1, 1) := by decide +kernel
theorem dX0_placeOf_2 : decode cX0_placeOf 2 = .ok (.iload_n 2, 1) := by decide +kernel
theorem dX0_placeOf_3 : decode cX0_placeOf 3 = .ok (.iload 4, 2) := by decide +kernel
theorem dX0_placeOf_5 : decode cX0_placeOf 5 = .ok (.invokevirtual 40, 3) := by decide +kernel
theorem dX0_placeOf_8 : decode cX0_placeOf 8 = .ok (.aload_n 0, 1) := by decide +kernel
theorem dX0_placeOf_9 : decode cX0_placeOf 9 = .ok (.getfield 36, 3) := by decide +kernel
theorem dX0_placeOf_12 : decode cX0_placeOf 12 = .ok (.invokevirtual 44, 3) := by decide +kernel
theorem dX0_placeOf_15 : decode cX0_placeOf 15 = .ok (.aload_n 1, 1) := by decide +kernel
theorem dX0_placeOf_16 : decode cX0_placeOf 16 = .ok (.getfield 50, 3) := by decide +kernel
theorem dX0_placeOf_19 : decode cX0_placeOf 19 = .ok (.iload_n 2, 1) := by decide +kernel
theorem dX0_placeOf_20 : decode cX0_placeOf 20 = .ok (.iload_n 3, 1) := by decide +kernel
theorem dX0_placeOf_21 : decode cX0_placeOf 21 = .ok (.invokestatic 53, 3) := by decide +kernel
theorem dX0_placeOf_24 : decode cX0_placeOf 24 = .ok (.iload 4, 2) := by decide +kernel
theorem dX0_placeOf_26 : decode cX0_placeOf 26 = .ok (.iadd, 1) := by decide +kernel
theorem dX0_placeOf_27 : decode cX0_placeOf 27 = .ok (.iaload, 1) := by decide +kernel
theorem dX0_placeOf_28 : decode cX0_placeOf 28 = .ok (.imul, 1) := by decide +kernel
theorem dX0_placeOf_29 : decode cX0_placeOf 29 = .ok (.iadd, 1) := by decide +kernel
theorem dX0_placeOf_30 : decode cX0_placeOf 30 = .ok (.ireturn, 1) := by decide +kernel
theorem dX0_baseOf_0 : decode cX0_baseOf 0 = .ok (.aload_n 0, 1) := by decide +kernel
theorem dX0_baseOf_1 : decode cX0_baseOf 1 = .ok (.getfield 36, 3) := by decide +kernel
theorem dX0_baseOf_4 : decode cX0_baseOf 4 = .ok (.invokevirtual 44, 3) := by decide +kernel
theorem dX0_baseOf_7 : decode cX0_baseOf 7 = .ok (.aload_n 0, 1) := by decide +kernel
theorem dX0_baseOf_8 : decode cX0_baseOf 8 = .ok (.getfield 36, 3) := by decide +kernel
theorem dX0_baseOf_11 : decode cX0_baseOf 11 = .ok (.iload_n 2, 1) := by decide +kernel
theorem dX0_baseOf_12 : decode cX0_baseOf 12 = .ok (.iload_n 3, 1) := by decide +kernel
theorem dX0_baseOf_13 : decode cX0_baseOf 13 = .ok (.invokevirtual 57, 3) := by decide +kernel
theorem dX0_baseOf_16 : decode cX0_baseOf 16 = .ok (.imul, 1) := by decide +kernel
theorem dX0_baseOf_17 : decode cX0_baseOf 17 = .ok (.istore 4, 2) := by decide +kernel
theorem dX0_baseOf_19 : decode cX0_baseOf 19 = .ok (.iconst 0, 1) := by decide +kernel
theorem dX0_baseOf_20 : decode cX0_baseOf 20 = .ok (.istore 5, 2) := by decide +kernel
theorem dX0_baseOf_22 : decode cX0_baseOf 22 = .ok (.iload 5, 2) := by decide +kernel
theorem dX0_baseOf_24 : decode cX0_baseOf 24 = .ok (.iconst 4, 1) := by decide +kernel
theorem dX0_baseOf_25 : decode cX0_baseOf 25 = .ok (.if_icmp .ge 38, 3) := by decide +kernel
theorem dX0_baseOf_28 : decode cX0_baseOf 28 = .ok (.iload 4, 2) := by decide +kernel
theorem dX0_baseOf_30 : decode cX0_baseOf 30 = .ok (.aload_n 0, 1) := by decide +kernel
theorem dX0_baseOf_31 : decode cX0_baseOf 31 = .ok (.getfield 36, 3) := by decide +kernel
theorem dX0_baseOf_34 : decode cX0_baseOf 34 = .ok (.getfield 60, 3) := by decide +kernel
theorem dX0_baseOf_37 : decode cX0_baseOf 37 = .ok (.iload 5, 2) := by decide +kernel
theorem dX0_baseOf_39 : decode cX0_baseOf 39 = .ok (.iaload, 1) := by decide +kernel
theorem dX0_baseOf_40 : decode cX0_baseOf 40 = .ok (.aload_n 1, 1) := by decide +kernel
theorem dX0_baseOf_41 : decode cX0_baseOf 41 = .ok (.getfield 50, 3) := by decide +kernel
theorem dX0_baseOf_44 : decode cX0_baseOf 44 = .ok (.iload_n 2, 1) := by decide +kernel
theorem dX0_baseOf_45 : decode cX0_baseOf 45 = .ok (.iload 5, 2) := by decide +kernel
theorem dX0_baseOf_47 : decode cX0_baseOf 47 = .ok (.invokestatic 53, 3) := by decide +kernel
theorem dX0_baseOf_50 : decode cX0_baseOf 50 = .ok (.iload_n 3, 1) := by decide +kernel
theorem dX0_baseOf_51 : decode cX0_baseOf 51 = .ok (.iadd, 1) := by decide +kernel
theorem dX0_baseOf_52 : decode cX0_baseOf 52 = .ok (.iaload, 1) := by decide +kernel
theorem dX0_baseOf_53 : decode cX0_baseOf 53 = .ok (.imul, 1) := by decide +kernel
theorem dX0_baseOf_54 : decode cX0_baseOf 54 = .ok (.isub, 1) := by decide +kernel
theorem dX0_baseOf_55 : decode cX0_baseOf 55 = .ok (.istore 4, 2) := by decide +kernel
theorem dX0_baseOf_57 : decode cX0_baseOf 57 = .ok (.iinc 5 1, 3) := by decide +kernel
theorem dX0_baseOf_60 : decode cX0_baseOf 60 = .ok (.goto (-38), 3) := by decide +kernel
theorem dX0_baseOf_63 : decode cX0_baseOf 63 = .ok (.iload 4, 2) := by decide +kernel
theorem dX0_baseOf_65 : decode cX0_baseOf 65 = .ok (.ireturn, 1) := by decide +kernel
theorem dX0_isNear_0 : decode cX0_isNear 0 = .ok (.iload_n 1, 1) := by decide +kernel
theorem dX0_isNear_1 : decode cX0_isNear 1 = .ok (.invokestatic 63, 3) := by decide +kernel
theorem dX0_isNear_4 : decode cX0_isNear 4 = .ok (.aload_n 0, 1) := by decide +kernel
theorem dX0_isNear_5 : decode cX0_isNear 5 = .ok (.getfield 36, 3) := by decide +kernel
theorem dX0_isNear_8 : decode cX0_isNear 8 = .ok (.invokevirtual 44, 3) := by decide +kernel
theorem dX0_isNear_11 : decode cX0_isNear 11 = .ok (.aload_n 0, 1) := by decide +kernel
theorem dX0_isNear_12 : decode cX0_isNear 12 = .ok (.getfield 36, 3) := by decide +kernel
theorem dX0_isNear_15 : decode cX0_isNear 15 = .ok (.getfield 60, 3) := by decide +kernel
theorem dX0_isNear_18 : decode cX0_isNear 18 = .ok (.bipush 12, 2) := by decide +kernel
theorem dX0_isNear_20 : decode cX0_isNear 20 = .ok (.iaload, 1) := by decide +kernel
theorem dX0_isNear_21 : decode cX0_isNear 21 = .ok (.imul, 1) := by decide +kernel
theorem dX0_isNear_22 : decode cX0_isNear 22 = .ok (.if_icmp .gt 7, 3) := by decide +kernel
theorem dX0_isNear_25 : decode cX0_isNear 25 = .ok (.iconst 1, 1) := by decide +kernel
theorem dX0_isNear_26 : decode cX0_isNear 26 = .ok (.goto 4, 3) := by decide +kernel
theorem dX0_isNear_29 : decode cX0_isNear 29 = .ok (.iconst 0, 1) := by decide +kernel
theorem dX0_isNear_30 : decode cX0_isNear 30 = .ok (.ireturn, 1) := by decide +kernel
theorem dX0_measure_0 : decode cX0_measure 0 = .ok (.iconst 0, 1) := by decide +kernel
theorem dX0_measure_1 : decode cX0_measure 1 = .ok (.istore_n 2, 1) := by decide +kernel
theorem dX0_measure_2 : decode cX0_measure 2 = .ok (.iload_n 2, 1) := by decide +kernel
theorem dX0_measure_3 : decode cX0_measure 3 = .ok (.aload_n 1, 1) := by decide +kernel
theorem dX0_measure_4 : decode cX0_measure 4 = .ok (.getfield 69, 3) := by decide +kernel
theorem dX0_measure_7 : decode cX0_measure 7 = .ok (.if_icmp .ge 15, 3) := by decide +kernel
theorem dX0_measure_10 : decode cX0_measure 10 = .ok (.aload_n 0, 1) := by decide +kernel
theorem dX0_measure_11 : decode cX0_measure 11 = .ok (.aload_n 1, 1) := by decide +kernel
theorem dX0_measure_12 : decode cX0_measure 12 = .ok (.iload_n 2, 1) := by decide +kernel
theorem dX0_measure_13 : decode cX0_measure 13 = .ok (.invokevirtual 73, 3) := by decide +kernel
theorem dX0_measure_16 : decode cX0_measure 16 = .ok (.iinc 2 1, 3) := by decide +kernel
theorem dX0_measure_19 : decode cX0_measure 19 = .ok (.goto (-17), 3) := by decide +kernel
theorem dX0_measure_22 : decode cX0_measure 22 = .ok (.return_, 1) := by decide +kernel
theorem dX0_measureTenth_0 : decode cX0_measureTenth 0 = .ok (.aload_n 0, 1) := by decide +kernel
theorem dX0_measureTenth_1 : decode cX0_measureTenth 1 = .ok (.aload_n 1, 1) := by decide +kernel
theorem dX0_measureTenth_2 : decode cX0_measureTenth 2 = .ok (.iload_n 2, 1) := by decide +kernel
theorem dX0_measureTenth_3 : decode cX0_measureTenth 3 = .ok (.invokevirtual 77, 3) := by decide +kernel
theorem dX0_measureTenth_6 : decode cX0_measureTenth 6 = .ok (.aload_n 0, 1) := by decide +kernel
theorem dX0_measureTenth_7 : decode cX0_measureTenth 7 = .ok (.getfield 26, 3) := by decide +kernel
theorem dX0_measureTenth_10 : decode cX0_measureTenth 10 = .ok (.iload_n 2, 1) := by decide +kernel
theorem dX0_measureTenth_11 : decode cX0_measureTenth 11 = .ok (.aload_n 0, 1) := by decide +kernel
theorem dX0_measureTenth_12 : decode cX0_measureTenth 12 = .ok (.aload_n 1, 1) := by decide +kernel
theorem dX0_measureTenth_13 : decode cX0_measureTenth 13 = .ok (.iload_n 2, 1) := by decide +kernel
theorem dX0_measureTenth_14 : decode cX0_measureTenth 14 = .ok (.invokevirtual 80, 3) := by decide +kernel
theorem dX0_measureTenth_17 : decode cX0_measureTenth 17 = .ok (.bastore, 1) := by decide +kernel
theorem dX0_measureTenth_18 : decode cX0_measureTenth 18 = .ok (.aload_n 0, 1) := by decide +kernel
theorem dX0_measureTenth_19 : decode cX0_measureTenth 19 = .ok (.getfield 30, 3) := by decide +kernel
theorem dX0_measureTenth_22 : decode cX0_measureTenth 22 = .ok (.iload_n 2, 1) := by decide +kernel
theorem dX0_measureTenth_23 : decode cX0_measureTenth 23 = .ok (.aload_n 0, 1) := by decide +kernel
theorem dX0_measureTenth_24 : decode cX0_measureTenth 24 = .ok (.aload_n 1, 1) := by decide +kernel
theorem dX0_measureTenth_25 : decode cX0_measureTenth 25 = .ok (.iload_n 2, 1) := by decide +kernel
theorem dX0_measureTenth_26 : decode cX0_measureTenth 26 = .ok (.invokevirtual 84, 3) := by decide +kernel
theorem dX0_measureTenth_29 : decode cX0_measureTenth 29 = .ok (.bastore, 1) := by decide +kernel
theorem dX0_measureTenth_30 : decode cX0_measureTenth 30 = .ok (.iload_n 2, 1) := by decide +kernel
theorem dX0_measureTenth_31 : decode cX0_measureTenth 31 = .ok (.ifCond .le 19, 3) := by decide +kernel
theorem dX0_measureTenth_34 : decode cX0_measureTenth 34 = .ok (.aload_n 0, 1) := by decide +kernel
theorem dX0_measureTenth_35 : decode cX0_measureTenth 35 = .ok (.getfield 30, 3) := by decide +kernel
theorem dX0_measureTenth_38 : decode cX0_measureTenth 38 = .ok (.iload_n 2, 1) := by decide +kernel
theorem dX0_measureTenth_39 : decode cX0_measureTenth 39 = .ok (.iconst 1, 1) := by decide +kernel
theorem dX0_measureTenth_40 : decode cX0_measureTenth 40 = .ok (.isub, 1) := by decide +kernel
theorem dX0_measureTenth_41 : decode cX0_measureTenth 41 = .ok (.aload_n 0, 1) := by decide +kernel
theorem dX0_measureTenth_42 : decode cX0_measureTenth 42 = .ok (.aload_n 1, 1) := by decide +kernel
theorem dX0_measureTenth_43 : decode cX0_measureTenth 43 = .ok (.iload_n 2, 1) := by decide +kernel
theorem dX0_measureTenth_44 : decode cX0_measureTenth 44 = .ok (.iconst 1, 1) := by decide +kernel
theorem dX0_measureTenth_45 : decode cX0_measureTenth 45 = .ok (.isub, 1) := by decide +kernel
theorem dX0_measureTenth_46 : decode cX0_measureTenth 46 = .ok (.invokevirtual 84, 3) := by decide +kernel
theorem dX0_measureTenth_49 : decode cX0_measureTenth 49 = .ok (.bastore, 1) := by decide +kernel
theorem dX0_measureTenth_50 : decode cX0_measureTenth 50 = .ok (.return_, 1) := by decide +kernel
theorem dX0_measurePlaces_0 : decode cX0_measurePlaces 0 = .ok (.aload_n 0, 1) := by decide +kernel
theorem dX0_measurePlaces_1 : decode cX0_measurePlaces 1 = .ok (.getfield 36, 3) := by decide +kernel
theorem dX0_measurePlaces_4 : decode cX0_measurePlaces 4 = .ok (.invokevirtual 44, 3) := by decide +kernel
theorem dX0_measurePlaces_7 : decode cX0_measurePlaces 7 = .ok (.istore_n 3, 1) := by decide +kernel
theorem dX0_measurePlaces_8 : decode cX0_measurePlaces 8 = .ok (.aload_n 0, 1) := by decide +kernel
theorem dX0_measurePlaces_9 : decode cX0_measurePlaces 9 = .ok (.aload_n 1, 1) := by decide +kernel
theorem dX0_measurePlaces_10 : decode cX0_measurePlaces 10 = .ok (.iload_n 2, 1) := by decide +kernel
theorem dX0_measurePlaces_11 : decode cX0_measurePlaces 11 = .ok (.iconst 0, 1) := by decide +kernel
theorem dX0_measurePlaces_12 : decode cX0_measurePlaces 12 = .ok (.invokevirtual 40, 3) := by decide +kernel
theorem dX0_measurePlaces_15 : decode cX0_measurePlaces 15 = .ok (.istore 4, 2) := by decide +kernel
theorem dX0_measurePlaces_17 : decode cX0_measurePlaces 17 = .ok (.aload_n 0, 1) := by decide +kernel
theorem dX0_measurePlaces_18 : decode cX0_measurePlaces 18 = .ok (.aload_n 1, 1) := by decide +kernel
theorem dX0_measurePlaces_19 : decode cX0_measurePlaces 19 = .ok (.iload_n 2, 1) := by decide +kernel
theorem dX0_measurePlaces_20 : decode cX0_measurePlaces 20 = .ok (.iconst 1, 1) := by decide +kernel
theorem dX0_measurePlaces_21 : decode cX0_measurePlaces 21 = .ok (.invokevirtual 40, 3) := by decide +kernel
theorem dX0_measurePlaces_24 : decode cX0_measurePlaces 24 = .ok (.istore 5, 2) := by decide +kernel
theorem dX0_measurePlaces_26 : decode cX0_measurePlaces 26 = .ok (.aload_n 0, 1) := by decide +kernel
theorem dX0_measurePlaces_27 : decode cX0_measurePlaces 27 = .ok (.getfield 11, 3) := by decide +kernel
theorem dX0_measurePlaces_30 : decode cX0_measurePlaces 30 = .ok (.iload_n 2, 1) := by decide +kernel
theorem dX0_measurePlaces_31 : decode cX0_measurePlaces 31 = .ok (.ldc 87, 2) := by decide +kernel
theorem dX0_measurePlaces_33 : decode cX0_measurePlaces 33 = .ok (.iastore, 1) := by decide +kernel
theorem dX0_measurePlaces_34 : decode cX0_measurePlaces 34 = .ok (.aload_n 0, 1) := by decide +kernel
theorem dX0_measurePlaces_35 : decode cX0_measurePlaces 35 = .ok (.getfield 17, 3) := by decide +kernel
theorem dX0_measurePlaces_38 : decode cX0_measurePlaces 38 = .ok (.iload_n 2, 1) := by decide +kernel
theorem dX0_measurePlaces_39 : decode cX0_measurePlaces 39 = .ok (.ldc 88, 2) := by decide +kernel
theorem dX0_measurePlaces_41 : decode cX0_measurePlaces 41 = .ok (.iastore, 1) := by decide +kernel
theorem dX0_measurePlaces_42 : decode cX0_measurePlaces 42 = .ok (.aload_n 0, 1) := by decide +kernel
theorem dX0_measurePlaces_43 : decode cX0_measurePlaces 43 = .ok (.getfield 20, 3) := by decide +kernel
theorem dX0_measurePlaces_46 : decode cX0_measurePlaces 46 = .ok (.iload_n 2, 1) := by decide +kernel
theorem dX0_measurePlaces_47 : decode cX0_measurePlaces 47 = .ok (.ldc 87, 2) := by decide +kernel
theorem dX0_measurePlaces_49 : decode cX0_measurePlaces 49 = .ok (.iastore, 1) := by decide +kernel
theorem dX0_measurePlaces_50 : decode cX0_measurePlaces 50 = .ok (.iconst 0, 1) := by decide +kernel
theorem dX0_measurePlaces_51 : decode cX0_measurePlaces 51 = .ok (.istore 6, 2) := by decide +kernel
theorem dX0_measurePlaces_53 : decode cX0_measurePlaces 53 = .ok (.iload 6, 2) := by decide +kernel
theorem dX0_measurePlaces_55 : decode cX0_measurePlaces 55 = .ok (.iconst 4, 1) := by decide +kernel
theorem dX0_measurePlaces_56 : decode cX0_measurePlaces 56 = .ok (.if_icmp .ge 117, 3) := by decide +kernel
theorem dX0_measurePlaces_59 : decode cX0_measurePlaces 59 = .ok (.iload 4, 2) := by decide +kernel
theorem dX0_measurePlaces_61 : decode cX0_measurePlaces 61 = .ok (.iload_n 3, 1) := by decide +kernel
theorem dX0_measurePlaces_62 : decode cX0_measurePlaces 62 = .ok (.aload_n 1, 1) := by decide +kernel
theorem dX0_measurePlaces_63 : decode cX0_measurePlaces 63 = .ok (.getfield 50, 3) := by decide +kernel
theorem dX0_measurePlaces_66 : decode cX0_measurePlaces 66 = .ok (.iload_n 2, 1) := by decide +kernel
theorem dX0_measurePlaces_67 : decode cX0_measurePlaces 67 = .ok (.iload 6, 2) := by decide +kernel
theorem dX0_measurePlaces_69 : decode cX0_measurePlaces 69 = .ok (.invokestatic 53, 3) := by decide +kernel
theorem dX0_measurePlaces_72 : decode cX0_measurePlaces 72 = .ok (.iaload, 1) := by decide +kernel
theorem dX0_measurePlaces_73 : decode cX0_measurePlaces 73 = .ok (.imul, 1) := by decide +kernel
theorem dX0_measurePlaces_74 : decode cX0_measurePlaces 74 = .ok (.iadd, 1) := by decide +kernel
theorem dX0_measurePlaces_75 : decode cX0_measurePlaces 75 = .ok (.istore 7, 2) := by decide +kernel
theorem dX0_measurePlaces_77 : decode cX0_measurePlaces 77 = .ok (.iload 5, 2) := by decide +kernel
theorem dX0_measurePlaces_79 : decode cX0_measurePlaces 79 = .ok (.iload_n 3, 1) := by decide +kernel
theorem dX0_measurePlaces_80 : decode cX0_measurePlaces 80 = .ok (.aload_n 1, 1) := by decide +kernel
theorem dX0_measurePlaces_81 : decode cX0_measurePlaces 81 = .ok (.getfield 50, 3) := by decide +kernel
theorem dX0_measurePlaces_84 : decode cX0_measurePlaces 84 = .ok (.iload_n 2, 1) := by decide +kernel
theorem dX0_measurePlaces_85 : decode cX0_measurePlaces 85 = .ok (.iload 6, 2) := by decide +kernel
theorem dX0_measurePlaces_87 : decode cX0_measurePlaces 87 = .ok (.invokestatic 53, 3) := by decide +kernel
theorem dX0_measurePlaces_90 : decode cX0_measurePlaces 90 = .ok (.iconst 1, 1) := by decide +kernel
theorem dX0_measurePlaces_91 : decode cX0_measurePlaces 91 = .ok (.iadd, 1) := by decide +kernel
theorem dX0_measurePlaces_92 : decode cX0_measurePlaces 92 = .ok (.iaload, 1) := by decide +kernel
theorem dX0_measurePlaces_93 : decode cX0_measurePlaces 93 = .ok (.imul, 1) := by decide +kernel
theorem dX0_measurePlaces_94 : decode cX0_measurePlaces 94 = .ok (.iadd, 1) := by decide +kernel
theorem dX0_measurePlaces_95 : decode cX0_measurePlaces 95 = .ok (.istore 8, 2) := by decide +kernel
theorem dX0_measurePlaces_97 : decode cX0_measurePlaces 97 = .ok (.aload_n 0, 1) := by decide +kernel
theorem dX0_measurePlaces_98 : decode cX0_measurePlaces 98 = .ok (.getfield 11, 3) := by decide +kernel
theorem dX0_measurePlaces_101 : decode cX0_measurePlaces 101 = .ok (.iload_n 2, 1) := by decide +kernel
theorem dX0_measurePlaces_102 : decode cX0_measurePlaces 102 = .ok (.aload_n 0, 1) := by decide +kernel
theorem dX0_measurePlaces_103 : decode cX0_measurePlaces 103 = .ok (.getfield 11, 3) := by decide +kernel
theorem dX0_measurePlaces_106 : decode cX0_measurePlaces 106 = .ok (.iload_n 2, 1) := by decide +kernel
theorem dX0_measurePlaces_107 : decode cX0_measurePlaces 107 = .ok (.iaload, 1) := by decide +kernel
theorem dX0_measurePlaces_108 : decode cX0_measurePlaces 108 = .ok (.iload 7, 2) := by decide +kernel
theorem dX0_measurePlaces_110 : decode cX0_measurePlaces 110 = .ok (.invokestatic 89, 3) := by decide +kernel
theorem dX0_measurePlaces_113 : decode cX0_measurePlaces 113 = .ok (.iastore, 1) := by decide +kernel
theorem dX0_measurePlaces_114 : decode cX0_measurePlaces 114 = .ok (.aload_n 0, 1) := by decide +kernel
theorem dX0_measurePlaces_115 : decode cX0_measurePlaces 115 = .ok (.getfield 17, 3) := by decide +kernel
theorem dX0_measurePlaces_118 : decode cX0_measurePlaces 118 = .ok (.iload_n 2, 1) := by decide +kernel
theorem dX0_measurePlaces_119 : decode cX0_measurePlaces 119 = .ok (.aload_n 0, 1) := by decide +kernel
theorem dX0_measurePlaces_120 : decode cX0_measurePlaces 120 = .ok (.getfield 17, 3) := by decide +kernel
theorem dX0_measurePlaces_123 : decode cX0_measurePlaces 123 = .ok (.iload_n 2, 1) := by decide +kernel
theorem dX0_measurePlaces_124 : decode cX0_measurePlaces 124 = .ok (.iaload, 1) := by decide +kernel
theorem dX0_measurePlaces_125 : decode cX0_measurePlaces 125 = .ok (.iload 7, 2) := by decide +kernel
theorem dX0_measurePlaces_127 : decode cX0_measurePlaces 127 = .ok (.invokestatic 92, 3) := by decide +kernel
theorem dX0_measurePlaces_130 : decode cX0_measurePlaces 130 = .ok (.iastore, 1) := by decide +kernel
theorem dX0_measurePlaces_131 : decode cX0_measurePlaces 131 = .ok (.iload 8, 2) := by decide +kernel
theorem dX0_measurePlaces_133 : decode cX0_measurePlaces 133 = .ok (.aload_n 0, 1) := by decide +kernel
theorem dX0_measurePlaces_134 : decode cX0_measurePlaces 134 = .ok (.getfield 20, 3) := by decide +kernel
theorem dX0_measurePlaces_137 : decode cX0_measurePlaces 137 = .ok (.iload_n 2, 1) := by decide +kernel
theorem dX0_measurePlaces_138 : decode cX0_measurePlaces 138 = .ok (.iaload, 1) := by decide +kernel
theorem dX0_measurePlaces_139 : decode cX0_measurePlaces 139 = .ok (.if_icmp .ge 28, 3) := by decide +kernel
theorem dX0_measurePlaces_142 : decode cX0_measurePlaces 142 = .ok (.aload_n 0, 1) := by decide +kernel
theorem dX0_measurePlaces_143 : decode cX0_measurePlaces 143 = .ok (.iload 7, 2) := by decide +kernel
theorem dX0_measurePlaces_145 : decode cX0_measurePlaces 145 = .ok (.invokevirtual 95, 3) := by decide +kernel
theorem dX0_measurePlaces_148 : decode cX0_measurePlaces 148 = .ok (.ifCond .eq 19, 3) := by decide +kernel
theorem dX0_measurePlaces_151 : decode cX0_measurePlaces 151 = .ok (.aload_n 0, 1) := by decide +kernel
theorem dX0_measurePlaces_152 : decode cX0_measurePlaces 152 = .ok (.getfield 20, 3) := by decide +kernel
theorem dX0_measurePlaces_155 : decode cX0_measurePlaces 155 = .ok (.iload_n 2, 1) := by decide +kernel
theorem dX0_measurePlaces_156 : decode cX0_measurePlaces 156 = .ok (.iload 8, 2) := by decide +kernel
theorem dX0_measurePlaces_158 : decode cX0_measurePlaces 158 = .ok (.iastore, 1) := by decide +kernel
theorem dX0_measurePlaces_159 : decode cX0_measurePlaces 159 = .ok (.aload_n 0, 1) := by decide +kernel
theorem dX0_measurePlaces_160 : decode cX0_measurePlaces 160 = .ok (.getfield 23, 3) := by decide +kernel
theorem dX0_measurePlaces_163 : decode cX0_measurePlaces 163 = .ok (.iload_n 2, 1) := by decide +kernel
theorem dX0_measurePlaces_164 : decode cX0_measurePlaces 164 = .ok (.iload 6, 2) := by decide +kernel
theorem dX0_measurePlaces_166 : decode cX0_measurePlaces 166 = .ok (.iastore, 1) := by decide +kernel
theorem dX0_measurePlaces_167 : decode cX0_measurePlaces 167 = .ok (.iinc 6 1, 3) := by decide +kernel
theorem dX0_measurePlaces_170 : decode cX0_measurePlaces 170 = .ok (.goto (-117), 3) := by decide +kernel
theorem dX0_measurePlaces_173 : decode cX0_measurePlaces 173 = .ok (.return_, 1) := by decide +kernel
theorem dX0_isBent_0 : decode cX0_isBent 0 = .ok (.iconst 0, 1) := by decide +kernel
theorem dX0_isBent_1 : decode cX0_isBent 1 = .ok (.istore_n 3, 1) := by decide +kernel
theorem dX0_isBent_2 : decode cX0_isBent 2 = .ok (.iload_n 3, 1) := by decide +kernel
theorem dX0_isBent_3 : decode cX0_isBent 3 = .ok (.iconst 3, 1) := by decide +kernel
theorem dX0_isBent_4 : decode cX0_isBent 4 = .ok (.if_icmp .ge 79, 3) := by decide +kernel
theorem dX0_isBent_7 : decode cX0_isBent 7 = .ok (.iload_n 2, 1) := by decide +kernel
theorem dX0_isBent_8 : decode cX0_isBent 8 = .ok (.iload_n 3, 1) := by decide +kernel
theorem dX0_isBent_9 : decode cX0_isBent 9 = .ok (.invokestatic 53, 3) := by decide +kernel
theorem dX0_isBent_12 : decode cX0_isBent 12 = .ok (.istore 4, 2) := by decide +kernel
theorem dX0_isBent_14 : decode cX0_isBent 14 = .ok (.aload_n 1, 1) := by decide +kernel
theorem dX0_isBent_15 : decode cX0_isBent 15 = .ok (.getfield 50, 3) := by decide +kernel
theorem dX0_isBent_18 : decode cX0_isBent 18 = .ok (.iload 4, 2) := by decide +kernel
theorem dX0_isBent_20 : decode cX0_isBent 20 = .ok (.iaload, 1) := by decide +kernel
theorem dX0_isBent_21 : decode cX0_isBent 21 = .ok (.aload_n 1, 1) := by decide +kernel
theorem dX0_isBent_22 : decode cX0_isBent 22 = .ok (.getfield 50, 3) := by decide +kernel
theorem dX0_isBent_25 : decode cX0_isBent 25 = .ok (.iload 4, 2) := by decide +kernel
theorem dX0_isBent_27 : decode cX0_isBent 27 = .ok (.iconst 2, 1) := by decide +kernel
theorem dX0_isBent_28 : decode cX0_isBent 28 = .ok (.iadd, 1) := by decide +kernel
theorem dX0_isBent_29 : decode cX0_isBent 29 = .ok (.iaload, 1) := by decide +kernel
theorem dX0_isBent_30 : decode cX0_isBent 30 = .ok (.isub, 1) := by decide +kernel
theorem dX0_isBent_31 : decode cX0_isBent 31 = .ok (.invokestatic 63, 3) := by decide +kernel
theorem dX0_isBent_34 : decode cX0_isBent 34 = .ok (.aload_n 1, 1) := by decide +kernel
theorem dX0_isBent_35 : decode cX0_isBent 35 = .ok (.getfield 50, 3) := by decide +kernel
theorem dX0_isBent_38 : decode cX0_isBent 38 = .ok (.iload 4, 2) := by decide +kernel
theorem dX0_isBent_40 : decode cX0_isBent 40 = .ok (.iconst 1, 1) := by decide +kernel
theorem dX0_isBent_41 : decode cX0_isBent 41 = .ok (.iadd, 1) := by decide +kernel
theorem dX0_isBent_42 : decode cX0_isBent 42 = .ok (.iaload, 1) := by decide +kernel
theorem dX0_isBent_43 : decode cX0_isBent 43 = .ok (.aload_n 1, 1) := by decide +kernel
theorem dX0_isBent_44 : decode cX0_isBent 44 = .ok (.getfield 50, 3) := by decide +kernel
theorem dX0_isBent_47 : decode cX0_isBent 47 = .ok (.iload 4, 2) := by decide +kernel
theorem dX0_isBent_49 : decode cX0_isBent 49 = .ok (.iconst 3, 1) := by decide +kernel
theorem dX0_isBent_50 : decode cX0_isBent 50 = .ok (.iadd, 1) := by decide +kernel
theorem dX0_isBent_51 : decode cX0_isBent 51 = .ok (.iaload, 1) := by decide +kernel
theorem dX0_isBent_52 : decode cX0_isBent 52 = .ok (.isub, 1) := by decide +kernel
theorem dX0_isBent_53 : decode cX0_isBent 53 = .ok (.invokestatic 63, 3) := by decide +kernel
theorem dX0_isBent_56 : decode cX0_isBent 56 = .ok (.iadd, 1) := by decide +kernel
theorem dX0_isBent_57 : decode cX0_isBent 57 = .ok (.istore 5, 2) := by decide +kernel
theorem dX0_isBent_59 : decode cX0_isBent 59 = .ok (.iload 5, 2) := by decide +kernel
theorem dX0_isBent_61 : decode cX0_isBent 61 = .ok (.aload_n 0, 1) := by decide +kernel
theorem dX0_isBent_62 : decode cX0_isBent 62 = .ok (.getfield 36, 3) := by decide +kernel
theorem dX0_isBent_65 : decode cX0_isBent 65 = .ok (.getfield 60, 3) := by decide +kernel
theorem dX0_isBent_68 : decode cX0_isBent 68 = .ok (.iconst 4, 1) := by decide +kernel
theorem dX0_isBent_69 : decode cX0_isBent 69 = .ok (.iload_n 3, 1) := by decide +kernel
theorem dX0_isBent_70 : decode cX0_isBent 70 = .ok (.iadd, 1) := by decide +kernel
theorem dX0_isBent_71 : decode cX0_isBent 71 = .ok (.iaload, 1) := by decide +kernel
theorem dX0_isBent_72 : decode cX0_isBent 72 = .ok (.if_icmp .le 5, 3) := by decide +kernel
theorem dX0_isBent_75 : decode cX0_isBent 75 = .ok (.iconst 1, 1) := by decide +kernel
theorem dX0_isBent_76 : decode cX0_isBent 76 = .ok (.ireturn, 1) := by decide +kernel
theorem dX0_isBent_77 : decode cX0_isBent 77 = .ok (.iinc 3 1, 3) := by decide +kernel
theorem dX0_isBent_80 : decode cX0_isBent 80 = .ok (.goto (-78), 3) := by decide +kernel
theorem dX0_isBent_83 : decode cX0_isBent 83 = .ok (.iconst 0, 1) := by decide +kernel
theorem dX0_isBent_84 : decode cX0_isBent 84 = .ok (.ireturn, 1) := by decide +kernel
theorem dX0_isHasty_0 : decode cX0_isHasty 0 = .ok (.iload_n 2, 1) := by decide +kernel
theorem dX0_isHasty_1 : decode cX0_isHasty 1 = .ok (.iconst 1, 1) := by decide +kernel
theorem dX0_isHasty_2 : decode cX0_isHasty 2 = .ok (.iadd, 1) := by decide +kernel
theorem dX0_isHasty_3 : decode cX0_isHasty 3 = .ok (.aload_n 1, 1) := by decide +kernel
theorem dX0_isHasty_4 : decode cX0_isHasty 4 = .ok (.getfield 69, 3) := by decide +kernel
theorem dX0_isHasty_7 : decode cX0_isHasty 7 = .ok (.if_icmp .lt 5, 3) := by decide +kernel
theorem dX0_isHasty_10 : decode cX0_isHasty 10 = .ok (.iconst 0, 1) := by decide +kernel
theorem dX0_isHasty_11 : decode cX0_isHasty 11 = .ok (.ireturn, 1) := by decide +kernel
theorem dX0_isHasty_12 : decode cX0_isHasty 12 = .ok (.bipush 8, 2) := by decide +kernel
theorem dX0_isHasty_14 : decode cX0_isHasty 14 = .ok (.iload_n 2, 1) := by decide +kernel
theorem dX0_isHasty_15 : decode cX0_isHasty 15 = .ok (.iconst 1, 1) := by decide +kernel
theorem dX0_isHasty_16 : decode cX0_isHasty 16 = .ok (.iadd, 1) := by decide +kernel
theorem dX0_isHasty_17 : decode cX0_isHasty 17 = .ok (.imul, 1) := by decide +kernel
theorem dX0_isHasty_18 : decode cX0_isHasty 18 = .ok (.istore_n 3, 1) := by decide +kernel
theorem dX0_isHasty_19 : decode cX0_isHasty 19 = .ok (.iload_n 3, 1) := by decide +kernel
theorem dX0_isHasty_20 : decode cX0_isHasty 20 = .ok (.istore 4, 2) := by decide +kernel
theorem dX0_isHasty_22 : decode cX0_isHasty 22 = .ok (.iload 4, 2) := by decide +kernel
theorem dX0_isHasty_24 : decode cX0_isHasty 24 = .ok (.iload_n 3, 1) := by decide +kernel
theorem dX0_isHasty_25 : decode cX0_isHasty 25 = .ok (.bipush 8, 2) := by decide +kernel
theorem dX0_isHasty_27 : decode cX0_isHasty 27 = .ok (.iadd, 1) := by decide +kernel
theorem dX0_isHasty_28 : decode cX0_isHasty 28 = .ok (.if_icmp .ge 45, 3) := by decide +kernel
theorem dX0_isHasty_31 : decode cX0_isHasty 31 = .ok (.aload_n 1, 1) := by decide +kernel
theorem dX0_isHasty_32 : decode cX0_isHasty 32 = .ok (.getfield 50, 3) := by decide +kernel
theorem dX0_isHasty_35 : decode cX0_isHasty 35 = .ok (.iload 4, 2) := by decide +kernel
theorem dX0_isHasty_37 : decode cX0_isHasty 37 = .ok (.iaload, 1) := by decide +kernel
theorem dX0_isHasty_38 : decode cX0_isHasty 38 = .ok (.aload_n 1, 1) := by decide +kernel
theorem dX0_isHasty_39 : decode cX0_isHasty 39 = .ok (.getfield 50, 3) := by decide +kernel
theorem dX0_isHasty_42 : decode cX0_isHasty 42 = .ok (.iload 4, 2) := by decide +kernel
theorem dX0_isHasty_44 : decode cX0_isHasty 44 = .ok (.bipush 8, 2) := by decide +kernel
theorem dX0_isHasty_46 : decode cX0_isHasty 46 = .ok (.isub, 1) := by decide +kernel
theorem dX0_isHasty_47 : decode cX0_isHasty 47 = .ok (.iaload, 1) := by decide +kernel
theorem dX0_isHasty_48 : decode cX0_isHasty 48 = .ok (.isub, 1) := by decide +kernel
theorem dX0_isHasty_49 : decode cX0_isHasty 49 = .ok (.invokestatic 63, 3) := by decide +kernel
theorem dX0_isHasty_52 : decode cX0_isHasty 52 = .ok (.aload_n 0, 1) := by decide +kernel
theorem dX0_isHasty_53 : decode cX0_isHasty 53 = .ok (.getfield 36, 3) := by decide +kernel
theorem dX0_isHasty_56 : decode cX0_isHasty 56 = .ok (.getfield 60, 3) := by decide +kernel
theorem dX0_isHasty_59 : decode cX0_isHasty 59 = .ok (.bipush 13, 2) := by decide +kernel
theorem dX0_isHasty_61 : decode cX0_isHasty 61 = .ok (.iaload, 1) := by decide +kernel
theorem dX0_isHasty_62 : decode cX0_isHasty 62 = .ok (.if_icmp .le 5, 3) := by decide +kernel
theorem dX0_isHasty_65 : decode cX0_isHasty 65 = .ok (.iconst 1, 1) := by decide +kernel
theorem dX0_isHasty_66 : decode cX0_isHasty 66 = .ok (.ireturn, 1) := by decide +kernel
theorem dX0_isHasty_67 : decode cX0_isHasty 67 = .ok (.iinc 4 1, 3) := by decide +kernel
theorem dX0_isHasty_70 : decode cX0_isHasty 70 = .ok (.goto (-48), 3) := by decide +kernel
theorem dX0_isHasty_73 : decode cX0_isHasty 73 = .ok (.iconst 0, 1) := by decide +kernel
theorem dX0_isHasty_74 : decode cX0_isHasty 74 = .ok (.ireturn, 1) := by decide +kernel
theorem dX0_getsAcross_0 : decode cX0_getsAcross 0 = .ok (.aload_n 0, 1) := by decide +kernel
theorem dX0_getsAcross_1 : decode cX0_getsAcross 1 = .ok (.getfield 17, 3) := by decide +kernel
theorem dX0_getsAcross_4 : decode cX0_getsAcross 4 = .ok (.iconst 0, 1) := by decide +kernel
theorem dX0_getsAcross_5 : decode cX0_getsAcross 5 = .ok (.iaload, 1) := by decide +kernel
theorem dX0_getsAcross_6 : decode cX0_getsAcross 6 = .ok (.ifCond .ge 21, 3) := by decide +kernel
theorem dX0_getsAcross_9 : decode cX0_getsAcross 9 = .ok (.aload_n 0, 1) := by decide +kernel
theorem dX0_getsAcross_10 : decode cX0_getsAcross 10 = .ok (.getfield 11, 3) := by decide +kernel
theorem dX0_getsAcross_13 : decode cX0_getsAcross 13 = .ok (.aload_n 1, 1) := by decide +kernel
theorem dX0_getsAcross_14 : decode cX0_getsAcross 14 = .ok (.getfield 69, 3) := by decide +kernel
theorem dX0_getsAcross_17 : decode cX0_getsAcross 17 = .ok (.iconst 1, 1) := by decide +kernel
theorem dX0_getsAcross_18 : decode cX0_getsAcross 18 = .ok (.isub, 1) := by decide +kernel
theorem dX0_getsAcross_19 : decode cX0_getsAcross 19 = .ok (.iaload, 1) := by decide +kernel
theorem dX0_getsAcross_20 : decode cX0_getsAcross 20 = .ok (.ifCond .le 7, 3) := by decide +kernel
theorem dX0_getsAcross_23 : decode cX0_getsAcross 23 = .ok (.iconst 1, 1) := by decide +kernel
theorem dX0_getsAcross_24 : decode cX0_getsAcross 24 = .ok (.goto 4, 3) := by decide +kernel
theorem dX0_getsAcross_27 : decode cX0_getsAcross 27 = .ok (.iconst 0, 1) := by decide +kernel
theorem dX0_getsAcross_28 : decode cX0_getsAcross 28 = .ok (.ireturn, 1) := by decide +kernel
theorem dX0_lowestTenth_0 : decode cX0_lowestTenth 0 = .ok (.iconst (-1), 1) := by decide +kernel
theorem dX0_lowestTenth_1 : decode cX0_lowestTenth 1 = .ok (.istore_n 2, 1) := by decide +kernel
theorem dX0_lowestTenth_2 : decode cX0_lowestTenth 2 = .ok (.ldc 87, 2) := by decide +kernel
theorem dX0_lowestTenth_4 : decode cX0_lowestTenth 4 = .ok (.istore_n 3, 1) := by decide +kernel
theorem dX0_lowestTenth_5 : decode cX0_lowestTenth 5 = .ok (.iconst 0, 1) := by decide +kernel
theorem dX0_lowestTenth_6 : decode cX0_lowestTenth 6 = .ok (.istore 4, 2) := by decide +kernel
theorem dX0_lowestTenth_8 : decode cX0_lowestTenth 8 = .ok (.iload 4, 2) := by decide +kernel
theorem dX0_lowestTenth_10 : decode cX0_lowestTenth 10 = .ok (.aload_n 1, 1) := by decide +kernel
theorem dX0_lowestTenth_11 : decode cX0_lowestTenth 11 = .ok (.getfield 69, 3) := by decide +kernel
theorem dX0_lowestTenth_14 : decode cX0_lowestTenth 14 = .ok (.if_icmp .ge 31, 3) := by decide +kernel
theorem dX0_lowestTenth_17 : decode cX0_lowestTenth 17 = .ok (.aload_n 0, 1) := by decide +kernel
theorem dX0_lowestTenth_18 : decode cX0_lowestTenth 18 = .ok (.getfield 20, 3) := by decide +kernel
theorem dX0_lowestTenth_21 : decode cX0_lowestTenth 21 = .ok (.iload 4, 2) := by decide +kernel
theorem dX0_lowestTenth_23 : decode cX0_lowestTenth 23 = .ok (.iaload, 1) := by decide +kernel
theorem dX0_lowestTenth_24 : decode cX0_lowestTenth 24 = .ok (.iload_n 3, 1) := by decide +kernel
theorem dX0_lowestTenth_25 : decode cX0_lowestTenth 25 = .ok (.if_icmp .ge 14, 3) := by decide +kernel
theorem dX0_lowestTenth_28 : decode cX0_lowestTenth 28 = .ok (.aload_n 0, 1) := by decide +kernel
theorem dX0_lowestTenth_29 : decode cX0_lowestTenth 29 = .ok (.getfield 20, 3) := by decide +kernel
theorem dX0_lowestTenth_32 : decode cX0_lowestTenth 32 = .ok (.iload 4, 2) := by decide +kernel
theorem dX0_lowestTenth_34 : decode cX0_lowestTenth 34 = .ok (.iaload, 1) := by decide +kernel
theorem dX0_lowestTenth_35 : decode cX0_lowestTenth 35 = .ok (.istore_n 3, 1) := by decide +kernel
theorem dX0_lowestTenth_36 : decode cX0_lowestTenth 36 = .ok (.iload 4, 2) := by decide +kernel
theorem dX0_lowestTenth_38 : decode cX0_lowestTenth 38 = .ok (.istore_n 2, 1) := by decide +kernel
theorem dX0_lowestTenth_39 : decode cX0_lowestTenth 39 = .ok (.iinc 4 1, 3) := by decide +kernel
theorem dX0_lowestTenth_42 : decode cX0_lowestTenth 42 = .ok (.goto (-34), 3) := by decide +kernel
theorem dX0_lowestTenth_45 : decode cX0_lowestTenth 45 = .ok (.iload_n 2, 1) := by decide +kernel
theorem dX0_lowestTenth_46 : decode cX0_lowestTenth 46 = .ok (.ireturn, 1) := by decide +kernel
theorem dX0_clears_0 : decode cX0_clears 0 = .ok (.aload_n 0, 1) := by decide +kernel
theorem dX0_clears_1 : decode cX0_clears 1 = .ok (.aload_n 1, 1) := by decide +kernel
theorem dX0_clears_2 : decode cX0_clears 2 = .ok (.invokevirtual 99, 3) := by decide +kernel
theorem dX0_clears_5 : decode cX0_clears 5 = .ok (.ifCond .ne 6, 3) := by decide +kernel
theorem dX0_clears_8 : decode cX0_clears 8 = .ok (.bipush (-4), 2) := by decide +kernel
theorem dX0_clears_10 : decode cX0_clears 10 = .ok (.ireturn, 1) := by decide +kernel
theorem dX0_clears_11 : decode cX0_clears 11 = .ok (.aload_n 0, 1) := by decide +kernel
theorem dX0_clears_12 : decode cX0_clears 12 = .ok (.aload_n 1, 1) := by decide +kernel
theorem dX0_clears_13 : decode cX0_clears 13 = .ok (.invokevirtual 103, 3) := by decide +kernel
theorem dX0_clears_16 : decode cX0_clears 16 = .ok (.istore_n 2, 1) := by decide +kernel
theorem dX0_clears_17 : decode cX0_clears 17 = .ok (.iload_n 2, 1) := by decide +kernel
theorem dX0_clears_18 : decode cX0_clears 18 = .ok (.ifCond .ge 7, 3) := by decide +kernel
theorem dX0_clears_21 : decode cX0_clears 21 = .ok (.sipush 999, 3) := by decide +kernel
theorem dX0_clears_24 : decode cX0_clears 24 = .ok (.ireturn, 1) := by decide +kernel
theorem dX0_clears_25 : decode cX0_clears 25 = .ok (.aload_n 0, 1) := by decide +kernel
theorem dX0_clears_26 : decode cX0_clears 26 = .ok (.getfield 20, 3) := by decide +kernel
theorem dX0_clears_29 : decode cX0_clears 29 = .ok (.iload_n 2, 1) := by decide +kernel
theorem dX0_clears_30 : decode cX0_clears 30 = .ok (.iaload, 1) := by decide +kernel
theorem dX0_clears_31 : decode cX0_clears 31 = .ok (.ifCond .ge 6, 3) := by decide +kernel
theorem dX0_clears_34 : decode cX0_clears 34 = .ok (.bipush (-4), 2) := by decide +kernel
theorem dX0_clears_36 : decode cX0_clears 36 = .ok (.ireturn, 1) := by decide +kernel
theorem dX0_clears_37 : decode cX0_clears 37 = .ok (.sipush 999, 3) := by decide +kernel
theorem dX0_clears_40 : decode cX0_clears 40 = .ok (.aload_n 0, 1) := by decide +kernel
theorem dX0_clears_41 : decode cX0_clears 41 = .ok (.getfield 20, 3) := by decide +kernel
theorem dX0_clears_44 : decode cX0_clears 44 = .ok (.iload_n 2, 1) := by decide +kernel
theorem dX0_clears_45 : decode cX0_clears 45 = .ok (.iaload, 1) := by decide +kernel
theorem dX0_clears_46 : decode cX0_clears 46 = .ok (.aload_n 0, 1) := by decide +kernel
theorem dX0_clears_47 : decode cX0_clears 47 = .ok (.getfield 36, 3) := by decide +kernel
theorem dX0_clears_50 : decode cX0_clears 50 = .ok (.invokevirtual 44, 3) := by decide +kernel
theorem dX0_clears_53 : decode cX0_clears 53 = .ok (.invokestatic 107, 3) := by decide +kernel
theorem dX0_clears_56 : decode cX0_clears 56 = .ok (.invokestatic 89, 3) := by decide +kernel
theorem dX0_clears_59 : decode cX0_clears 59 = .ok (.ireturn, 1) := by decide +kernel
theorem dX0_greatestMiddle_0 : decode cX0_greatestMiddle 0 = .ok (.ldc 88, 2) := by decide +kernel
theorem dX0_greatestMiddle_2 : decode cX0_greatestMiddle 2 = .ok (.istore_n 2, 1) := by decide +kernel
theorem dX0_greatestMiddle_3 : decode cX0_greatestMiddle 3 = .ok (.iconst 0, 1) := by decide +kernel
theorem dX0_greatestMiddle_4 : decode cX0_greatestMiddle 4 = .ok (.istore_n 3, 1) := by decide +kernel
theorem dX0_greatestMiddle_5 : decode cX0_greatestMiddle 5 = .ok (.iload_n 3, 1) := by decide +kernel
theorem dX0_greatestMiddle_6 : decode cX0_greatestMiddle 6 = .ok (.aload_n 1, 1) := by decide +kernel
theorem dX0_greatestMiddle_7 : decode cX0_greatestMiddle 7 = .ok (.getfield 69, 3) := by decide +kernel
theorem dX0_greatestMiddle_10 : decode cX0_greatestMiddle 10 = .ok (.if_icmp .ge 42, 3) := by decide +kernel
theorem dX0_greatestMiddle_13 : decode cX0_greatestMiddle 13 = .ok (.aload_n 0, 1) := by decide +kernel
theorem dX0_greatestMiddle_14 : decode cX0_greatestMiddle 14 = .ok (.getfield 20, 3) := by decide +kernel
theorem dX0_greatestMiddle_17 : decode cX0_greatestMiddle 17 = .ok (.iload_n 3, 1) := by decide +kernel
theorem dX0_greatestMiddle_18 : decode cX0_greatestMiddle 18 = .ok (.iaload, 1) := by decide +kernel
theorem dX0_greatestMiddle_19 : decode cX0_greatestMiddle 19 = .ok (.ldc 87, 2) := by decide +kernel
theorem dX0_greatestMiddle_21 : decode cX0_greatestMiddle 21 = .ok (.if_icmp .ge 25, 3) := by decide +kernel
theorem dX0_greatestMiddle_24 : decode cX0_greatestMiddle 24 = .ok (.iload_n 2, 1) := by decide +kernel
theorem dX0_greatestMiddle_25 : decode cX0_greatestMiddle 25 = .ok (.aload_n 0, 1) := by decide +kernel
theorem dX0_greatestMiddle_26 : decode cX0_greatestMiddle 26 = .ok (.getfield 36, 3) := by decide +kernel
theorem dX0_greatestMiddle_29 : decode cX0_greatestMiddle 29 = .ok (.invokevirtual 44, 3) := by decide +kernel
theorem dX0_greatestMiddle_32 : decode cX0_greatestMiddle 32 = .ok (.aload_n 0, 1) := by decide +kernel
theorem dX0_greatestMiddle_33 : decode cX0_greatestMiddle 33 = .ok (.getfield 36, 3) := by decide +kernel
theorem dX0_greatestMiddle_36 : decode cX0_greatestMiddle 36 = .ok (.iload_n 3, 1) := by decide +kernel
theorem dX0_greatestMiddle_37 : decode cX0_greatestMiddle 37 = .ok (.iconst 1, 1) := by decide +kernel
theorem dX0_greatestMiddle_38 : decode cX0_greatestMiddle 38 = .ok (.invokevirtual 57, 3) := by decide +kernel
theorem dX0_greatestMiddle_41 : decode cX0_greatestMiddle 41 = .ok (.imul, 1) := by decide +kernel
theorem dX0_greatestMiddle_42 : decode cX0_greatestMiddle 42 = .ok (.invokestatic 92, 3) := by decide +kernel
theorem dX0_greatestMiddle_45 : decode cX0_greatestMiddle 45 = .ok (.istore_n 2, 1) := by decide +kernel
theorem dX0_greatestMiddle_46 : decode cX0_greatestMiddle 46 = .ok (.iinc 3 1, 3) := by decide +kernel
theorem dX0_greatestMiddle_49 : decode cX0_greatestMiddle 49 = .ok (.goto (-44), 3) := by decide +kernel
theorem dX0_greatestMiddle_52 : decode cX0_greatestMiddle 52 = .ok (.iload_n 2, 1) := by decide +kernel
theorem dX0_greatestMiddle_53 : decode cX0_greatestMiddle 53 = .ok (.ireturn, 1) := by decide +kernel
theorem dX0_orderOfParts_0 : decode cX0_orderOfParts 0 = .ok (.iconst 0, 1) := by decide +kernel
theorem dX0_orderOfParts_1 : decode cX0_orderOfParts 1 = .ok (.istore_n 2, 1) := by decide +kernel
theorem dX0_orderOfParts_2 : decode cX0_orderOfParts 2 = .ok (.iconst 0, 1) := by decide +kernel
theorem dX0_orderOfParts_3 : decode cX0_orderOfParts 3 = .ok (.istore_n 3, 1) := by decide +kernel
theorem dX0_orderOfParts_4 : decode cX0_orderOfParts 4 = .ok (.iload_n 3, 1) := by decide +kernel
theorem dX0_orderOfParts_5 : decode cX0_orderOfParts 5 = .ok (.aload_n 1, 1) := by decide +kernel
theorem dX0_orderOfParts_6 : decode cX0_orderOfParts 6 = .ok (.getfield 69, 3) := by decide +kernel
theorem dX0_orderOfParts_9 : decode cX0_orderOfParts 9 = .ok (.if_icmp .ge 42, 3) := by decide +kernel
theorem dX0_orderOfParts_12 : decode cX0_orderOfParts 12 = .ok (.iconst 0, 1) := by decide +kernel
theorem dX0_orderOfParts_13 : decode cX0_orderOfParts 13 = .ok (.istore 4, 2) := by decide +kernel
theorem dX0_orderOfParts_15 : decode cX0_orderOfParts 15 = .ok (.iload 4, 2) := by decide +kernel
theorem dX0_orderOfParts_17 : decode cX0_orderOfParts 17 = .ok (.iconst 4, 1) := by decide +kernel
theorem dX0_orderOfParts_18 : decode cX0_orderOfParts 18 = .ok (.if_icmp .ge 27, 3) := by decide +kernel
theorem dX0_orderOfParts_21 : decode cX0_orderOfParts 21 = .ok (.aload_n 0, 1) := by decide +kernel
theorem dX0_orderOfParts_22 : decode cX0_orderOfParts 22 = .ok (.aload_n 1, 1) := by decide +kernel
theorem dX0_orderOfParts_23 : decode cX0_orderOfParts 23 = .ok (.iload 4, 2) := by decide +kernel
theorem dX0_orderOfParts_25 : decode cX0_orderOfParts 25 = .ok (.invokevirtual 110, 3) := by decide +kernel
theorem dX0_orderOfParts_28 : decode cX0_orderOfParts 28 = .ok (.iload_n 3, 1) := by decide +kernel
theorem dX0_orderOfParts_29 : decode cX0_orderOfParts 29 = .ok (.if_icmp .ne 10, 3) := by decide +kernel
theorem dX0_orderOfParts_32 : decode cX0_orderOfParts 32 = .ok (.iload_n 2, 1) := by decide +kernel
theorem dX0_orderOfParts_33 : decode cX0_orderOfParts 33 = .ok (.iconst 4, 1) := by decide +kernel
theorem dX0_orderOfParts_34 : decode cX0_orderOfParts 34 = .ok (.imul, 1) := by decide +kernel
theorem dX0_orderOfParts_35 : decode cX0_orderOfParts 35 = .ok (.iload 4, 2) := by decide +kernel
theorem dX0_orderOfParts_37 : decode cX0_orderOfParts 37 = .ok (.iadd, 1) := by decide +kernel
theorem dX0_orderOfParts_38 : decode cX0_orderOfParts 38 = .ok (.istore_n 2, 1) := by decide +kernel
theorem dX0_orderOfParts_39 : decode cX0_orderOfParts 39 = .ok (.iinc 4 1, 3) := by decide +kernel
theorem dX0_orderOfParts_42 : decode cX0_orderOfParts 42 = .ok (.goto (-27), 3) := by decide +kernel
theorem dX0_orderOfParts_45 : decode cX0_orderOfParts 45 = .ok (.iinc 3 1, 3) := by decide +kernel
theorem dX0_orderOfParts_48 : decode cX0_orderOfParts 48 = .ok (.goto (-44), 3) := by decide +kernel
theorem dX0_orderOfParts_51 : decode cX0_orderOfParts 51 = .ok (.iload_n 2, 1) := by decide +kernel
theorem dX0_orderOfParts_52 : decode cX0_orderOfParts 52 = .ok (.ireturn, 1) := by decide +kernel
theorem dX0_firstAcross_0 : decode cX0_firstAcross 0 = .ok (.iconst 0, 1) := by decide +kernel
theorem dX0_firstAcross_1 : decode cX0_firstAcross 1 = .ok (.istore_n 3, 1) := by decide +kernel
theorem dX0_firstAcross_2 : decode cX0_firstAcross 2 = .ok (.iload_n 3, 1) := by decide +kernel
theorem dX0_firstAcross_3 : decode cX0_firstAcross 3 = .ok (.aload_n 1, 1) := by decide +kernel
theorem dX0_firstAcross_4 : decode cX0_firstAcross 4 = .ok (.getfield 69, 3) := by decide +kernel
theorem dX0_firstAcross_7 : decode cX0_firstAcross 7 = .ok (.if_icmp .ge 20, 3) := by decide +kernel
theorem dX0_firstAcross_10 : decode cX0_firstAcross 10 = .ok (.aload_n 0, 1) := by decide +kernel
theorem dX0_firstAcross_11 : decode cX0_firstAcross 11 = .ok (.aload_n 1, 1) := by decide +kernel
theorem dX0_firstAcross_12 : decode cX0_firstAcross 12 = .ok (.iload_n 3, 1) := by decide +kernel
theorem dX0_firstAcross_13 : decode cX0_firstAcross 13 = .ok (.iload_n 2, 1) := by decide +kernel
theorem dX0_firstAcross_14 : decode cX0_firstAcross 14 = .ok (.iconst 0, 1) := by decide +kernel
theorem dX0_firstAcross_15 : decode cX0_firstAcross 15 = .ok (.invokevirtual 114, 3) := by decide +kernel
theorem dX0_firstAcross_18 : decode cX0_firstAcross 18 = .ok (.ifCond .ge 9, 3) := by decide +kernel
theorem dX0_firstAcross_21 : decode cX0_firstAcross 21 = .ok (.iinc 3 1, 3) := by decide +kernel
theorem dX0_firstAcross_24 : decode cX0_firstAcross 24 = .ok (.goto (-22), 3) := by decide +kernel
theorem dX0_firstAcross_27 : decode cX0_firstAcross 27 = .ok (.iload_n 3, 1) := by decide +kernel
theorem dX0_firstAcross_28 : decode cX0_firstAcross 28 = .ok (.ireturn, 1) := by decide +kernel
theorem dX0_whyBarred_0 : decode cX0_whyBarred 0 = .ok (.iconst 0, 1) := by decide +kernel
theorem dX0_whyBarred_1 : decode cX0_whyBarred 1 = .ok (.istore_n 2, 1) := by decide +kernel
theorem dX0_whyBarred_2 : decode cX0_whyBarred 2 = .ok (.iload_n 2, 1) := by decide +kernel
theorem dX0_whyBarred_3 : decode cX0_whyBarred 3 = .ok (.aload_n 1, 1) := by decide +kernel
theorem dX0_whyBarred_4 : decode cX0_whyBarred 4 = .ok (.getfield 69, 3) := by decide +kernel
theorem dX0_whyBarred_7 : decode cX0_whyBarred 7 = .ok (.if_icmp .ge 20, 3) := by decide +kernel
theorem dX0_whyBarred_10 : decode cX0_whyBarred 10 = .ok (.aload_n 0, 1) := by decide +kernel
theorem dX0_whyBarred_11 : decode cX0_whyBarred 11 = .ok (.getfield 26, 3) := by decide +kernel
theorem dX0_whyBarred_14 : decode cX0_whyBarred 14 = .ok (.iload_n 2, 1) := by decide +kernel
theorem dX0_whyBarred_15 : decode cX0_whyBarred 15 = .ok (.baload, 1) := by decide +kernel
theorem dX0_whyBarred_16 : decode cX0_whyBarred 16 = .ok (.ifCond .eq 5, 3) := by decide +kernel
theorem dX0_whyBarred_19 : decode cX0_whyBarred 19 = .ok (.iconst 1, 1) := by decide +kernel
theorem dX0_whyBarred_20 : decode cX0_whyBarred 20 = .ok (.ireturn, 1) := by decide +kernel
theorem dX0_whyBarred_21 : decode cX0_whyBarred 21 = .ok (.iinc 2 1, 3) := by decide +kernel
theorem dX0_whyBarred_24 : decode cX0_whyBarred 24 = .ok (.goto (-22), 3) := by decide +kernel
theorem dX0_whyBarred_27 : decode cX0_whyBarred 27 = .ok (.iconst 0, 1) := by decide +kernel
theorem dX0_whyBarred_28 : decode cX0_whyBarred 28 = .ok (.istore_n 2, 1) := by decide +kernel
theorem dX0_whyBarred_29 : decode cX0_whyBarred 29 = .ok (.iload_n 2, 1) := by decide +kernel
theorem dX0_whyBarred_30 : decode cX0_whyBarred 30 = .ok (.aload_n 1, 1) := by decide +kernel
theorem dX0_whyBarred_31 : decode cX0_whyBarred 31 = .ok (.getfield 69, 3) := by decide +kernel
theorem dX0_whyBarred_34 : decode cX0_whyBarred 34 = .ok (.if_icmp .ge 20, 3) := by decide +kernel
theorem dX0_whyBarred_37 : decode cX0_whyBarred 37 = .ok (.aload_n 0, 1) := by decide +kernel
theorem dX0_whyBarred_38 : decode cX0_whyBarred 38 = .ok (.getfield 30, 3) := by decide +kernel
theorem dX0_whyBarred_41 : decode cX0_whyBarred 41 = .ok (.iload_n 2, 1) := by decide +kernel
theorem dX0_whyBarred_42 : decode cX0_whyBarred 42 = .ok (.baload, 1) := by decide +kernel
theorem dX0_whyBarred_43 : decode cX0_whyBarred 43 = .ok (.ifCond .eq 5, 3) := by decide +kernel
theorem dX0_whyBarred_46 : decode cX0_whyBarred 46 = .ok (.iconst 2, 1) := by decide +kernel
theorem dX0_whyBarred_47 : decode cX0_whyBarred 47 = .ok (.ireturn, 1) := by decide +kernel
theorem dX0_whyBarred_48 : decode cX0_whyBarred 48 = .ok (.iinc 2 1, 3) := by decide +kernel
theorem dX0_whyBarred_51 : decode cX0_whyBarred 51 = .ok (.goto (-22), 3) := by decide +kernel
theorem dX0_whyBarred_54 : decode cX0_whyBarred 54 = .ok (.aload_n 1, 1) := by decide +kernel
theorem dX0_whyBarred_55 : decode cX0_whyBarred 55 = .ok (.getfield 118, 3) := by decide +kernel
theorem dX0_whyBarred_58 : decode cX0_whyBarred 58 = .ok (.aload_n 0, 1) := by decide +kernel
theorem dX0_whyBarred_59 : decode cX0_whyBarred 59 = .ok (.getfield 36, 3) := by decide +kernel
theorem dX0_whyBarred_62 : decode cX0_whyBarred 62 = .ok (.getfield 60, 3) := by decide +kernel
theorem dX0_whyBarred_65 : decode cX0_whyBarred 65 = .ok (.bipush 14, 2) := by decide +kernel
theorem dX0_whyBarred_67 : decode cX0_whyBarred 67 = .ok (.iaload, 1) := by decide +kernel
theorem dX0_whyBarred_68 : decode cX0_whyBarred 68 = .ok (.if_icmp .le 5, 3) := by decide +kernel
theorem dX0_whyBarred_71 : decode cX0_whyBarred 71 = .ok (.iconst 3, 1) := by decide +kernel
theorem dX0_whyBarred_72 : decode cX0_whyBarred 72 = .ok (.ireturn, 1) := by decide +kernel
theorem dX0_whyBarred_73 : decode cX0_whyBarred 73 = .ok (.aload_n 0, 1) := by decide +kernel
theorem dX0_whyBarred_74 : decode cX0_whyBarred 74 = .ok (.getfield 36, 3) := by decide +kernel
theorem dX0_whyBarred_77 : decode cX0_whyBarred 77 = .ok (.getfield 60, 3) := by decide +kernel
theorem dX0_whyBarred_80 : decode cX0_whyBarred 80 = .ok (.bipush 15, 2) := by decide +kernel
theorem dX0_whyBarred_82 : decode cX0_whyBarred 82 = .ok (.iaload, 1) := by decide +kernel
theorem dX0_whyBarred_83 : decode cX0_whyBarred 83 = .ok (.aload_n 1, 1) := by decide +kernel
theorem dX0_whyBarred_84 : decode cX0_whyBarred 84 = .ok (.invokestatic 121, 3) := by decide +kernel
theorem dX0_whyBarred_87 : decode cX0_whyBarred 87 = .ok (.ifCond .eq 7, 3) := by decide +kernel
theorem dX0_whyBarred_90 : decode cX0_whyBarred 90 = .ok (.iconst 0, 1) := by decide +kernel
theorem dX0_whyBarred_91 : decode cX0_whyBarred 91 = .ok (.goto 4, 3) := by decide +kernel
theorem dX0_whyBarred_94 : decode cX0_whyBarred 94 = .ok (.iconst 4, 1) := by decide +kernel
theorem dX0_whyBarred_95 : decode cX0_whyBarred 95 = .ok (.ireturn, 1) := by decide +kernel
theorem dX0_pitBears_0 : decode cX0_pitBears 0 = .ok (.iconst 0, 1) := by decide +kernel
theorem dX0_pitBears_1 : decode cX0_pitBears 1 = .ok (.istore_n 2, 1) := by decide +kernel
theorem dX0_pitBears_2 : decode cX0_pitBears 2 = .ok (.aload_n 1, 1) := by decide +kernel
theorem dX0_pitBears_3 : decode cX0_pitBears 3 = .ok (.getfield 69, 3) := by decide +kernel
theorem dX0_pitBears_6 : decode cX0_pitBears 6 = .ok (.iconst 1, 1) := by decide +kernel
theorem dX0_pitBears_7 : decode cX0_pitBears 7 = .ok (.isub, 1) := by decide +kernel
theorem dX0_pitBears_8 : decode cX0_pitBears 8 = .ok (.istore_n 3, 1) := by decide +kernel
theorem dX0_pitBears_9 : decode cX0_pitBears 9 = .ok (.iconst 1, 1) := by decide +kernel
theorem dX0_pitBears_10 : decode cX0_pitBears 10 = .ok (.istore 4, 2) := by decide +kernel
theorem dX0_pitBears_12 : decode cX0_pitBears 12 = .ok (.iload 4, 2) := by decide +kernel
theorem dX0_pitBears_14 : decode cX0_pitBears 14 = .ok (.iconst 4, 1) := by decide +kernel
theorem dX0_pitBears_15 : decode cX0_pitBears 15 = .ok (.if_icmp .ge 40, 3) := by decide +kernel
theorem dX0_pitBears_18 : decode cX0_pitBears 18 = .ok (.aload_n 1, 1) := by decide +kernel
theorem dX0_pitBears_19 : decode cX0_pitBears 19 = .ok (.getfield 50, 3) := by decide +kernel
theorem dX0_pitBears_22 : decode cX0_pitBears 22 = .ok (.iload_n 3, 1) := by decide +kernel
theorem dX0_pitBears_23 : decode cX0_pitBears 23 = .ok (.iload 4, 2) := by decide +kernel
theorem dX0_pitBears_25 : decode cX0_pitBears 25 = .ok (.invokestatic 53, 3) := by decide +kernel
theorem dX0_pitBears_28 : decode cX0_pitBears 28 = .ok (.iconst 1, 1) := by decide +kernel
theorem dX0_pitBears_29 : decode cX0_pitBears 29 = .ok (.iadd, 1) := by decide +kernel
theorem dX0_pitBears_30 : decode cX0_pitBears 30 = .ok (.iaload, 1) := by decide +kernel
theorem dX0_pitBears_31 : decode cX0_pitBears 31 = .ok (.aload_n 1, 1) := by decide +kernel
theorem dX0_pitBears_32 : decode cX0_pitBears 32 = .ok (.getfield 50, 3) := by decide +kernel
theorem dX0_pitBears_35 : decode cX0_pitBears 35 = .ok (.iload_n 3, 1) := by decide +kernel
theorem dX0_pitBears_36 : decode cX0_pitBears 36 = .ok (.iload_n 2, 1) := by decide +kernel
theorem dX0_pitBears_37 : decode cX0_pitBears 37 = .ok (.invokestatic 53, 3) := by decide +kernel
theorem dX0_pitBears_40 : decode cX0_pitBears 40 = .ok (.iconst 1, 1) := by decide +kernel
theorem dX0_pitBears_41 : decode cX0_pitBears 41 = .ok (.iadd, 1) := by decide +kernel
theorem dX0_pitBears_42 : decode cX0_pitBears 42 = .ok (.iaload, 1) := by decide +kernel
theorem dX0_pitBears_43 : decode cX0_pitBears 43 = .ok (.if_icmp .gt 6, 3) := by decide +kernel
theorem dX0_pitBears_46 : decode cX0_pitBears 46 = .ok (.iload 4, 2) := by decide +kernel
theorem dX0_pitBears_48 : decode cX0_pitBears 48 = .ok (.istore_n 2, 1) := by decide +kernel
theorem dX0_pitBears_49 : decode cX0_pitBears 49 = .ok (.iinc 4 1, 3) := by decide +kernel
theorem dX0_pitBears_52 : decode cX0_pitBears 52 = .ok (.goto (-40), 3) := by decide +kernel
theorem dX0_pitBears_55 : decode cX0_pitBears 55 = .ok (.iload_n 0, 1) := by decide +kernel
theorem dX0_pitBears_56 : decode cX0_pitBears 56 = .ok (.iconst 2, 1) := by decide +kernel
theorem dX0_pitBears_57 : decode cX0_pitBears 57 = .ok (.if_icmp .eq 10, 3) := by decide +kernel
theorem dX0_pitBears_60 : decode cX0_pitBears 60 = .ok (.iload_n 2, 1) := by decide +kernel
theorem dX0_pitBears_61 : decode cX0_pitBears 61 = .ok (.iconst 3, 1) := by decide +kernel
theorem dX0_pitBears_62 : decode cX0_pitBears 62 = .ok (.iload_n 0, 1) := by decide +kernel
theorem dX0_pitBears_63 : decode cX0_pitBears 63 = .ok (.isub, 1) := by decide +kernel
theorem dX0_pitBears_64 : decode cX0_pitBears 64 = .ok (.if_icmp .lt 7, 3) := by decide +kernel
theorem dX0_pitBears_67 : decode cX0_pitBears 67 = .ok (.iconst 1, 1) := by decide +kernel
theorem dX0_pitBears_68 : decode cX0_pitBears 68 = .ok (.goto 4, 3) := by decide +kernel
theorem dX0_pitBears_71 : decode cX0_pitBears 71 = .ok (.iconst 0, 1) := by decide +kernel
theorem dX0_pitBears_72 : decode cX0_pitBears 72 = .ok (.ireturn, 1) := by decide +kernel
theorem dX0_value_0 : decode cX0_value 0 = .ok (.aload_n 0, 1) := by decide +kernel
theorem dX0_value_1 : decode cX0_value 1 = .ok (.aload_n 1, 1) := by decide +kernel
theorem dX0_value_2 : decode cX0_value 2 = .ok (.invokevirtual 125, 3) := by decide +kernel
theorem dX0_value_5 : decode cX0_value 5 = .ok (.ifCond .eq 5, 3) := by decide +kernel
theorem dX0_value_8 : decode cX0_value 8 = .ok (.iconst (-1), 1) := by decide +kernel
theorem dX0_value_9 : decode cX0_value 9 = .ok (.ireturn, 1) := by decide +kernel
theorem dX0_value_10 : decode cX0_value 10 = .ok (.aload_n 0, 1) := by decide +kernel
theorem dX0_value_11 : decode cX0_value 11 = .ok (.aload_n 1, 1) := by decide +kernel
theorem dX0_value_12 : decode cX0_value 12 = .ok (.invokevirtual 128, 3) := by decide +kernel
theorem dX0_value_15 : decode cX0_value 15 = .ok (.istore_n 2, 1) := by decide +kernel
theorem dX0_value_16 : decode cX0_value 16 = .ok (.iload_n 2, 1) := by decide +kernel
theorem dX0_value_17 : decode cX0_value 17 = .ok (.bipush (-4), 2) := by decide +kernel
theorem dX0_value_19 : decode cX0_value 19 = .ok (.if_icmp .ne 7, 3) := by decide +kernel
theorem dX0_value_22 : decode cX0_value 22 = .ok (.iconst (-1), 1) := by decide +kernel
theorem dX0_value_23 : decode cX0_value 23 = .ok (.goto 4, 3) := by decide +kernel
theorem dX0_value_26 : decode cX0_value 26 = .ok (.iload_n 2, 1) := by decide +kernel
theorem dX0_value_27 : decode cX0_value 27 = .ok (.ireturn, 1) := by decide +kernel
theorem dX0_valueWith_0 : decode cX0_valueWith 0 = .ok (.aload_n 1, 1) := by decide +kernel
theorem dX0_valueWith_1 : decode cX0_valueWith 1 = .ok (.iload_n 2, 1) := by decide +kernel
theorem dX0_valueWith_2 : decode cX0_valueWith 2 = .ok (.invokevirtual 131, 3) := by decide +kernel
theorem dX0_valueWith_5 : decode cX0_valueWith 5 = .ok (.aload_n 0, 1) := by decide +kernel
theorem dX0_valueWith_6 : decode cX0_valueWith 6 = .ok (.aload_n 1, 1) := by decide +kernel
theorem dX0_valueWith_7 : decode cX0_valueWith 7 = .ok (.iload_n 2, 1) := by decide +kernel
theorem dX0_valueWith_8 : decode cX0_valueWith 8 = .ok (.bipush 16, 2) := by decide +kernel
theorem dX0_valueWith_10 : decode cX0_valueWith 10 = .ok (.idiv, 1) := by decide +kernel
theorem dX0_valueWith_11 : decode cX0_valueWith 11 = .ok (.invokevirtual 73, 3) := by decide +kernel
theorem dX0_valueWith_14 : decode cX0_valueWith 14 = .ok (.aload_n 0, 1) := by decide +kernel
theorem dX0_valueWith_15 : decode cX0_valueWith 15 = .ok (.aload_n 1, 1) := by decide +kernel
theorem dX0_valueWith_16 : decode cX0_valueWith 16 = .ok (.invokevirtual 135, 3) := by decide +kernel
theorem dX0_valueWith_19 : decode cX0_valueWith 19 = .ok (.istore_n 3, 1) := by decide +kernel
theorem dX0_valueWith_20 : decode cX0_valueWith 20 = .ok (.aload_n 1, 1) := by decide +kernel
theorem dX0_valueWith_21 : decode cX0_valueWith 21 = .ok (.iload_n 2, 1) := by decide +kernel
theorem dX0_valueWith_22 : decode cX0_valueWith 22 = .ok (.invokevirtual 138, 3) := by decide +kernel
theorem dX0_valueWith_25 : decode cX0_valueWith 25 = .ok (.iload_n 3, 1) := by decide +kernel
theorem dX0_valueWith_26 : decode cX0_valueWith 26 = .ok (.ireturn, 1) := by decide +kernel
theorem dX0_survey_0 : decode cX0_survey 0 = .ok (.aload_n 0, 1) := by decide +kernel
theorem dX0_survey_1 : decode cX0_survey 1 = .ok (.aload_n 1, 1) := by decide +kernel
theorem dX0_survey_2 : decode cX0_survey 2 = .ok (.invokevirtual 141, 3) := by decide +kernel
theorem dX0_survey_5 : decode cX0_survey 5 = .ok (.aload_n 0, 1) := by decide +kernel
theorem dX0_survey_6 : decode cX0_survey 6 = .ok (.aload_n 0, 1) := by decide +kernel
theorem dX0_survey_7 : decode cX0_survey 7 = .ok (.aload_n 1, 1) := by decide +kernel
theorem dX0_survey_8 : decode cX0_survey 8 = .ok (.invokevirtual 135, 3) := by decide +kernel
theorem dX0_survey_11 : decode cX0_survey 11 = .ok (.putfield 145, 3) := by decide +kernel
theorem dX0_survey_14 : decode cX0_survey 14 = .ok (.iconst 0, 1) := by decide +kernel
theorem dX0_survey_15 : decode cX0_survey 15 = .ok (.istore_n 2, 1) := by decide +kernel
theorem dX0_survey_16 : decode cX0_survey 16 = .ok (.iload_n 2, 1) := by decide +kernel
theorem dX0_survey_17 : decode cX0_survey 17 = .ok (.sipush 128, 3) := by decide +kernel
theorem dX0_survey_20 : decode cX0_survey 20 = .ok (.if_icmp .ge 18, 3) := by decide +kernel
theorem dX0_survey_23 : decode cX0_survey 23 = .ok (.aload_n 0, 1) := by decide +kernel
theorem dX0_survey_24 : decode cX0_survey 24 = .ok (.getfield 33, 3) := by decide +kernel
theorem dX0_survey_27 : decode cX0_survey 27 = .ok (.iload_n 2, 1) := by decide +kernel
theorem dX0_survey_28 : decode cX0_survey 28 = .ok (.sipush (-1000), 3) := by decide +kernel
theorem dX0_survey_31 : decode cX0_survey 31 = .ok (.iastore, 1) := by decide +kernel
theorem dX0_survey_32 : decode cX0_survey 32 = .ok (.iinc 2 1, 3) := by decide +kernel
theorem dX0_survey_35 : decode cX0_survey 35 = .ok (.goto (-19), 3) := by decide +kernel
theorem dX0_survey_38 : decode cX0_survey 38 = .ok (.iconst 0, 1) := by decide +kernel
theorem dX0_survey_39 : decode cX0_survey 39 = .ok (.istore_n 2, 1) := by decide +kernel
theorem dX0_survey_40 : decode cX0_survey 40 = .ok (.iload_n 2, 1) := by decide +kernel
theorem dX0_survey_41 : decode cX0_survey 41 = .ok (.aload_n 1, 1) := by decide +kernel
theorem dX0_survey_42 : decode cX0_survey 42 = .ok (.getfield 69, 3) := by decide +kernel
theorem dX0_survey_45 : decode cX0_survey 45 = .ok (.if_icmp .ge 61, 3) := by decide +kernel
theorem dX0_survey_48 : decode cX0_survey 48 = .ok (.bipush 16, 2) := by decide +kernel
theorem dX0_survey_50 : decode cX0_survey 50 = .ok (.iload_n 2, 1) := by decide +kernel
theorem dX0_survey_51 : decode cX0_survey 51 = .ok (.imul, 1) := by decide +kernel
theorem dX0_survey_52 : decode cX0_survey 52 = .ok (.istore_n 3, 1) := by decide +kernel
theorem dX0_survey_53 : decode cX0_survey 53 = .ok (.iload_n 3, 1) := by decide +kernel
theorem dX0_survey_54 : decode cX0_survey 54 = .ok (.istore 4, 2) := by decide +kernel
theorem dX0_survey_56 : decode cX0_survey 56 = .ok (.iload 4, 2) := by decide +kernel
theorem dX0_survey_58 : decode cX0_survey 58 = .ok (.iload_n 3, 1) := by decide +kernel
theorem dX0_survey_59 : decode cX0_survey 59 = .ok (.bipush 16, 2) := by decide +kernel
theorem dX0_survey_61 : decode cX0_survey 61 = .ok (.iadd, 1) := by decide +kernel
theorem dX0_survey_62 : decode cX0_survey 62 = .ok (.if_icmp .ge 32, 3) := by decide +kernel
theorem dX0_survey_65 : decode cX0_survey 65 = .ok (.aload_n 1, 1) := by decide +kernel
theorem dX0_survey_66 : decode cX0_survey 66 = .ok (.iload 4, 2) := by decide +kernel
theorem dX0_survey_68 : decode cX0_survey 68 = .ok (.invokevirtual 148, 3) := by decide +kernel
theorem dX0_survey_71 : decode cX0_survey 71 = .ok (.ifCond .eq 17, 3) := by decide +kernel
theorem dX0_survey_74 : decode cX0_survey 74 = .ok (.aload_n 0, 1) := by decide +kernel
theorem dX0_survey_75 : decode cX0_survey 75 = .ok (.getfield 33, 3) := by decide +kernel
theorem dX0_survey_78 : decode cX0_survey 78 = .ok (.iload 4, 2) := by decide +kernel
theorem dX0_survey_80 : decode cX0_survey 80 = .ok (.aload_n 0, 1) := by decide +kernel
theorem dX0_survey_81 : decode cX0_survey 81 = .ok (.aload_n 1, 1) := by decide +kernel
theorem dX0_survey_82 : decode cX0_survey 82 = .ok (.iload 4, 2) := by decide +kernel
theorem dX0_survey_84 : decode cX0_survey 84 = .ok (.invokevirtual 151, 3) := by decide +kernel
theorem dX0_survey_87 : decode cX0_survey 87 = .ok (.iastore, 1) := by decide +kernel
theorem dX0_survey_88 : decode cX0_survey 88 = .ok (.iinc 4 1, 3) := by decide +kernel
theorem dX0_survey_91 : decode cX0_survey 91 = .ok (.goto (-35), 3) := by decide +kernel
theorem dX0_survey_94 : decode cX0_survey 94 = .ok (.aload_n 0, 1) := by decide +kernel
theorem dX0_survey_95 : decode cX0_survey 95 = .ok (.aload_n 1, 1) := by decide +kernel
theorem dX0_survey_96 : decode cX0_survey 96 = .ok (.iload_n 2, 1) := by decide +kernel
theorem dX0_survey_97 : decode cX0_survey 97 = .ok (.invokevirtual 73, 3) := by decide +kernel
theorem dX0_survey_100 : decode cX0_survey 100 = .ok (.iinc 2 1, 3) := by decide +kernel
theorem dX0_survey_103 : decode cX0_survey 103 = .ok (.goto (-63), 3) := by decide +kernel
theorem dX0_survey_106 : decode cX0_survey 106 = .ok (.return_, 1) := by decide +kernel
theorem dX0_bestChange_0 : decode cX0_bestChange 0 = .ok (.bipush (-4), 2) := by decide +kernel
theorem dX0_bestChange_2 : decode cX0_bestChange 2 = .ok (.istore_n 1, 1) := by decide +kernel
theorem dX0_bestChange_3 : decode cX0_bestChange 3 = .ok (.aload_n 0, 1) := by decide +kernel
theorem dX0_bestChange_4 : decode cX0_bestChange 4 = .ok (.getfield 145, 3) := by decide +kernel
theorem dX0_bestChange_7 : decode cX0_bestChange 7 = .ok (.istore_n 2, 1) := by decide +kernel
theorem dX0_bestChange_8 : decode cX0_bestChange 8 = .ok (.iconst 0, 1) := by decide +kernel
theorem dX0_bestChange_9 : decode cX0_bestChange 9 = .ok (.istore_n 3, 1) := by decide +kernel
theorem dX0_bestChange_10 : decode cX0_bestChange 10 = .ok (.iload_n 3, 1) := by decide +kernel
theorem dX0_bestChange_11 : decode cX0_bestChange 11 = .ok (.sipush 128, 3) := by decide +kernel
theorem dX0_bestChange_14 : decode cX0_bestChange 14 = .ok (.if_icmp .ge 28, 3) := by decide +kernel
theorem dX0_bestChange_17 : decode cX0_bestChange 17 = .ok (.aload_n 0, 1) := by decide +kernel
theorem dX0_bestChange_18 : decode cX0_bestChange 18 = .ok (.getfield 33, 3) := by decide +kernel
theorem dX0_bestChange_21 : decode cX0_bestChange 21 = .ok (.iload_n 3, 1) := by decide +kernel
theorem dX0_bestChange_22 : decode cX0_bestChange 22 = .ok (.iaload, 1) := by decide +kernel
theorem dX0_bestChange_23 : decode cX0_bestChange 23 = .ok (.iload_n 2, 1) := by decide +kernel
theorem dX0_bestChange_24 : decode cX0_bestChange 24 = .ok (.if_icmp .le 12, 3) := by decide +kernel
theorem dX0_bestChange_27 : decode cX0_bestChange 27 = .ok (.aload_n 0, 1) := by decide +kernel
theorem dX0_bestChange_28 : decode cX0_bestChange 28 = .ok (.getfield 33, 3) := by decide +kernel
theorem dX0_bestChange_31 : decode cX0_bestChange 31 = .ok (.iload_n 3, 1) := by decide +kernel
theorem dX0_bestChange_32 : decode cX0_bestChange 32 = .ok (.iaload, 1) := by decide +kernel
theorem dX0_bestChange_33 : decode cX0_bestChange 33 = .ok (.istore_n 2, 1) := by decide +kernel
theorem dX0_bestChange_34 : decode cX0_bestChange 34 = .ok (.iload_n 3, 1) := by decide +kernel
theorem dX0_bestChange_35 : decode cX0_bestChange 35 = .ok (.istore_n 1, 1) := by decide +kernel
theorem dX0_bestChange_36 : decode cX0_bestChange 36 = .ok (.iinc 3 1, 3) := by decide +kernel
theorem dX0_bestChange_39 : decode cX0_bestChange 39 = .ok (.goto (-29), 3) := by decide +kernel
theorem dX0_bestChange_42 : decode cX0_bestChange 42 = .ok (.iload_n 1, 1) := by decide +kernel
theorem dX0_bestChange_43 : decode cX0_bestChange 43 = .ok (.ireturn, 1) := by decide +kernel
theorem dX0_changesThatCompare_0 : decode cX0_changesThatCompare 0 = .ok (.iconst 0, 1) := by decide +kernel
theorem dX0_changesThatCompare_1 : decode cX0_changesThatCompare 1 = .ok (.istore_n 2, 1) := by decide +kernel
theorem dX0_changesThatCompare_2 : decode cX0_changesThatCompare 2 = .ok (.iconst 0, 1) := by decide +kernel
theorem dX0_changesThatCompare_3 : decode cX0_changesThatCompare 3 = .ok (.istore_n 3, 1) := by decide +kernel
theorem dX0_changesThatCompare_4 : decode cX0_changesThatCompare 4 = .ok (.iload_n 3, 1) := by decide +kernel
theorem dX0_changesThatCompare_5 : decode cX0_changesThatCompare 5 = .ok (.sipush 128, 3) := by decide +kernel
theorem dX0_changesThatCompare_8 : decode cX0_changesThatCompare 8 = .ok (.if_icmp .ge 41, 3) := by decide +kernel
theorem dX0_changesThatCompare_11 : decode cX0_changesThatCompare 11 = .ok (.aload_n 0, 1) := by decide +kernel
theorem dX0_changesThatCompare_12 : decode cX0_changesThatCompare 12 = .ok (.getfield 33, 3) := by decide +kernel
theorem dX0_changesThatCompare_15 : decode cX0_changesThatCompare 15 = .ok (.iload_n 3, 1) := by decide +kernel
theorem dX0_changesThatCompare_16 : decode cX0_changesThatCompare 16 = .ok (.iaload, 1) := by decide +kernel
theorem dX0_changesThatCompare_17 : decode cX0_changesThatCompare 17 = .ok (.sipush (-1000), 3) := by decide +kernel
theorem dX0_changesThatCompare_20 : decode cX0_changesThatCompare 20 = .ok (.if_icmp .eq 23, 3) := by decide +kernel
theorem dX0_changesThatCompare_23 : decode cX0_changesThatCompare 23 = .ok (.aload_n 0, 1) := by decide +kernel
theorem dX0_changesThatCompare_24 : decode cX0_changesThatCompare 24 = .ok (.getfield 33, 3) := by decide +kernel
theorem dX0_changesThatCompare_27 : decode cX0_changesThatCompare 27 = .ok (.iload_n 3, 1) := by decide +kernel
theorem dX0_changesThatCompare_28 : decode cX0_changesThatCompare 28 = .ok (.iaload, 1) := by decide +kernel
theorem dX0_changesThatCompare_29 : decode cX0_changesThatCompare 29 = .ok (.aload_n 0, 1) := by decide +kernel
theorem dX0_changesThatCompare_30 : decode cX0_changesThatCompare 30 = .ok (.getfield 145, 3) := by decide +kernel
theorem dX0_changesThatCompare_33 : decode cX0_changesThatCompare 33 = .ok (.invokestatic 154, 3) := by decide +kernel
theorem dX0_changesThatCompare_36 : decode cX0_changesThatCompare 36 = .ok (.iload_n 1, 1) := by decide +kernel
theorem dX0_changesThatCompare_37 : decode cX0_changesThatCompare 37 = .ok (.if_icmp .ne 6, 3) := by decide +kernel
theorem dX0_changesThatCompare_40 : decode cX0_changesThatCompare 40 = .ok (.iinc 2 1, 3) := by decide +kernel
theorem dX0_changesThatCompare_43 : decode cX0_changesThatCompare 43 = .ok (.iinc 3 1, 3) := by decide +kernel
theorem dX0_changesThatCompare_46 : decode cX0_changesThatCompare 46 = .ok (.goto (-42), 3) := by decide +kernel
theorem dX0_changesThatCompare_49 : decode cX0_changesThatCompare 49 = .ok (.iload_n 2, 1) := by decide +kernel
theorem dX0_changesThatCompare_50 : decode cX0_changesThatCompare 50 = .ok (.ireturn, 1) := by decide +kernel
theorem dX0_leastOnTheWay_0 : decode cX0_leastOnTheWay 0 = .ok (.aload_n 0, 1) := by decide +kernel
theorem dX0_leastOnTheWay_1 : decode cX0_leastOnTheWay 1 = .ok (.aload_n 1, 1) := by decide +kernel
theorem dX0_leastOnTheWay_2 : decode cX0_leastOnTheWay 2 = .ok (.invokevirtual 141, 3) := by decide +kernel
theorem dX0_leastOnTheWay_5 : decode cX0_leastOnTheWay 5 = .ok (.aload_n 0, 1) := by decide +kernel
theorem dX0_leastOnTheWay_6 : decode cX0_leastOnTheWay 6 = .ok (.aload_n 1, 1) := by decide +kernel
theorem dX0_leastOnTheWay_7 : decode cX0_leastOnTheWay 7 = .ok (.invokevirtual 135, 3) := by decide +kernel
theorem dX0_leastOnTheWay_10 : decode cX0_leastOnTheWay 10 = .ok (.istore_n 3, 1) := by decide +kernel
theorem dX0_leastOnTheWay_11 : decode cX0_leastOnTheWay 11 = .ok (.iconst 0, 1) := by decide +kernel
theorem dX0_leastOnTheWay_12 : decode cX0_leastOnTheWay 12 = .ok (.istore 4, 2) := by decide +kernel
theorem dX0_leastOnTheWay_14 : decode cX0_leastOnTheWay 14 = .ok (.iload 4, 2) := by decide +kernel
theorem dX0_leastOnTheWay_16 : decode cX0_leastOnTheWay 16 = .ok (.aload_n 1, 1) := by decide +kernel
theorem dX0_leastOnTheWay_17 : decode cX0_leastOnTheWay 17 = .ok (.invokevirtual 159, 3) := by decide +kernel
theorem dX0_leastOnTheWay_20 : decode cX0_leastOnTheWay 20 = .ok (.if_icmp .ge 60, 3) := by decide +kernel
theorem dX0_leastOnTheWay_23 : decode cX0_leastOnTheWay 23 = .ok (.aload_n 1, 1) := by decide +kernel
theorem dX0_leastOnTheWay_24 : decode cX0_leastOnTheWay 24 = .ok (.getfield 50, 3) := by decide +kernel
theorem dX0_leastOnTheWay_27 : decode cX0_leastOnTheWay 27 = .ok (.iload 4, 2) := by decide +kernel
theorem dX0_leastOnTheWay_29 : decode cX0_leastOnTheWay 29 = .ok (.iaload, 1) := by decide +kernel
theorem dX0_leastOnTheWay_30 : decode cX0_leastOnTheWay 30 = .ok (.aload_n 2, 1) := by decide +kernel
theorem dX0_leastOnTheWay_31 : decode cX0_leastOnTheWay 31 = .ok (.getfield 50, 3) := by decide +kernel
theorem dX0_leastOnTheWay_34 : decode cX0_leastOnTheWay 34 = .ok (.iload 4, 2) := by decide +kernel
theorem dX0_leastOnTheWay_36 : decode cX0_leastOnTheWay 36 = .ok (.iaload, 1) := by decide +kernel
theorem dX0_leastOnTheWay_37 : decode cX0_leastOnTheWay 37 = .ok (.if_icmp .eq 37, 3) := by decide +kernel
theorem dX0_leastOnTheWay_40 : decode cX0_leastOnTheWay 40 = .ok (.aload_n 1, 1) := by decide +kernel
theorem dX0_leastOnTheWay_41 : decode cX0_leastOnTheWay 41 = .ok (.getfield 50, 3) := by decide +kernel
theorem dX0_leastOnTheWay_44 : decode cX0_leastOnTheWay 44 = .ok (.iload 4, 2) := by decide +kernel
theorem dX0_leastOnTheWay_46 : decode cX0_leastOnTheWay 46 = .ok (.aload_n 2, 1) := by decide +kernel
theorem dX0_leastOnTheWay_47 : decode cX0_leastOnTheWay 47 = .ok (.getfield 50, 3) := by decide +kernel
theorem dX0_leastOnTheWay_50 : decode cX0_leastOnTheWay 50 = .ok (.iload 4, 2) := by decide +kernel
theorem dX0_leastOnTheWay_52 : decode cX0_leastOnTheWay 52 = .ok (.iaload, 1) := by decide +kernel
theorem dX0_leastOnTheWay_53 : decode cX0_leastOnTheWay 53 = .ok (.iastore, 1) := by decide +kernel
theorem dX0_leastOnTheWay_54 : decode cX0_leastOnTheWay 54 = .ok (.aload_n 0, 1) := by decide +kernel
theorem dX0_leastOnTheWay_55 : decode cX0_leastOnTheWay 55 = .ok (.aload_n 1, 1) := by decide +kernel
theorem dX0_leastOnTheWay_56 : decode cX0_leastOnTheWay 56 = .ok (.iload 4, 2) := by decide +kernel
theorem dX0_leastOnTheWay_58 : decode cX0_leastOnTheWay 58 = .ok (.bipush 8, 2) := by decide +kernel
theorem dX0_leastOnTheWay_60 : decode cX0_leastOnTheWay 60 = .ok (.idiv, 1) := by decide +kernel
theorem dX0_leastOnTheWay_61 : decode cX0_leastOnTheWay 61 = .ok (.invokevirtual 73, 3) := by decide +kernel
theorem dX0_leastOnTheWay_64 : decode cX0_leastOnTheWay 64 = .ok (.iload_n 3, 1) := by decide +kernel
theorem dX0_leastOnTheWay_65 : decode cX0_leastOnTheWay 65 = .ok (.aload_n 0, 1) := by decide +kernel
theorem dX0_leastOnTheWay_66 : decode cX0_leastOnTheWay 66 = .ok (.aload_n 1, 1) := by decide +kernel
theorem dX0_leastOnTheWay_67 : decode cX0_leastOnTheWay 67 = .ok (.invokevirtual 135, 3) := by decide +kernel
theorem dX0_leastOnTheWay_70 : decode cX0_leastOnTheWay 70 = .ok (.invokestatic 89, 3) := by decide +kernel
theorem dX0_leastOnTheWay_73 : decode cX0_leastOnTheWay 73 = .ok (.istore_n 3, 1) := by decide +kernel
theorem dX0_leastOnTheWay_74 : decode cX0_leastOnTheWay 74 = .ok (.iinc 4 1, 3) := by decide +kernel
theorem dX0_leastOnTheWay_77 : decode cX0_leastOnTheWay 77 = .ok (.goto (-63), 3) := by decide +kernel
theorem dX0_leastOnTheWay_80 : decode cX0_leastOnTheWay 80 = .ok (.iload_n 3, 1) := by decide +kernel
theorem dX0_leastOnTheWay_81 : decode cX0_leastOnTheWay 81 = .ok (.ireturn, 1) := by decide +kernel
theorem dX1_init_0 : decode cX1_init 0 = .ok (.aload_n 0, 1) := by decide +kernel
theorem dX1_init_1 : decode cX1_init 1 = .ok (.invokespecial 3, 3) := by decide +kernel
theorem dX1_init_4 : decode cX1_init 4 = .ok (.aload_n 0, 1) := by decide +kernel
theorem dX1_init_5 : decode cX1_init 5 = .ok (.bipush 18, 2) := by decide +kernel
theorem dX1_init_7 : decode cX1_init 7 = .ok (.newarray .int, 2) := by decide +kernel
theorem dX1_init_9 : decode cX1_init 9 = .ok (.putfield 11, 3) := by decide +kernel
theorem dX1_init_12 : decode cX1_init 12 = .ok (.return_, 1) := by decide +kernel
theorem dX1_readText_0 : decode cX1_readText 0 = .ok (.getstatic 17, 3) := by decide +kernel
theorem dX1_readText_3 : decode cX1_readText 3 = .ok (.iconst 0, 1) := by decide +kernel
theorem dX1_readText_4 : decode cX1_readText 4 = .ok (.aload_n 0, 1) := by decide +kernel
theorem dX1_readText_5 : decode cX1_readText 5 = .ok (.getfield 11, 3) := by decide +kernel
theorem dX1_readText_8 : decode cX1_readText 8 = .ok (.iconst 0, 1) := by decide +kernel
theorem dX1_readText_9 : decode cX1_readText 9 = .ok (.bipush 18, 2) := by decide +kernel
theorem dX1_readText_11 : decode cX1_readText 11 = .ok (.invokestatic 20, 3) := by decide +kernel
theorem dX1_readText_14 : decode cX1_readText 14 = .ok (.aload_n 0, 1) := by decide +kernel
theorem dX1_readText_15 : decode cX1_readText 15 = .ok (.iconst 0, 1) := by decide +kernel
theorem dX1_readText_16 : decode cX1_readText 16 = .ok (.putfield 26, 3) := by decide +kernel
theorem dX1_readText_19 : decode cX1_readText 19 = .ok (.aload_n 0, 1) := by decide +kernel
theorem dX1_readText_20 : decode cX1_readText 20 = .ok (.iconst 0, 1) := by decide +kernel
theorem dX1_readText_21 : decode cX1_readText 21 = .ok (.putfield 30, 3) := by decide +kernel
theorem dX1_readText_24 : decode cX1_readText 24 = .ok (.aload_n 0, 1) := by decide +kernel
theorem dX1_readText_25 : decode cX1_readText 25 = .ok (.iconst 0, 1) := by decide +kernel
theorem dX1_readText_26 : decode cX1_readText 26 = .ok (.putfield 33, 3) := by decide +kernel
theorem dX1_readText_29 : decode cX1_readText 29 = .ok (.iconst 0, 1) := by decide +kernel
theorem dX1_readText_30 : decode cX1_readText 30 = .ok (.istore_n 2, 1) := by decide +kernel
theorem dX1_readText_31 : decode cX1_readText 31 = .ok (.iload_n 2, 1) := by decide +kernel
theorem dX1_readText_32 : decode cX1_readText 32 = .ok (.sipush 200, 3) := by decide +kernel
theorem dX1_readText_35 : decode cX1_readText 35 = .ok (.if_icmp .gt 46, 3) := by decide +kernel
theorem dX1_readText_38 : decode cX1_readText 38 = .ok (.aload_n 0, 1) := by decide +kernel
theorem dX1_readText_39 : decode cX1_readText 39 = .ok (.aload_n 1, 1) := by decide +kernel
theorem dX1_readText_40 : decode cX1_readText 40 = .ok (.invokevirtual 38, 3) := by decide +kernel
theorem dX1_readText_43 : decode cX1_readText 43 = .ok (.aload_n 0, 1) := by decide +kernel
theorem dX1_readText_44 : decode cX1_readText 44 = .ok (.getfield 30, 3) := by decide +kernel
theorem dX1_readText_47 : decode cX1_readText 47 = .ok (.ifCond .ne 34, 3) := by decide +kernel
theorem dX1_readText_50 : decode cX1_readText 50 = .ok (.aload_n 0, 1) := by decide +kernel
theorem dX1_readText_51 : decode cX1_readText 51 = .ok (.getfield 42, 3) := by decide +kernel
theorem dX1_readText_54 : decode cX1_readText 54 = .ok (.ifCond .ne 6, 3) := by decide +kernel
theorem dX1_readText_57 : decode cX1_readText 57 = .ok (.goto 24, 3) := by decide +kernel
theorem dX1_readText_60 : decode cX1_readText 60 = .ok (.aload_n 0, 1) := by decide +kernel
theorem dX1_readText_61 : decode cX1_readText 61 = .ok (.aload_n 1, 1) := by decide +kernel
theorem dX1_readText_62 : decode cX1_readText 62 = .ok (.invokevirtual 45, 3) := by decide +kernel
theorem dX1_readText_65 : decode cX1_readText 65 = .ok (.aload_n 0, 1) := by decide +kernel
theorem dX1_readText_66 : decode cX1_readText 66 = .ok (.getfield 30, 3) := by decide +kernel
theorem dX1_readText_69 : decode cX1_readText 69 = .ok (.ifCond .eq 6, 3) := by decide +kernel
theorem dX1_readText_72 : decode cX1_readText 72 = .ok (.goto 9, 3) := by decide +kernel
theorem dX1_readText_75 : decode cX1_readText 75 = .ok (.iinc 2 1, 3) := by decide +kernel
theorem dX1_readText_78 : decode cX1_readText 78 = .ok (.goto (-47), 3) := by decide +kernel
theorem dX1_readText_81 : decode cX1_readText 81 = .ok (.iload_n 2, 1) := by decide +kernel
theorem dX1_readText_82 : decode cX1_readText 82 = .ok (.ireturn, 1) := by decide +kernel
theorem dX1_readLine_0 : decode cX1_readLine 0 = .ok (.aload_n 0, 1) := by decide +kernel
theorem dX1_readLine_1 : decode cX1_readLine 1 = .ok (.getfield 42, 3) := by decide +kernel
theorem dX1_readLine_4 : decode cX1_readLine 4 = .ok (.iconst 1, 1) := by decide +kernel
theorem dX1_readLine_5 : decode cX1_readLine 5 = .ok (.if_icmp .eq 9, 3) := by decide +kernel
theorem dX1_readLine_8 : decode cX1_readLine 8 = .ok (.aload_n 0, 1) := by decide +kernel
theorem dX1_readLine_9 : decode cX1_readLine 9 = .ok (.iconst 2, 1) := by decide +kernel
theorem dX1_readLine_10 : decode cX1_readLine 10 = .ok (.putfield 30, 3) := by decide +kernel
theorem dX1_readLine_13 : decode cX1_readLine 13 = .ok (.return_, 1) := by decide +kernel
theorem dX1_readLine_14 : decode cX1_readLine 14 = .ok (.aload_n 0, 1) := by decide +kernel
theorem dX1_readLine_15 : decode cX1_readLine 15 = .ok (.aload_n 1, 1) := by decide +kernel
theorem dX1_readLine_16 : decode cX1_readLine 16 = .ok (.invokevirtual 48, 3) := by decide +kernel
theorem dX1_readLine_19 : decode cX1_readLine 19 = .ok (.istore_n 2, 1) := by decide +kernel
theorem dX1_readLine_20 : decode cX1_readLine 20 = .ok (.aload_n 0, 1) := by decide +kernel
theorem dX1_readLine_21 : decode cX1_readLine 21 = .ok (.getfield 30, 3) := by decide +kernel
theorem dX1_readLine_24 : decode cX1_readLine 24 = .ok (.ifCond .eq 4, 3) := by decide +kernel
theorem dX1_readLine_27 : decode cX1_readLine 27 = .ok (.return_, 1) := by decide +kernel
theorem dX1_readLine_28 : decode cX1_readLine 28 = .ok (.aload_n 0, 1) := by decide +kernel
theorem dX1_readLine_29 : decode cX1_readLine 29 = .ok (.aload_n 1, 1) := by decide +kernel
theorem dX1_readLine_30 : decode cX1_readLine 30 = .ok (.getstatic 52, 3) := by decide +kernel
theorem dX1_readLine_33 : decode cX1_readLine 33 = .ok (.iload_n 2, 1) := by decide +kernel
theorem dX1_readLine_34 : decode cX1_readLine 34 = .ok (.iaload, 1) := by decide +kernel
theorem dX1_readLine_35 : decode cX1_readLine 35 = .ok (.getstatic 55, 3) := by decide +kernel
theorem dX1_readLine_38 : decode cX1_readLine 38 = .ok (.iload_n 2, 1) := by decide +kernel
theorem dX1_readLine_39 : decode cX1_readLine 39 = .ok (.iaload, 1) := by decide +kernel
theorem dX1_readLine_40 : decode cX1_readLine 40 = .ok (.invokevirtual 58, 3) := by decide +kernel
theorem dX1_readLine_43 : decode cX1_readLine 43 = .ok (.istore_n 3, 1) := by decide +kernel
theorem dX1_readLine_44 : decode cX1_readLine 44 = .ok (.aload_n 0, 1) := by decide +kernel
theorem dX1_readLine_45 : decode cX1_readLine 45 = .ok (.getfield 30, 3) := by decide +kernel
theorem dX1_readLine_48 : decode cX1_readLine 48 = .ok (.ifCond .eq 4, 3) := by decide +kernel
theorem dX1_readLine_51 : decode cX1_readLine 51 = .ok (.return_, 1) := by decide +kernel
theorem dX1_readLine_52 : decode cX1_readLine 52 = .ok (.aload_n 0, 1) := by decide +kernel
theorem dX1_readLine_53 : decode cX1_readLine 53 = .ok (.getfield 11, 3) := by decide +kernel
theorem dX1_readLine_56 : decode cX1_readLine 56 = .ok (.iload_n 2, 1) := by decide +kernel
theorem dX1_readLine_57 : decode cX1_readLine 57 = .ok (.iload_n 3, 1) := by decide +kernel
theorem dX1_readLine_58 : decode cX1_readLine 58 = .ok (.iastore, 1) := by decide +kernel
theorem dX1_readLine_59 : decode cX1_readLine 59 = .ok (.aload_n 0, 1) := by decide +kernel
theorem dX1_readLine_60 : decode cX1_readLine 60 = .ok (.dup, 1) := by decide +kernel
theorem dX1_readLine_61 : decode cX1_readLine 61 = .ok (.getfield 26, 3) := by decide +kernel
theorem dX1_readLine_64 : decode cX1_readLine 64 = .ok (.iconst 1, 1) := by decide +kernel
theorem dX1_readLine_65 : decode cX1_readLine 65 = .ok (.iload_n 2, 1) := by decide +kernel
theorem dX1_readLine_66 : decode cX1_readLine 66 = .ok (.ishl, 1) := by decide +kernel
theorem dX1_readLine_67 : decode cX1_readLine 67 = .ok (.ior, 1) := by decide +kernel
theorem dX1_readLine_68 : decode cX1_readLine 68 = .ok (.putfield 26, 3) := by decide +kernel
theorem dX1_readLine_71 : decode cX1_readLine 71 = .ok (.aload_n 0, 1) := by decide +kernel
theorem dX1_readLine_72 : decode cX1_readLine 72 = .ok (.aload_n 1, 1) := by decide +kernel
theorem dX1_readLine_73 : decode cX1_readLine 73 = .ok (.invokevirtual 38, 3) := by decide +kernel
theorem dX1_readLine_76 : decode cX1_readLine 76 = .ok (.aload_n 0, 1) := by decide +kernel
theorem dX1_readLine_77 : decode cX1_readLine 77 = .ok (.getfield 30, 3) := by decide +kernel
theorem dX1_readLine_80 : decode cX1_readLine 80 = .ok (.ifCond .ne 16, 3) := by decide +kernel
theorem dX1_readLine_83 : decode cX1_readLine 83 = .ok (.aload_n 0, 1) := by decide +kernel
theorem dX1_readLine_84 : decode cX1_readLine 84 = .ok (.getfield 42, 3) := by decide +kernel
theorem dX1_readLine_87 : decode cX1_readLine 87 = .ok (.iconst 3, 1) := by decide +kernel
theorem dX1_readLine_88 : decode cX1_readLine 88 = .ok (.if_icmp .eq 8, 3) := by decide +kernel
theorem dX1_readLine_91 : decode cX1_readLine 91 = .ok (.aload_n 0, 1) := by decide +kernel
theorem dX1_readLine_92 : decode cX1_readLine 92 = .ok (.iconst 2, 1) := by decide +kernel
theorem dX1_readLine_93 : decode cX1_readLine 93 = .ok (.putfield 30, 3) := by decide +kernel
theorem dX1_readLine_96 : decode cX1_readLine 96 = .ok (.return_, 1) := by decide +kernel
theorem dX1_readSlot_0 : decode cX1_readSlot 0 = .ok (.aload_n 0, 1) := by decide +kernel
theorem dX1_readSlot_1 : decode cX1_readSlot 1 = .ok (.getfield 62, 3) := by decide +kernel
theorem dX1_readSlot_4 : decode cX1_readSlot 4 = .ok (.iconst 5, 1) := by decide +kernel
theorem dX1_readSlot_5 : decode cX1_readSlot 5 = .ok (.iadd, 1) := by decide +kernel
theorem dX1_readSlot_6 : decode cX1_readSlot 6 = .ok (.istore_n 2, 1) := by decide +kernel
theorem dX1_readSlot_7 : decode cX1_readSlot 7 = .ok (.aload_n 0, 1) := by decide +kernel
theorem dX1_readSlot_8 : decode cX1_readSlot 8 = .ok (.getfield 62, 3) := by decide +kernel
theorem dX1_readSlot_11 : decode cX1_readSlot 11 = .ok (.ifCond .ne 14, 3) := by decide +kernel
theorem dX1_readSlot_14 : decode cX1_readSlot 14 = .ok (.aload_n 0, 1) := by decide +kernel
theorem dX1_readSlot_15 : decode cX1_readSlot 15 = .ok (.aload_n 1, 1) := by decide +kernel
theorem dX1_readSlot_16 : decode cX1_readSlot 16 = .ok (.iconst 0, 1) := by decide +kernel
theorem dX1_readSlot_17 : decode cX1_readSlot 17 = .ok (.iconst 3, 1) := by decide +kernel
theorem dX1_readSlot_18 : decode cX1_readSlot 18 = .ok (.invokevirtual 58, 3) := by decide +kernel
theorem dX1_readSlot_21 : decode cX1_readSlot 21 = .ok (.istore_n 2, 1) := by decide +kernel
theorem dX1_readSlot_22 : decode cX1_readSlot 22 = .ok (.goto 21, 3) := by decide +kernel
theorem dX1_readSlot_25 : decode cX1_readSlot 25 = .ok (.aload_n 0, 1) := by decide +kernel
theorem dX1_readSlot_26 : decode cX1_readSlot 26 = .ok (.getfield 62, 3) := by decide +kernel
theorem dX1_readSlot_29 : decode cX1_readSlot 29 = .ok (.iconst 1, 1) := by decide +kernel
theorem dX1_readSlot_30 : decode cX1_readSlot 30 = .ok (.if_icmp .ne 13, 3) := by decide +kernel
theorem dX1_readSlot_33 : decode cX1_readSlot 33 = .ok (.iconst 4, 1) := by decide +kernel
theorem dX1_readSlot_34 : decode cX1_readSlot 34 = .ok (.aload_n 0, 1) := by decide +kernel
theorem dX1_readSlot_35 : decode cX1_readSlot 35 = .ok (.aload_n 1, 1) := by decide +kernel
theorem dX1_readSlot_36 : decode cX1_readSlot 36 = .ok (.iconst 0, 1) := by decide +kernel
theorem dX1_readSlot_37 : decode cX1_readSlot 37 = .ok (.iconst 2, 1) := by decide +kernel
theorem dX1_readSlot_38 : decode cX1_readSlot 38 = .ok (.invokevirtual 58, 3) := by decide +kernel
theorem dX1_readSlot_41 : decode cX1_readSlot 41 = .ok (.iadd, 1) := by decide +kernel
theorem dX1_readSlot_42 : decode cX1_readSlot 42 = .ok (.istore_n 2, 1) := by decide +kernel
theorem dX1_readSlot_43 : decode cX1_readSlot 43 = .ok (.aload_n 0, 1) := by decide +kernel
theorem dX1_readSlot_44 : decode cX1_readSlot 44 = .ok (.getfield 30, 3) := by decide +kernel
theorem dX1_readSlot_47 : decode cX1_readSlot 47 = .ok (.ifCond .ne 19, 3) := by decide +kernel
theorem dX1_readSlot_50 : decode cX1_readSlot 50 = .ok (.aload_n 0, 1) := by decide +kernel
theorem dX1_readSlot_51 : decode cX1_readSlot 51 = .ok (.getfield 26, 3) := by decide +kernel
theorem dX1_readSlot_54 : decode cX1_readSlot 54 = .ok (.iconst 1, 1) := by decide +kernel
theorem dX1_readSlot_55 : decode cX1_readSlot 55 = .ok (.iload_n 2, 1) := by decide +kernel
theorem dX1_readSlot_56 : decode cX1_readSlot 56 = .ok (.ishl, 1) := by decide +kernel
theorem dX1_readSlot_57 : decode cX1_readSlot 57 = .ok (.iand, 1) := by decide +kernel
theorem dX1_readSlot_58 : decode cX1_readSlot 58 = .ok (.ifCond .eq 8, 3) := by decide +kernel
theorem dX1_readSlot_61 : decode cX1_readSlot 61 = .ok (.aload_n 0, 1) := by decide +kernel
theorem dX1_readSlot_62 : decode cX1_readSlot 62 = .ok (.iconst 4, 1) := by decide +kernel
theorem dX1_readSlot_63 : decode cX1_readSlot 63 = .ok (.putfield 30, 3) := by decide +kernel
theorem dX1_readSlot_66 : decode cX1_readSlot 66 = .ok (.iload_n 2, 1) := by decide +kernel
theorem dX1_readSlot_67 : decode cX1_readSlot 67 = .ok (.ireturn, 1) := by decide +kernel
theorem dX1_readNumber_0 : decode cX1_readNumber 0 = .ok (.aload_n 0, 1) := by decide +kernel
theorem dX1_readNumber_1 : decode cX1_readNumber 1 = .ok (.aload_n 1, 1) := by decide +kernel
theorem dX1_readNumber_2 : decode cX1_readNumber 2 = .ok (.invokevirtual 38, 3) := by decide +kernel
theorem dX1_readNumber_5 : decode cX1_readNumber 5 = .ok (.aload_n 0, 1) := by decide +kernel
theorem dX1_readNumber_6 : decode cX1_readNumber 6 = .ok (.getfield 30, 3) := by decide +kernel
theorem dX1_readNumber_9 : decode cX1_readNumber 9 = .ok (.ifCond .eq 5, 3) := by decide +kernel
theorem dX1_readNumber_12 : decode cX1_readNumber 12 = .ok (.iconst 0, 1) := by decide +kernel
theorem dX1_readNumber_13 : decode cX1_readNumber 13 = .ok (.ireturn, 1) := by decide +kernel
theorem dX1_readNumber_14 : decode cX1_readNumber 14 = .ok (.aload_n 0, 1) := by decide +kernel
theorem dX1_readNumber_15 : decode cX1_readNumber 15 = .ok (.getfield 42, 3) := by decide +kernel
theorem dX1_readNumber_18 : decode cX1_readNumber 18 = .ok (.iconst 2, 1) := by decide +kernel
theorem dX1_readNumber_19 : decode cX1_readNumber 19 = .ok (.if_icmp .eq 10, 3) := by decide +kernel
theorem dX1_readNumber_22 : decode cX1_readNumber 22 = .ok (.aload_n 0, 1) := by decide +kernel
theorem dX1_readNumber_23 : decode cX1_readNumber 23 = .ok (.iconst 2, 1) := by decide +kernel
theorem dX1_readNumber_24 : decode cX1_readNumber 24 = .ok (.putfield 30, 3) := by decide +kernel
theorem dX1_readNumber_27 : decode cX1_readNumber 27 = .ok (.iconst 0, 1) := by decide +kernel
theorem dX1_readNumber_28 : decode cX1_readNumber 28 = .ok (.ireturn, 1) := by decide +kernel
theorem dX1_readNumber_29 : decode cX1_readNumber 29 = .ok (.aload_n 0, 1) := by decide +kernel
theorem dX1_readNumber_30 : decode cX1_readNumber 30 = .ok (.getfield 62, 3) := by decide +kernel
theorem dX1_readNumber_33 : decode cX1_readNumber 33 = .ok (.iload_n 2, 1) := by decide +kernel
theorem dX1_readNumber_34 : decode cX1_readNumber 34 = .ok (.iload_n 3, 1) := by decide +kernel
theorem dX1_readNumber_35 : decode cX1_readNumber 35 = .ok (.invokestatic 65, 3) := by decide +kernel
theorem dX1_readNumber_38 : decode cX1_readNumber 38 = .ok (.ifCond .ne 10, 3) := by decide +kernel
theorem dX1_readNumber_41 : decode cX1_readNumber 41 = .ok (.aload_n 0, 1) := by decide +kernel
theorem dX1_readNumber_42 : decode cX1_readNumber 42 = .ok (.iconst 3, 1) := by decide +kernel
theorem dX1_readNumber_43 : decode cX1_readNumber 43 = .ok (.putfield 30, 3) := by decide +kernel
theorem dX1_readNumber_46 : decode cX1_readNumber 46 = .ok (.iconst 0, 1) := by decide +kernel
theorem dX1_readNumber_47 : decode cX1_readNumber 47 = .ok (.ireturn, 1) := by decide +kernel
theorem dX1_readNumber_48 : decode cX1_readNumber 48 = .ok (.aload_n 0, 1) := by decide +kernel
theorem dX1_readNumber_49 : decode cX1_readNumber 49 = .ok (.getfield 62, 3) := by decide +kernel
theorem dX1_readNumber_52 : decode cX1_readNumber 52 = .ok (.ireturn, 1) := by decide +kernel
theorem dX1_readToken_0 : decode cX1_readToken 0 = .ok (.aload_n 0, 1) := by decide +kernel
theorem dX1_readToken_1 : decode cX1_readToken 1 = .ok (.getfield 33, 3) := by decide +kernel
theorem dX1_readToken_4 : decode cX1_readToken 4 = .ok (.aload_n 1, 1) := by decide +kernel
theorem dX1_readToken_5 : decode cX1_readToken 5 = .ok (.getfield 69, 3) := by decide +kernel
theorem dX1_readToken_8 : decode cX1_readToken 8 = .ok (.if_icmp .ge 30, 3) := by decide +kernel
theorem dX1_readToken_11 : decode cX1_readToken 11 = .ok (.aload_n 1, 1) := by decide +kernel
theorem dX1_readToken_12 : decode cX1_readToken 12 = .ok (.getfield 72, 3) := by decide +kernel
theorem dX1_readToken_15 : decode cX1_readToken 15 = .ok (.aload_n 0, 1) := by decide +kernel
theorem dX1_readToken_16 : decode cX1_readToken 16 = .ok (.getfield 33, 3) := by decide +kernel
theorem dX1_readToken_19 : decode cX1_readToken 19 = .ok (.iaload, 1) := by decide +kernel
theorem dX1_readToken_20 : decode cX1_readToken 20 = .ok (.bipush 32, 2) := by decide +kernel
theorem dX1_readToken_22 : decode cX1_readToken 22 = .ok (.if_icmp .ne 16, 3) := by decide +kernel
theorem dX1_readToken_25 : decode cX1_readToken 25 = .ok (.aload_n 0, 1) := by decide +kernel
theorem dX1_readToken_26 : decode cX1_readToken 26 = .ok (.dup, 1) := by decide +kernel
theorem dX1_readToken_27 : decode cX1_readToken 27 = .ok (.getfield 33, 3) := by decide +kernel
theorem dX1_readToken_30 : decode cX1_readToken 30 = .ok (.iconst 1, 1) := by decide +kernel
theorem dX1_readToken_31 : decode cX1_readToken 31 = .ok (.iadd, 1) := by decide +kernel
theorem dX1_readToken_32 : decode cX1_readToken 32 = .ok (.putfield 33, 3) := by decide +kernel
theorem dX1_readToken_35 : decode cX1_readToken 35 = .ok (.goto (-35), 3) := by decide +kernel
theorem dX1_readToken_38 : decode cX1_readToken 38 = .ok (.aload_n 0, 1) := by decide +kernel
theorem dX1_readToken_39 : decode cX1_readToken 39 = .ok (.aload_n 0, 1) := by decide +kernel
theorem dX1_readToken_40 : decode cX1_readToken 40 = .ok (.getfield 33, 3) := by decide +kernel
theorem dX1_readToken_43 : decode cX1_readToken 43 = .ok (.putfield 75, 3) := by decide +kernel
theorem dX1_readToken_46 : decode cX1_readToken 46 = .ok (.aload_n 0, 1) := by decide +kernel
theorem dX1_readToken_47 : decode cX1_readToken 47 = .ok (.getfield 33, 3) := by decide +kernel
theorem dX1_readToken_50 : decode cX1_readToken 50 = .ok (.aload_n 1, 1) := by decide +kernel
theorem dX1_readToken_51 : decode cX1_readToken 51 = .ok (.getfield 69, 3) := by decide +kernel
theorem dX1_readToken_54 : decode cX1_readToken 54 = .ok (.if_icmp .lt 11, 3) := by decide +kernel
theorem dX1_readToken_57 : decode cX1_readToken 57 = .ok (.aload_n 0, 1) := by decide +kernel
theorem dX1_readToken_58 : decode cX1_readToken 58 = .ok (.iconst 0, 1) := by decide +kernel
theorem dX1_readToken_59 : decode cX1_readToken 59 = .ok (.putfield 42, 3) := by decide +kernel
theorem dX1_readToken_62 : decode cX1_readToken 62 = .ok (.goto 86, 3) := by decide +kernel
theorem dX1_readToken_65 : decode cX1_readToken 65 = .ok (.aload_n 1, 1) := by decide +kernel
theorem dX1_readToken_66 : decode cX1_readToken 66 = .ok (.getfield 72, 3) := by decide +kernel
theorem dX1_readToken_69 : decode cX1_readToken 69 = .ok (.aload_n 0, 1) := by decide +kernel
theorem dX1_readToken_70 : decode cX1_readToken 70 = .ok (.getfield 33, 3) := by decide +kernel
theorem dX1_readToken_73 : decode cX1_readToken 73 = .ok (.iaload, 1) := by decide +kernel
theorem dX1_readToken_74 : decode cX1_readToken 74 = .ok (.invokestatic 78, 3) := by decide +kernel
theorem dX1_readToken_77 : decode cX1_readToken 77 = .ok (.ifCond .eq 11, 3) := by decide +kernel
theorem dX1_readToken_80 : decode cX1_readToken 80 = .ok (.aload_n 0, 1) := by decide +kernel
theorem dX1_readToken_81 : decode cX1_readToken 81 = .ok (.aload_n 1, 1) := by decide +kernel
theorem dX1_readToken_82 : decode cX1_readToken 82 = .ok (.invokevirtual 82, 3) := by decide +kernel
theorem dX1_readToken_85 : decode cX1_readToken 85 = .ok (.goto 63, 3) := by decide +kernel
theorem dX1_readToken_88 : decode cX1_readToken 88 = .ok (.aload_n 1, 1) := by decide +kernel
theorem dX1_readToken_89 : decode cX1_readToken 89 = .ok (.getfield 72, 3) := by decide +kernel
theorem dX1_readToken_92 : decode cX1_readToken 92 = .ok (.aload_n 0, 1) := by decide +kernel
theorem dX1_readToken_93 : decode cX1_readToken 93 = .ok (.getfield 33, 3) := by decide +kernel
theorem dX1_readToken_96 : decode cX1_readToken 96 = .ok (.iaload, 1) := by decide +kernel
theorem dX1_readToken_97 : decode cX1_readToken 97 = .ok (.invokestatic 85, 3) := by decide +kernel
theorem dX1_readToken_100 : decode cX1_readToken 100 = .ok (.ifCond .eq 11, 3) := by decide +kernel
theorem dX1_readToken_103 : decode cX1_readToken 103 = .ok (.aload_n 0, 1) := by decide +kernel
theorem dX1_readToken_104 : decode cX1_readToken 104 = .ok (.aload_n 1, 1) := by decide +kernel
theorem dX1_readToken_105 : decode cX1_readToken 105 = .ok (.invokevirtual 88, 3) := by decide +kernel
theorem dX1_readToken_108 : decode cX1_readToken 108 = .ok (.goto 40, 3) := by decide +kernel
theorem dX1_readToken_111 : decode cX1_readToken 111 = .ok (.aload_n 1, 1) := by decide +kernel
theorem dX1_readToken_112 : decode cX1_readToken 112 = .ok (.getfield 72, 3) := by decide +kernel
theorem dX1_readToken_115 : decode cX1_readToken 115 = .ok (.aload_n 0, 1) := by decide +kernel
theorem dX1_readToken_116 : decode cX1_readToken 116 = .ok (.getfield 33, 3) := by decide +kernel
theorem dX1_readToken_119 : decode cX1_readToken 119 = .ok (.iaload, 1) := by decide +kernel
theorem dX1_readToken_120 : decode cX1_readToken 120 = .ok (.bipush 59, 2) := by decide +kernel
theorem dX1_readToken_122 : decode cX1_readToken 122 = .ok (.if_icmp .ne 21, 3) := by decide +kernel
theorem dX1_readToken_125 : decode cX1_readToken 125 = .ok (.aload_n 0, 1) := by decide +kernel
theorem dX1_readToken_126 : decode cX1_readToken 126 = .ok (.iconst 3, 1) := by decide +kernel
theorem dX1_readToken_127 : decode cX1_readToken 127 = .ok (.putfield 42, 3) := by decide +kernel
theorem dX1_readToken_130 : decode cX1_readToken 130 = .ok (.aload_n 0, 1) := by decide +kernel
theorem dX1_readToken_131 : decode cX1_readToken 131 = .ok (.dup, 1) := by decide +kernel
theorem dX1_readToken_132 : decode cX1_readToken 132 = .ok (.getfield 33, 3) := by decide +kernel
theorem dX1_readToken_135 : decode cX1_readToken 135 = .ok (.iconst 1, 1) := by decide +kernel
theorem dX1_readToken_136 : decode cX1_readToken 136 = .ok (.iadd, 1) := by decide +kernel
theorem dX1_readToken_137 : decode cX1_readToken 137 = .ok (.putfield 33, 3) := by decide +kernel
theorem dX1_readToken_140 : decode cX1_readToken 140 = .ok (.goto 8, 3) := by decide +kernel
theorem dX1_readToken_143 : decode cX1_readToken 143 = .ok (.aload_n 0, 1) := by decide +kernel
theorem dX1_readToken_144 : decode cX1_readToken 144 = .ok (.iconst 1, 1) := by decide +kernel
theorem dX1_readToken_145 : decode cX1_readToken 145 = .ok (.putfield 30, 3) := by decide +kernel
theorem dX1_readToken_148 : decode cX1_readToken 148 = .ok (.return_, 1) := by decide +kernel
theorem dX1_takeName_0 : decode cX1_takeName 0 = .ok (.aload_n 0, 1) := by decide +kernel
theorem dX1_takeName_1 : decode cX1_takeName 1 = .ok (.iconst 1, 1) := by decide +kernel
theorem dX1_takeName_2 : decode cX1_takeName 2 = .ok (.putfield 42, 3) := by decide +kernel
theorem dX1_takeName_5 : decode cX1_takeName 5 = .ok (.aload_n 0, 1) := by decide +kernel
theorem dX1_takeName_6 : decode cX1_takeName 6 = .ok (.getfield 33, 3) := by decide +kernel
theorem dX1_takeName_9 : decode cX1_takeName 9 = .ok (.aload_n 1, 1) := by decide +kernel
theorem dX1_takeName_10 : decode cX1_takeName 10 = .ok (.getfield 69, 3) := by decide +kernel
theorem dX1_takeName_13 : decode cX1_takeName 13 = .ok (.if_icmp .ge 31, 3) := by decide +kernel
theorem dX1_takeName_16 : decode cX1_takeName 16 = .ok (.aload_n 1, 1) := by decide +kernel
theorem dX1_takeName_17 : decode cX1_takeName 17 = .ok (.getfield 72, 3) := by decide +kernel
theorem dX1_takeName_20 : decode cX1_takeName 20 = .ok (.aload_n 0, 1) := by decide +kernel
theorem dX1_takeName_21 : decode cX1_takeName 21 = .ok (.getfield 33, 3) := by decide +kernel
theorem dX1_takeName_24 : decode cX1_takeName 24 = .ok (.iaload, 1) := by decide +kernel
theorem dX1_takeName_25 : decode cX1_takeName 25 = .ok (.invokestatic 78, 3) := by decide +kernel
theorem dX1_takeName_28 : decode cX1_takeName 28 = .ok (.ifCond .eq 16, 3) := by decide +kernel
theorem dX1_takeName_31 : decode cX1_takeName 31 = .ok (.aload_n 0, 1) := by decide +kernel
theorem dX1_takeName_32 : decode cX1_takeName 32 = .ok (.dup, 1) := by decide +kernel
theorem dX1_takeName_33 : decode cX1_takeName 33 = .ok (.getfield 33, 3) := by decide +kernel
theorem dX1_takeName_36 : decode cX1_takeName 36 = .ok (.iconst 1, 1) := by decide +kernel
theorem dX1_takeName_37 : decode cX1_takeName 37 = .ok (.iadd, 1) := by decide +kernel
theorem dX1_takeName_38 : decode cX1_takeName 38 = .ok (.putfield 33, 3) := by decide +kernel
theorem dX1_takeName_41 : decode cX1_takeName 41 = .ok (.goto (-36), 3) := by decide +kernel
theorem dX1_takeName_44 : decode cX1_takeName 44 = .ok (.aload_n 0, 1) := by decide +kernel
theorem dX1_takeName_45 : decode cX1_takeName 45 = .ok (.iconst 0, 1) := by decide +kernel
theorem dX1_takeName_46 : decode cX1_takeName 46 = .ok (.putfield 62, 3) := by decide +kernel
theorem dX1_takeName_49 : decode cX1_takeName 49 = .ok (.aload_n 0, 1) := by decide +kernel
theorem dX1_takeName_50 : decode cX1_takeName 50 = .ok (.getfield 62, 3) := by decide +kernel
theorem dX1_takeName_53 : decode cX1_takeName 53 = .ok (.bipush 13, 2) := by decide +kernel
theorem dX1_takeName_55 : decode cX1_takeName 55 = .ok (.if_icmp .ge 28, 3) := by decide +kernel
theorem dX1_takeName_58 : decode cX1_takeName 58 = .ok (.aload_n 0, 1) := by decide +kernel
theorem dX1_takeName_59 : decode cX1_takeName 59 = .ok (.aload_n 1, 1) := by decide +kernel
theorem dX1_takeName_60 : decode cX1_takeName 60 = .ok (.aload_n 0, 1) := by decide +kernel
theorem dX1_takeName_61 : decode cX1_takeName 61 = .ok (.getfield 62, 3) := by decide +kernel
theorem dX1_takeName_64 : decode cX1_takeName 64 = .ok (.invokevirtual 91, 3) := by decide +kernel
theorem dX1_takeName_67 : decode cX1_takeName 67 = .ok (.ifCond .ne 16, 3) := by decide +kernel
theorem dX1_takeName_70 : decode cX1_takeName 70 = .ok (.aload_n 0, 1) := by decide +kernel
theorem dX1_takeName_71 : decode cX1_takeName 71 = .ok (.dup, 1) := by decide +kernel
theorem dX1_takeName_72 : decode cX1_takeName 72 = .ok (.getfield 62, 3) := by decide +kernel
theorem dX1_takeName_75 : decode cX1_takeName 75 = .ok (.iconst 1, 1) := by decide +kernel
theorem dX1_takeName_76 : decode cX1_takeName 76 = .ok (.iadd, 1) := by decide +kernel
theorem dX1_takeName_77 : decode cX1_takeName 77 = .ok (.putfield 62, 3) := by decide +kernel
theorem dX1_takeName_80 : decode cX1_takeName 80 = .ok (.goto (-31), 3) := by decide +kernel
theorem dX1_takeName_83 : decode cX1_takeName 83 = .ok (.aload_n 0, 1) := by decide +kernel
theorem dX1_takeName_84 : decode cX1_takeName 84 = .ok (.getfield 62, 3) := by decide +kernel
theorem dX1_takeName_87 : decode cX1_takeName 87 = .ok (.bipush 13, 2) := by decide +kernel
theorem dX1_takeName_89 : decode cX1_takeName 89 = .ok (.if_icmp .ne 8, 3) := by decide +kernel
theorem dX1_takeName_92 : decode cX1_takeName 92 = .ok (.aload_n 0, 1) := by decide +kernel
theorem dX1_takeName_93 : decode cX1_takeName 93 = .ok (.iconst 1, 1) := by decide +kernel
theorem dX1_takeName_94 : decode cX1_takeName 94 = .ok (.putfield 30, 3) := by decide +kernel
theorem dX1_takeName_97 : decode cX1_takeName 97 = .ok (.return_, 1) := by decide +kernel
theorem dX1_isName_0 : decode cX1_isName 0 = .ok (.aload_n 0, 1) := by decide +kernel
theorem dX1_isName_1 : decode cX1_isName 1 = .ok (.getfield 33, 3) := by decide +kernel
theorem dX1_isName_4 : decode cX1_isName 4 = .ok (.aload_n 0, 1) := by decide +kernel
theorem dX1_isName_5 : decode cX1_isName 5 = .ok (.getfield 75, 3) := by decide +kernel
theorem dX1_isName_8 : decode cX1_isName 8 = .ok (.isub, 1) := by decide +kernel
theorem dX1_isName_9 : decode cX1_isName 9 = .ok (.bipush 6, 2) := by decide +kernel
theorem dX1_isName_11 : decode cX1_isName 11 = .ok (.if_icmp .le 5, 3) := by decide +kernel
theorem dX1_isName_14 : decode cX1_isName 14 = .ok (.iconst 0, 1) := by decide +kernel
theorem dX1_isName_15 : decode cX1_isName 15 = .ok (.ireturn, 1) := by decide +kernel
theorem dX1_isName_16 : decode cX1_isName 16 = .ok (.iconst 0, 1) := by decide +kernel
theorem dX1_isName_17 : decode cX1_isName 17 = .ok (.istore_n 3, 1) := by decide +kernel
theorem dX1_isName_18 : decode cX1_isName 18 = .ok (.iload_n 3, 1) := by decide +kernel
theorem dX1_isName_19 : decode cX1_isName 19 = .ok (.bipush 6, 2) := by decide +kernel
theorem dX1_isName_21 : decode cX1_isName 21 = .ok (.if_icmp .ge 58, 3) := by decide +kernel
theorem dX1_isName_24 : decode cX1_isName 24 = .ok (.aload_n 0, 1) := by decide +kernel
theorem dX1_isName_25 : decode cX1_isName 25 = .ok (.getfield 75, 3) := by decide +kernel
theorem dX1_isName_28 : decode cX1_isName 28 = .ok (.iload_n 3, 1) := by decide +kernel
theorem dX1_isName_29 : decode cX1_isName 29 = .ok (.iadd, 1) := by decide +kernel
theorem dX1_isName_30 : decode cX1_isName 30 = .ok (.aload_n 0, 1) := by decide +kernel
theorem dX1_isName_31 : decode cX1_isName 31 = .ok (.getfield 33, 3) := by decide +kernel
theorem dX1_isName_34 : decode cX1_isName 34 = .ok (.if_icmp .ge 17, 3) := by decide +kernel
theorem dX1_isName_37 : decode cX1_isName 37 = .ok (.aload_n 1, 1) := by decide +kernel
theorem dX1_isName_38 : decode cX1_isName 38 = .ok (.getfield 72, 3) := by decide +kernel
theorem dX1_isName_41 : decode cX1_isName 41 = .ok (.aload_n 0, 1) := by decide +kernel
theorem dX1_isName_42 : decode cX1_isName 42 = .ok (.getfield 75, 3) := by decide +kernel
theorem dX1_isName_45 : decode cX1_isName 45 = .ok (.iload_n 3, 1) := by decide +kernel
theorem dX1_isName_46 : decode cX1_isName 46 = .ok (.iadd, 1) := by decide +kernel
theorem dX1_isName_47 : decode cX1_isName 47 = .ok (.iaload, 1) := by decide +kernel
theorem dX1_isName_48 : decode cX1_isName 48 = .ok (.goto 5, 3) := by decide +kernel
theorem dX1_isName_51 : decode cX1_isName 51 = .ok (.bipush 32, 2) := by decide +kernel
theorem dX1_isName_53 : decode cX1_isName 53 = .ok (.istore 4, 2) := by decide +kernel
theorem dX1_isName_55 : decode cX1_isName 55 = .ok (.iload 4, 2) := by decide +kernel
theorem dX1_isName_57 : decode cX1_isName 57 = .ok (.ldc 95, 2) := by decide +kernel
theorem dX1_isName_59 : decode cX1_isName 59 = .ok (.bipush 6, 2) := by decide +kernel
theorem dX1_isName_61 : decode cX1_isName 61 = .ok (.iload_n 2, 1) := by decide +kernel
theorem dX1_isName_62 : decode cX1_isName 62 = .ok (.imul, 1) := by decide +kernel
theorem dX1_isName_63 : decode cX1_isName 63 = .ok (.iload_n 3, 1) := by decide +kernel
theorem dX1_isName_64 : decode cX1_isName 64 = .ok (.iadd, 1) := by decide +kernel
theorem dX1_isName_65 : decode cX1_isName 65 = .ok (.invokevirtual 97, 3) := by decide +kernel
theorem dX1_isName_68 : decode cX1_isName 68 = .ok (.if_icmp .eq 5, 3) := by decide +kernel
theorem dX1_isName_71 : decode cX1_isName 71 = .ok (.iconst 0, 1) := by decide +kernel
theorem dX1_isName_72 : decode cX1_isName 72 = .ok (.ireturn, 1) := by decide +kernel
theorem dX1_isName_73 : decode cX1_isName 73 = .ok (.iinc 3 1, 3) := by decide +kernel
theorem dX1_isName_76 : decode cX1_isName 76 = .ok (.goto (-58), 3) := by decide +kernel
theorem dX1_isName_79 : decode cX1_isName 79 = .ok (.iconst 1, 1) := by decide +kernel
theorem dX1_isName_80 : decode cX1_isName 80 = .ok (.ireturn, 1) := by decide +kernel
theorem dX1_takeNumber_0 : decode cX1_takeNumber 0 = .ok (.aload_n 0, 1) := by decide +kernel
theorem dX1_takeNumber_1 : decode cX1_takeNumber 1 = .ok (.iconst 2, 1) := by decide +kernel
theorem dX1_takeNumber_2 : decode cX1_takeNumber 2 = .ok (.putfield 42, 3) := by decide +kernel
theorem dX1_takeNumber_5 : decode cX1_takeNumber 5 = .ok (.aload_n 0, 1) := by decide +kernel
theorem dX1_takeNumber_6 : decode cX1_takeNumber 6 = .ok (.iconst 0, 1) := by decide +kernel
theorem dX1_takeNumber_7 : decode cX1_takeNumber 7 = .ok (.putfield 62, 3) := by decide +kernel
theorem dX1_takeNumber_10 : decode cX1_takeNumber 10 = .ok (.aload_n 0, 1) := by decide +kernel
theorem dX1_takeNumber_11 : decode cX1_takeNumber 11 = .ok (.getfield 33, 3) := by decide +kernel
theorem dX1_takeNumber_14 : decode cX1_takeNumber 14 = .ok (.aload_n 1, 1) := by decide +kernel
theorem dX1_takeNumber_15 : decode cX1_takeNumber 15 = .ok (.getfield 69, 3) := by decide +kernel
theorem dX1_takeNumber_18 : decode cX1_takeNumber 18 = .ok (.if_icmp .ge 55, 3) := by decide +kernel
theorem dX1_takeNumber_21 : decode cX1_takeNumber 21 = .ok (.aload_n 1, 1) := by decide +kernel
theorem dX1_takeNumber_22 : decode cX1_takeNumber 22 = .ok (.getfield 72, 3) := by decide +kernel
theorem dX1_takeNumber_25 : decode cX1_takeNumber 25 = .ok (.aload_n 0, 1) := by decide +kernel
theorem dX1_takeNumber_26 : decode cX1_takeNumber 26 = .ok (.getfield 33, 3) := by decide +kernel
theorem dX1_takeNumber_29 : decode cX1_takeNumber 29 = .ok (.iaload, 1) := by decide +kernel
theorem dX1_takeNumber_30 : decode cX1_takeNumber 30 = .ok (.invokestatic 85, 3) := by decide +kernel
theorem dX1_takeNumber_33 : decode cX1_takeNumber 33 = .ok (.ifCond .eq 40, 3) := by decide +kernel
theorem dX1_takeNumber_36 : decode cX1_takeNumber 36 = .ok (.aload_n 0, 1) := by decide +kernel
theorem dX1_takeNumber_37 : decode cX1_takeNumber 37 = .ok (.aload_n 0, 1) := by decide +kernel
theorem dX1_takeNumber_38 : decode cX1_takeNumber 38 = .ok (.getfield 62, 3) := by decide +kernel
theorem dX1_takeNumber_41 : decode cX1_takeNumber 41 = .ok (.bipush 10, 2) := by decide +kernel
theorem dX1_takeNumber_43 : decode cX1_takeNumber 43 = .ok (.imul, 1) := by decide +kernel
theorem dX1_takeNumber_44 : decode cX1_takeNumber 44 = .ok (.aload_n 1, 1) := by decide +kernel
theorem dX1_takeNumber_45 : decode cX1_takeNumber 45 = .ok (.getfield 72, 3) := by decide +kernel
theorem dX1_takeNumber_48 : decode cX1_takeNumber 48 = .ok (.aload_n 0, 1) := by decide +kernel
theorem dX1_takeNumber_49 : decode cX1_takeNumber 49 = .ok (.getfield 33, 3) := by decide +kernel
theorem dX1_takeNumber_52 : decode cX1_takeNumber 52 = .ok (.iaload, 1) := by decide +kernel
theorem dX1_takeNumber_53 : decode cX1_takeNumber 53 = .ok (.iadd, 1) := by decide +kernel
theorem dX1_takeNumber_54 : decode cX1_takeNumber 54 = .ok (.bipush 48, 2) := by decide +kernel
theorem dX1_takeNumber_56 : decode cX1_takeNumber 56 = .ok (.isub, 1) := by decide +kernel
theorem dX1_takeNumber_57 : decode cX1_takeNumber 57 = .ok (.putfield 62, 3) := by decide +kernel
theorem dX1_takeNumber_60 : decode cX1_takeNumber 60 = .ok (.aload_n 0, 1) := by decide +kernel
theorem dX1_takeNumber_61 : decode cX1_takeNumber 61 = .ok (.dup, 1) := by decide +kernel
theorem dX1_takeNumber_62 : decode cX1_takeNumber 62 = .ok (.getfield 33, 3) := by decide +kernel
theorem dX1_takeNumber_65 : decode cX1_takeNumber 65 = .ok (.iconst 1, 1) := by decide +kernel
theorem dX1_takeNumber_66 : decode cX1_takeNumber 66 = .ok (.iadd, 1) := by decide +kernel
theorem dX1_takeNumber_67 : decode cX1_takeNumber 67 = .ok (.putfield 33, 3) := by decide +kernel
theorem dX1_takeNumber_70 : decode cX1_takeNumber 70 = .ok (.goto (-60), 3) := by decide +kernel
theorem dX1_takeNumber_73 : decode cX1_takeNumber 73 = .ok (.aload_n 0, 1) := by decide +kernel
theorem dX1_takeNumber_74 : decode cX1_takeNumber 74 = .ok (.getfield 33, 3) := by decide +kernel
theorem dX1_takeNumber_77 : decode cX1_takeNumber 77 = .ok (.aload_n 0, 1) := by decide +kernel
theorem dX1_takeNumber_78 : decode cX1_takeNumber 78 = .ok (.getfield 75, 3) := by decide +kernel
theorem dX1_takeNumber_81 : decode cX1_takeNumber 81 = .ok (.isub, 1) := by decide +kernel
theorem dX1_takeNumber_82 : decode cX1_takeNumber 82 = .ok (.iconst 2, 1) := by decide +kernel
theorem dX1_takeNumber_83 : decode cX1_takeNumber 83 = .ok (.if_icmp .le 8, 3) := by decide +kernel
theorem dX1_takeNumber_86 : decode cX1_takeNumber 86 = .ok (.aload_n 0, 1) := by decide +kernel
theorem dX1_takeNumber_87 : decode cX1_takeNumber 87 = .ok (.iconst 1, 1) := by decide +kernel
theorem dX1_takeNumber_88 : decode cX1_takeNumber 88 = .ok (.putfield 30, 3) := by decide +kernel
theorem dX1_takeNumber_91 : decode cX1_takeNumber 91 = .ok (.return_, 1) := by decide +kernel
theorem dX1_isLetter_0 : decode cX1_isLetter 0 = .ok (.iload_n 0, 1) := by decide +kernel
theorem dX1_isLetter_1 : decode cX1_isLetter 1 = .ok (.bipush 97, 2) := by decide +kernel
theorem dX1_isLetter_3 : decode cX1_isLetter 3 = .ok (.bipush 122, 2) := by decide +kernel
theorem dX1_isLetter_5 : decode cX1_isLetter 5 = .ok (.invokestatic 65, 3) := by decide +kernel
theorem dX1_isLetter_8 : decode cX1_isLetter 8 = .ok (.ireturn, 1) := by decide +kernel
theorem dX1_isFigure_0 : decode cX1_isFigure 0 = .ok (.iload_n 0, 1) := by decide +kernel
theorem dX1_isFigure_1 : decode cX1_isFigure 1 = .ok (.bipush 48, 2) := by decide +kernel
theorem dX1_isFigure_3 : decode cX1_isFigure 3 = .ok (.bipush 57, 2) := by decide +kernel
theorem dX1_isFigure_5 : decode cX1_isFigure 5 = .ok (.invokestatic 65, 3) := by decide +kernel
theorem dX1_isFigure_8 : decode cX1_isFigure 8 = .ok (.ireturn, 1) := by decide +kernel
theorem dX2_init_0 : decode cX2_init 0 = .ok (.aload_n 0, 1) := by decide +kernel
theorem dX2_init_1 : decode cX2_init 1 = .ok (.invokespecial 3, 3) := by decide +kernel
theorem dX2_init_4 : decode cX2_init 4 = .ok (.aload_n 0, 1) := by decide +kernel
theorem dX2_init_5 : decode cX2_init 5 = .ok (.bipush 12, 2) := by decide +kernel
theorem dX2_init_7 : decode cX2_init 7 = .ok (.newarray .int, 2) := by decide +kernel
theorem dX2_init_9 : decode cX2_init 9 = .ok (.putfield 11, 3) := by decide +kernel
theorem dX2_init_12 : decode cX2_init 12 = .ok (.aload_n 0, 1) := by decide +kernel
theorem dX2_init_13 : decode cX2_init 13 = .ok (.bipush 12, 2) := by decide +kernel
theorem dX2_init_15 : decode cX2_init 15 = .ok (.newarray .int, 2) := by decide +kernel
theorem dX2_init_17 : decode cX2_init 17 = .ok (.putfield 15, 3) := by decide +kernel
theorem dX2_init_20 : decode cX2_init 20 = .ok (.aload_n 0, 1) := by decide +kernel
theorem dX2_init_21 : decode cX2_init 21 = .ok (.bipush 12, 2) := by decide +kernel
theorem dX2_init_23 : decode cX2_init 23 = .ok (.newarray .int, 2) := by decide +kernel
theorem dX2_init_25 : decode cX2_init 25 = .ok (.putfield 18, 3) := by decide +kernel
theorem dX2_init_28 : decode cX2_init 28 = .ok (.return_, 1) := by decide +kernel
theorem dX2_join_0 : decode cX2_join 0 = .ok (.aload_n 0, 1) := by decide +kernel
theorem dX2_join_1 : decode cX2_join 1 = .ok (.getfield 21, 3) := by decide +kernel
theorem dX2_join_4 : decode cX2_join 4 = .ok (.bipush 12, 2) := by decide +kernel
theorem dX2_join_6 : decode cX2_join 6 = .ok (.if_icmp .lt 5, 3) := by decide +kernel
theorem dX2_join_9 : decode cX2_join 9 = .ok (.iconst 0, 1) := by decide +kernel
theorem dX2_join_10 : decode cX2_join 10 = .ok (.ireturn, 1) := by decide +kernel
theorem dX2_join_11 : decode cX2_join 11 = .ok (.aload_n 0, 1) := by decide +kernel
theorem dX2_join_12 : decode cX2_join 12 = .ok (.getfield 11, 3) := by decide +kernel
theorem dX2_join_15 : decode cX2_join 15 = .ok (.aload_n 0, 1) := by decide +kernel
theorem dX2_join_16 : decode cX2_join 16 = .ok (.getfield 21, 3) := by decide +kernel
theorem dX2_join_19 : decode cX2_join 19 = .ok (.iload_n 1, 1) := by decide +kernel
theorem dX2_join_20 : decode cX2_join 20 = .ok (.iastore, 1) := by decide +kernel
theorem dX2_join_21 : decode cX2_join 21 = .ok (.aload_n 0, 1) := by decide +kernel
theorem dX2_join_22 : decode cX2_join 22 = .ok (.dup, 1) := by decide +kernel
theorem dX2_join_23 : decode cX2_join 23 = .ok (.getfield 21, 3) := by decide +kernel
theorem dX2_join_26 : decode cX2_join 26 = .ok (.iconst 1, 1) := by decide +kernel
theorem dX2_join_27 : decode cX2_join 27 = .ok (.iadd, 1) := by decide +kernel
theorem dX2_join_28 : decode cX2_join 28 = .ok (.putfield 21, 3) := by decide +kernel
theorem dX2_join_31 : decode cX2_join 31 = .ok (.iconst 1, 1) := by decide +kernel
theorem dX2_join_32 : decode cX2_join 32 = .ok (.ireturn, 1) := by decide +kernel
theorem dX2_has_0 : decode cX2_has 0 = .ok (.iload_n 1, 1) := by decide +kernel
theorem dX2_has_1 : decode cX2_has 1 = .ok (.iconst 0, 1) := by decide +kernel
theorem dX2_has_2 : decode cX2_has 2 = .ok (.aload_n 0, 1) := by decide +kernel
theorem dX2_has_3 : decode cX2_has 3 = .ok (.getfield 21, 3) := by decide +kernel
theorem dX2_has_6 : decode cX2_has 6 = .ok (.iconst 1, 1) := by decide +kernel
theorem dX2_has_7 : decode cX2_has 7 = .ok (.isub, 1) := by decide +kernel
theorem dX2_has_8 : decode cX2_has 8 = .ok (.invokestatic 25, 3) := by decide +kernel
theorem dX2_has_11 : decode cX2_has 11 = .ok (.ireturn, 1) := by decide +kernel
theorem dX2_begin_0 : decode cX2_begin 0 = .ok (.aload_n 0, 1) := by decide +kernel
theorem dX2_begin_1 : decode cX2_begin 1 = .ok (.getfield 11, 3) := by decide +kernel
theorem dX2_begin_4 : decode cX2_begin 4 = .ok (.iconst 0, 1) := by decide +kernel
theorem dX2_begin_5 : decode cX2_begin 5 = .ok (.aload_n 0, 1) := by decide +kernel
theorem dX2_begin_6 : decode cX2_begin 6 = .ok (.getfield 15, 3) := by decide +kernel
theorem dX2_begin_9 : decode cX2_begin 9 = .ok (.iconst 0, 1) := by decide +kernel
theorem dX2_begin_10 : decode cX2_begin 10 = .ok (.aload_n 0, 1) := by decide +kernel
theorem dX2_begin_11 : decode cX2_begin 11 = .ok (.getfield 21, 3) := by decide +kernel
theorem dX2_begin_14 : decode cX2_begin 14 = .ok (.invokestatic 29, 3) := by decide +kernel
theorem dX2_begin_17 : decode cX2_begin 17 = .ok (.return_, 1) := by decide +kernel
theorem dX2_keep_0 : decode cX2_keep 0 = .ok (.aload_n 0, 1) := by decide +kernel
theorem dX2_keep_1 : decode cX2_keep 1 = .ok (.getfield 15, 3) := by decide +kernel
theorem dX2_keep_4 : decode cX2_keep 4 = .ok (.iconst 0, 1) := by decide +kernel
theorem dX2_keep_5 : decode cX2_keep 5 = .ok (.aload_n 0, 1) := by decide +kernel
theorem dX2_keep_6 : decode cX2_keep 6 = .ok (.getfield 11, 3) := by decide +kernel
theorem dX2_keep_9 : decode cX2_keep 9 = .ok (.iconst 0, 1) := by decide +kernel
theorem dX2_keep_10 : decode cX2_keep 10 = .ok (.aload_n 0, 1) := by decide +kernel
theorem dX2_keep_11 : decode cX2_keep 11 = .ok (.getfield 21, 3) := by decide +kernel
theorem dX2_keep_14 : decode cX2_keep 14 = .ok (.invokestatic 29, 3) := by decide +kernel
theorem dX2_keep_17 : decode cX2_keep 17 = .ok (.return_, 1) := by decide +kernel
theorem dX2_goYear_0 : decode cX2_goYear 0 = .ok (.iconst 0, 1) := by decide +kernel
theorem dX2_goYear_1 : decode cX2_goYear 1 = .ok (.istore_n 3, 1) := by decide +kernel
theorem dX2_goYear_2 : decode cX2_goYear 2 = .ok (.iload_n 3, 1) := by decide +kernel
theorem dX2_goYear_3 : decode cX2_goYear 3 = .ok (.aload_n 0, 1) := by decide +kernel
theorem dX2_goYear_4 : decode cX2_goYear 4 = .ok (.getfield 21, 3) := by decide +kernel
theorem dX2_goYear_7 : decode cX2_goYear 7 = .ok (.if_icmp .ge 44, 3) := by decide +kernel
theorem dX2_goYear_10 : decode cX2_goYear 10 = .ok (.aload_n 0, 1) := by decide +kernel
theorem dX2_goYear_11 : decode cX2_goYear 11 = .ok (.getfield 18, 3) := by decide +kernel
theorem dX2_goYear_14 : decode cX2_goYear 14 = .ok (.iload_n 3, 1) := by decide +kernel
theorem dX2_goYear_15 : decode cX2_goYear 15 = .ok (.aload_n 0, 1) := by decide +kernel
theorem dX2_goYear_16 : decode cX2_goYear 16 = .ok (.getfield 15, 3) := by decide +kernel
theorem dX2_goYear_19 : decode cX2_goYear 19 = .ok (.iload_n 3, 1) := by decide +kernel
theorem dX2_goYear_20 : decode cX2_goYear 20 = .ok (.iaload, 1) := by decide +kernel
theorem dX2_goYear_21 : decode cX2_goYear 21 = .ok (.aload_n 0, 1) := by decide +kernel
theorem dX2_goYear_22 : decode cX2_goYear 22 = .ok (.iload_n 3, 1) := by decide +kernel
theorem dX2_goYear_23 : decode cX2_goYear 23 = .ok (.aload_n 2, 1) := by decide +kernel
theorem dX2_goYear_24 : decode cX2_goYear 24 = .ok (.getfield 35, 3) := by decide +kernel
theorem dX2_goYear_27 : decode cX2_goYear 27 = .ok (.bipush 17, 2) := by decide +kernel
theorem dX2_goYear_29 : decode cX2_goYear 29 = .ok (.iaload, 1) := by decide +kernel
theorem dX2_goYear_30 : decode cX2_goYear 30 = .ok (.invokevirtual 40, 3) := by decide +kernel
theorem dX2_goYear_33 : decode cX2_goYear 33 = .ok (.aload_n 1, 1) := by decide +kernel
theorem dX2_goYear_34 : decode cX2_goYear 34 = .ok (.aload_n 2, 1) := by decide +kernel
theorem dX2_goYear_35 : decode cX2_goYear 35 = .ok (.getfield 35, 3) := by decide +kernel
theorem dX2_goYear_38 : decode cX2_goYear 38 = .ok (.bipush 16, 2) := by decide +kernel
theorem dX2_goYear_40 : decode cX2_goYear 40 = .ok (.iaload, 1) := by decide +kernel
theorem dX2_goYear_41 : decode cX2_goYear 41 = .ok (.invokestatic 44, 3) := by decide +kernel
theorem dX2_goYear_44 : decode cX2_goYear 44 = .ok (.iastore, 1) := by decide +kernel
theorem dX2_goYear_45 : decode cX2_goYear 45 = .ok (.iinc 3 1, 3) := by decide +kernel
theorem dX2_goYear_48 : decode cX2_goYear 48 = .ok (.goto (-46), 3) := by decide +kernel
theorem dX2_goYear_51 : decode cX2_goYear 51 = .ok (.aload_n 0, 1) := by decide +kernel
theorem dX2_goYear_52 : decode cX2_goYear 52 = .ok (.getfield 18, 3) := by decide +kernel
theorem dX2_goYear_55 : decode cX2_goYear 55 = .ok (.iconst 0, 1) := by decide +kernel
theorem dX2_goYear_56 : decode cX2_goYear 56 = .ok (.aload_n 0, 1) := by decide +kernel
theorem dX2_goYear_57 : decode cX2_goYear 57 = .ok (.getfield 15, 3) := by decide +kernel
theorem dX2_goYear_60 : decode cX2_goYear 60 = .ok (.iconst 0, 1) := by decide +kernel
theorem dX2_goYear_61 : decode cX2_goYear 61 = .ok (.aload_n 0, 1) := by decide +kernel
theorem dX2_goYear_62 : decode cX2_goYear 62 = .ok (.getfield 21, 3) := by decide +kernel
theorem dX2_goYear_65 : decode cX2_goYear 65 = .ok (.invokestatic 29, 3) := by decide +kernel
theorem dX2_goYear_68 : decode cX2_goYear 68 = .ok (.return_, 1) := by decide +kernel
theorem dX2_seenBits_0 : decode cX2_seenBits 0 = .ok (.iconst 0, 1) := by decide +kernel
theorem dX2_seenBits_1 : decode cX2_seenBits 1 = .ok (.istore_n 3, 1) := by decide +kernel
theorem dX2_seenBits_2 : decode cX2_seenBits 2 = .ok (.aload_n 0, 1) := by decide +kernel
theorem dX2_seenBits_3 : decode cX2_seenBits 3 = .ok (.getfield 21, 3) := by decide +kernel
theorem dX2_seenBits_6 : decode cX2_seenBits 6 = .ok (.ifCond .le 40, 3) := by decide +kernel
theorem dX2_seenBits_9 : decode cX2_seenBits 9 = .ok (.iload_n 2, 1) := by decide +kernel
theorem dX2_seenBits_10 : decode cX2_seenBits 10 = .ok (.ineg, 1) := by decide +kernel
theorem dX2_seenBits_11 : decode cX2_seenBits 11 = .ok (.istore 4, 2) := by decide +kernel
theorem dX2_seenBits_13 : decode cX2_seenBits 13 = .ok (.iload 4, 2) := by decide +kernel
theorem dX2_seenBits_15 : decode cX2_seenBits 15 = .ok (.iload_n 2, 1) := by decide +kernel
theorem dX2_seenBits_16 : decode cX2_seenBits 16 = .ok (.if_icmp .gt 30, 3) := by decide +kernel
theorem dX2_seenBits_19 : decode cX2_seenBits 19 = .ok (.iload_n 3, 1) := by decide +kernel
theorem dX2_seenBits_20 : decode cX2_seenBits 20 = .ok (.iconst 1, 1) := by decide +kernel
theorem dX2_seenBits_21 : decode cX2_seenBits 21 = .ok (.aload_n 0, 1) := by decide +kernel
theorem dX2_seenBits_22 : decode cX2_seenBits 22 = .ok (.getfield 15, 3) := by decide +kernel
theorem dX2_seenBits_25 : decode cX2_seenBits 25 = .ok (.iload_n 1, 1) := by decide +kernel
theorem dX2_seenBits_26 : decode cX2_seenBits 26 = .ok (.iload 4, 2) := by decide +kernel
theorem dX2_seenBits_28 : decode cX2_seenBits 28 = .ok (.iadd, 1) := by decide +kernel
theorem dX2_seenBits_29 : decode cX2_seenBits 29 = .ok (.aload_n 0, 1) := by decide +kernel
theorem dX2_seenBits_30 : decode cX2_seenBits 30 = .ok (.getfield 21, 3) := by decide +kernel
theorem dX2_seenBits_33 : decode cX2_seenBits 33 = .ok (.invokestatic 48, 3) := by decide +kernel
theorem dX2_seenBits_36 : decode cX2_seenBits 36 = .ok (.iaload, 1) := by decide +kernel
theorem dX2_seenBits_37 : decode cX2_seenBits 37 = .ok (.ishl, 1) := by decide +kernel
theorem dX2_seenBits_38 : decode cX2_seenBits 38 = .ok (.ior, 1) := by decide +kernel
theorem dX2_seenBits_39 : decode cX2_seenBits 39 = .ok (.istore_n 3, 1) := by decide +kernel
theorem dX2_seenBits_40 : decode cX2_seenBits 40 = .ok (.iinc 4 1, 3) := by decide +kernel
theorem dX2_seenBits_43 : decode cX2_seenBits 43 = .ok (.goto (-30), 3) := by decide +kernel
theorem dX2_seenBits_46 : decode cX2_seenBits 46 = .ok (.iload_n 3, 1) := by decide +kernel
theorem dX2_seenBits_47 : decode cX2_seenBits 47 = .ok (.ireturn, 1) := by decide +kernel
theorem dX2_choice_0 : decode cX2_choice 0 = .ok (.iload_n 0, 1) := by decide +kernel
theorem dX2_choice_1 : decode cX2_choice 1 = .ok (.istore 4, 2) := by decide +kernel
theorem dX2_choice_3 : decode cX2_choice 3 = .ok (.aload_n 2, 1) := by decide +kernel
theorem dX2_choice_4 : decode cX2_choice 4 = .ok (.iload_n 0, 1) := by decide +kernel
theorem dX2_choice_5 : decode cX2_choice 5 = .ok (.iaload, 1) := by decide +kernel
theorem dX2_choice_6 : decode cX2_choice 6 = .ok (.iload_n 3, 1) := by decide +kernel
theorem dX2_choice_7 : decode cX2_choice 7 = .ok (.iadd, 1) := by decide +kernel
theorem dX2_choice_8 : decode cX2_choice 8 = .ok (.istore 5, 2) := by decide +kernel
theorem dX2_choice_10 : decode cX2_choice 10 = .ok (.iconst 0, 1) := by decide +kernel
theorem dX2_choice_11 : decode cX2_choice 11 = .ok (.istore 6, 2) := by decide +kernel
theorem dX2_choice_13 : decode cX2_choice 13 = .ok (.iload 6, 2) := by decide +kernel
theorem dX2_choice_15 : decode cX2_choice 15 = .ok (.bipush 6, 2) := by decide +kernel
theorem dX2_choice_17 : decode cX2_choice 17 = .ok (.if_icmp .ge 37, 3) := by decide +kernel
theorem dX2_choice_20 : decode cX2_choice 20 = .ok (.iload_n 1, 1) := by decide +kernel
theorem dX2_choice_21 : decode cX2_choice 21 = .ok (.iconst 1, 1) := by decide +kernel
theorem dX2_choice_22 : decode cX2_choice 22 = .ok (.iload 6, 2) := by decide +kernel
theorem dX2_choice_24 : decode cX2_choice 24 = .ok (.ishl, 1) := by decide +kernel
theorem dX2_choice_25 : decode cX2_choice 25 = .ok (.iand, 1) := by decide +kernel
theorem dX2_choice_26 : decode cX2_choice 26 = .ok (.ifCond .eq 22, 3) := by decide +kernel
theorem dX2_choice_29 : decode cX2_choice 29 = .ok (.aload_n 2, 1) := by decide +kernel
theorem dX2_choice_30 : decode cX2_choice 30 = .ok (.iload 6, 2) := by decide +kernel
theorem dX2_choice_32 : decode cX2_choice 32 = .ok (.iaload, 1) := by decide +kernel
theorem dX2_choice_33 : decode cX2_choice 33 = .ok (.iload 5, 2) := by decide +kernel
theorem dX2_choice_35 : decode cX2_choice 35 = .ok (.if_icmp .le 13, 3) := by decide +kernel
theorem dX2_choice_38 : decode cX2_choice 38 = .ok (.aload_n 2, 1) := by decide +kernel
theorem dX2_choice_39 : decode cX2_choice 39 = .ok (.iload 6, 2) := by decide +kernel
theorem dX2_choice_41 : decode cX2_choice 41 = .ok (.iaload, 1) := by decide +kernel
theorem dX2_choice_42 : decode cX2_choice 42 = .ok (.istore 5, 2) := by decide +kernel
theorem dX2_choice_44 : decode cX2_choice 44 = .ok (.iload 6, 2) := by decide +kernel
theorem dX2_choice_46 : decode cX2_choice 46 = .ok (.istore 4, 2) := by decide +kernel
theorem dX2_choice_48 : decode cX2_choice 48 = .ok (.iinc 6 1, 3) := by decide +kernel
theorem dX2_choice_51 : decode cX2_choice 51 = .ok (.goto (-38), 3) := by decide +kernel
theorem dX2_choice_54 : decode cX2_choice 54 = .ok (.iload 4, 2) := by decide +kernel
theorem dX2_choice_56 : decode cX2_choice 56 = .ok (.ireturn, 1) := by decide +kernel
theorem dX2_unlikeHeld_0 : decode cX2_unlikeHeld 0 = .ok (.iconst 0, 1) := by decide +kernel
theorem dX2_unlikeHeld_1 : decode cX2_unlikeHeld 1 = .ok (.istore_n 1, 1) := by decide +kernel
theorem dX2_unlikeHeld_2 : decode cX2_unlikeHeld 2 = .ok (.iconst 0, 1) := by decide +kernel
theorem dX2_unlikeHeld_3 : decode cX2_unlikeHeld 3 = .ok (.istore_n 2, 1) := by decide +kernel
theorem dX2_unlikeHeld_4 : decode cX2_unlikeHeld 4 = .ok (.iload_n 2, 1) := by decide +kernel
theorem dX2_unlikeHeld_5 : decode cX2_unlikeHeld 5 = .ok (.aload_n 0, 1) := by decide +kernel
theorem dX2_unlikeHeld_6 : decode cX2_unlikeHeld 6 = .ok (.getfield 21, 3) := by decide +kernel
theorem dX2_unlikeHeld_9 : decode cX2_unlikeHeld 9 = .ok (.if_icmp .ge 30, 3) := by decide +kernel
theorem dX2_unlikeHeld_12 : decode cX2_unlikeHeld 12 = .ok (.aload_n 0, 1) := by decide +kernel
theorem dX2_unlikeHeld_13 : decode cX2_unlikeHeld 13 = .ok (.getfield 15, 3) := by decide +kernel
theorem dX2_unlikeHeld_16 : decode cX2_unlikeHeld 16 = .ok (.iload_n 2, 1) := by decide +kernel
theorem dX2_unlikeHeld_17 : decode cX2_unlikeHeld 17 = .ok (.iaload, 1) := by decide +kernel
theorem dX2_unlikeHeld_18 : decode cX2_unlikeHeld 18 = .ok (.aload_n 0, 1) := by decide +kernel
theorem dX2_unlikeHeld_19 : decode cX2_unlikeHeld 19 = .ok (.getfield 11, 3) := by decide +kernel
theorem dX2_unlikeHeld_22 : decode cX2_unlikeHeld 22 = .ok (.iload_n 2, 1) := by decide +kernel
theorem dX2_unlikeHeld_23 : decode cX2_unlikeHeld 23 = .ok (.iaload, 1) := by decide +kernel
theorem dX2_unlikeHeld_24 : decode cX2_unlikeHeld 24 = .ok (.if_icmp .eq 9, 3) := by decide +kernel
theorem dX2_unlikeHeld_27 : decode cX2_unlikeHeld 27 = .ok (.iload_n 1, 1) := by decide +kernel
theorem dX2_unlikeHeld_28 : decode cX2_unlikeHeld 28 = .ok (.iconst 1, 1) := by decide +kernel
theorem dX2_unlikeHeld_29 : decode cX2_unlikeHeld 29 = .ok (.iload_n 2, 1) := by decide +kernel
theorem dX2_unlikeHeld_30 : decode cX2_unlikeHeld 30 = .ok (.ishl, 1) := by decide +kernel
theorem dX2_unlikeHeld_31 : decode cX2_unlikeHeld 31 = .ok (.ior, 1) := by decide +kernel
theorem dX2_unlikeHeld_32 : decode cX2_unlikeHeld 32 = .ok (.istore_n 1, 1) := by decide +kernel
theorem dX2_unlikeHeld_33 : decode cX2_unlikeHeld 33 = .ok (.iinc 2 1, 3) := by decide +kernel
theorem dX2_unlikeHeld_36 : decode cX2_unlikeHeld 36 = .ok (.goto (-32), 3) := by decide +kernel
theorem dX2_unlikeHeld_39 : decode cX2_unlikeHeld 39 = .ok (.iload_n 1, 1) := by decide +kernel
theorem dX2_unlikeHeld_40 : decode cX2_unlikeHeld 40 = .ok (.ireturn, 1) := by decide +kernel
theorem dX2_countIn_0 : decode cX2_countIn 0 = .ok (.iconst 0, 1) := by decide +kernel
theorem dX2_countIn_1 : decode cX2_countIn 1 = .ok (.istore_n 3, 1) := by decide +kernel
theorem dX2_countIn_2 : decode cX2_countIn 2 = .ok (.iconst 0, 1) := by decide +kernel
theorem dX2_countIn_3 : decode cX2_countIn 3 = .ok (.istore 4, 2) := by decide +kernel
theorem dX2_countIn_5 : decode cX2_countIn 5 = .ok (.iload 4, 2) := by decide +kernel
theorem dX2_countIn_7 : decode cX2_countIn 7 = .ok (.aload_n 0, 1) := by decide +kernel
theorem dX2_countIn_8 : decode cX2_countIn 8 = .ok (.getfield 21, 3) := by decide +kernel
theorem dX2_countIn_11 : decode cX2_countIn 11 = .ok (.if_icmp .ge 20, 3) := by decide +kernel
theorem dX2_countIn_14 : decode cX2_countIn 14 = .ok (.aload_n 1, 1) := by decide +kernel
theorem dX2_countIn_15 : decode cX2_countIn 15 = .ok (.iload 4, 2) := by decide +kernel
theorem dX2_countIn_17 : decode cX2_countIn 17 = .ok (.iaload, 1) := by decide +kernel
theorem dX2_countIn_18 : decode cX2_countIn 18 = .ok (.iload_n 2, 1) := by decide +kernel
theorem dX2_countIn_19 : decode cX2_countIn 19 = .ok (.if_icmp .ne 6, 3) := by decide +kernel
theorem dX2_countIn_22 : decode cX2_countIn 22 = .ok (.iinc 3 1, 3) := by decide +kernel
theorem dX2_countIn_25 : decode cX2_countIn 25 = .ok (.iinc 4 1, 3) := by decide +kernel
theorem dX2_countIn_28 : decode cX2_countIn 28 = .ok (.goto (-23), 3) := by decide +kernel
theorem dX2_countIn_31 : decode cX2_countIn 31 = .ok (.iload_n 3, 1) := by decide +kernel
theorem dX2_countIn_32 : decode cX2_countIn 32 = .ok (.ireturn, 1) := by decide +kernel
theorem dX2_isOfOneWay_0 : decode cX2_isOfOneWay 0 = .ok (.aload_n 0, 1) := by decide +kernel
theorem dX2_isOfOneWay_1 : decode cX2_isOfOneWay 1 = .ok (.aload_n 0, 1) := by decide +kernel
theorem dX2_isOfOneWay_2 : decode cX2_isOfOneWay 2 = .ok (.getfield 15, 3) := by decide +kernel
theorem dX2_isOfOneWay_5 : decode cX2_isOfOneWay 5 = .ok (.aload_n 0, 1) := by decide +kernel
theorem dX2_isOfOneWay_6 : decode cX2_isOfOneWay 6 = .ok (.getfield 15, 3) := by decide +kernel
theorem dX2_isOfOneWay_9 : decode cX2_isOfOneWay 9 = .ok (.iconst 0, 1) := by decide +kernel
theorem dX2_isOfOneWay_10 : decode cX2_isOfOneWay 10 = .ok (.iaload, 1) := by decide +kernel
theorem dX2_isOfOneWay_11 : decode cX2_isOfOneWay 11 = .ok (.invokevirtual 53, 3) := by decide +kernel
theorem dX2_isOfOneWay_14 : decode cX2_isOfOneWay 14 = .ok (.aload_n 0, 1) := by decide +kernel
theorem dX2_isOfOneWay_15 : decode cX2_isOfOneWay 15 = .ok (.getfield 21, 3) := by decide +kernel
theorem dX2_isOfOneWay_18 : decode cX2_isOfOneWay 18 = .ok (.if_icmp .ne 7, 3) := by decide +kernel
theorem dX2_isOfOneWay_21 : decode cX2_isOfOneWay 21 = .ok (.iconst 1, 1) := by decide +kernel
theorem dX2_isOfOneWay_22 : decode cX2_isOfOneWay 22 = .ok (.goto 4, 3) := by decide +kernel
theorem dX2_isOfOneWay_25 : decode cX2_isOfOneWay 25 = .ok (.iconst 0, 1) := by decide +kernel
theorem dX2_isOfOneWay_26 : decode cX2_isOfOneWay 26 = .ok (.ireturn, 1) := by decide +kernel
theorem dX2_heldBits_0 : decode cX2_heldBits 0 = .ok (.iconst 0, 1) := by decide +kernel
theorem dX2_heldBits_1 : decode cX2_heldBits 1 = .ok (.istore_n 1, 1) := by decide +kernel
theorem dX2_heldBits_2 : decode cX2_heldBits 2 = .ok (.iconst 0, 1) := by decide +kernel
theorem dX2_heldBits_3 : decode cX2_heldBits 3 = .ok (.istore_n 2, 1) := by decide +kernel
theorem dX2_heldBits_4 : decode cX2_heldBits 4 = .ok (.iload_n 2, 1) := by decide +kernel
theorem dX2_heldBits_5 : decode cX2_heldBits 5 = .ok (.aload_n 0, 1) := by decide +kernel
theorem dX2_heldBits_6 : decode cX2_heldBits 6 = .ok (.getfield 21, 3) := by decide +kernel
theorem dX2_heldBits_9 : decode cX2_heldBits 9 = .ok (.if_icmp .ge 20, 3) := by decide +kernel
theorem dX2_heldBits_12 : decode cX2_heldBits 12 = .ok (.iload_n 1, 1) := by decide +kernel
theorem dX2_heldBits_13 : decode cX2_heldBits 13 = .ok (.iconst 1, 1) := by decide +kernel
theorem dX2_heldBits_14 : decode cX2_heldBits 14 = .ok (.aload_n 0, 1) := by decide +kernel
theorem dX2_heldBits_15 : decode cX2_heldBits 15 = .ok (.getfield 11, 3) := by decide +kernel
theorem dX2_heldBits_18 : decode cX2_heldBits 18 = .ok (.iload_n 2, 1) := by decide +kernel
theorem dX2_heldBits_19 : decode cX2_heldBits 19 = .ok (.iaload, 1) := by decide +kernel
theorem dX2_heldBits_20 : decode cX2_heldBits 20 = .ok (.ishl, 1) := by decide +kernel
theorem dX2_heldBits_21 : decode cX2_heldBits 21 = .ok (.ior, 1) := by decide +kernel
theorem dX2_heldBits_22 : decode cX2_heldBits 22 = .ok (.istore_n 1, 1) := by decide +kernel
theorem dX2_heldBits_23 : decode cX2_heldBits 23 = .ok (.iinc 2 1, 3) := by decide +kernel
theorem dX2_heldBits_26 : decode cX2_heldBits 26 = .ok (.goto (-22), 3) := by decide +kernel
theorem dX2_heldBits_29 : decode cX2_heldBits 29 = .ok (.iload_n 1, 1) := by decide +kernel
theorem dX2_heldBits_30 : decode cX2_heldBits 30 = .ok (.ireturn, 1) := by decide +kernel
theorem dX3_init_0 : decode cX3_init 0 = .ok (.aload_n 0, 1) := by decide +kernel
theorem dX3_init_1 : decode cX3_init 1 = .ok (.invokespecial 3, 3) := by decide +kernel
theorem dX3_init_4 : decode cX3_init 4 = .ok (.aload_n 0, 1) := by decide +kernel
theorem dX3_init_5 : decode cX3_init 5 = .ok (.bipush 18, 2) := by decide +kernel
theorem dX3_init_7 : decode cX3_init 7 = .ok (.newarray .int, 2) := by decide +kernel
theorem dX3_init_9 : decode cX3_init 9 = .ok (.putfield 11, 3) := by decide +kernel
theorem dX3_init_12 : decode cX3_init 12 = .ok (.getstatic 15, 3) := by decide +kernel
theorem dX3_init_15 : decode cX3_init 15 = .ok (.iconst 0, 1) := by decide +kernel
theorem dX3_init_16 : decode cX3_init 16 = .ok (.aload_n 0, 1) := by decide +kernel
theorem dX3_init_17 : decode cX3_init 17 = .ok (.getfield 11, 3) := by decide +kernel
theorem dX3_init_20 : decode cX3_init 20 = .ok (.iconst 0, 1) := by decide +kernel
theorem dX3_init_21 : decode cX3_init 21 = .ok (.bipush 18, 2) := by decide +kernel
theorem dX3_init_23 : decode cX3_init 23 = .ok (.invokestatic 18, 3) := by decide +kernel
theorem dX3_init_26 : decode cX3_init 26 = .ok (.return_, 1) := by decide +kernel
theorem dX3_setAll_0 : decode cX3_setAll 0 = .ok (.aload_n 1, 1) := by decide +kernel
theorem dX3_setAll_1 : decode cX3_setAll 1 = .ok (.iconst 0, 1) := by decide +kernel
theorem dX3_setAll_2 : decode cX3_setAll 2 = .ok (.aload_n 0, 1) := by decide +kernel
theorem dX3_setAll_3 : decode cX3_setAll 3 = .ok (.getfield 11, 3) := by decide +kernel
theorem dX3_setAll_6 : decode cX3_setAll 6 = .ok (.iconst 0, 1) := by decide +kernel
theorem dX3_setAll_7 : decode cX3_setAll 7 = .ok (.bipush 18, 2) := by decide +kernel
theorem dX3_setAll_9 : decode cX3_setAll 9 = .ok (.invokestatic 18, 3) := by decide +kernel
theorem dX3_setAll_12 : decode cX3_setAll 12 = .ok (.return_, 1) := by decide +kernel
theorem dX3_total_0 : decode cX3_total 0 = .ok (.iconst 0, 1) := by decide +kernel
theorem dX3_total_1 : decode cX3_total 1 = .ok (.istore_n 1, 1) := by decide +kernel
theorem dX3_total_2 : decode cX3_total 2 = .ok (.iconst 0, 1) := by decide +kernel
theorem dX3_total_3 : decode cX3_total 3 = .ok (.istore_n 2, 1) := by decide +kernel
theorem dX3_total_4 : decode cX3_total 4 = .ok (.iload_n 2, 1) := by decide +kernel
theorem dX3_total_5 : decode cX3_total 5 = .ok (.iconst 4, 1) := by decide +kernel
theorem dX3_total_6 : decode cX3_total 6 = .ok (.if_icmp .ge 18, 3) := by decide +kernel
theorem dX3_total_9 : decode cX3_total 9 = .ok (.iload_n 1, 1) := by decide +kernel
theorem dX3_total_10 : decode cX3_total 10 = .ok (.aload_n 0, 1) := by decide +kernel
theorem dX3_total_11 : decode cX3_total 11 = .ok (.getfield 11, 3) := by decide +kernel
theorem dX3_total_14 : decode cX3_total 14 = .ok (.iload_n 2, 1) := by decide +kernel
theorem dX3_total_15 : decode cX3_total 15 = .ok (.iaload, 1) := by decide +kernel
theorem dX3_total_16 : decode cX3_total 16 = .ok (.iadd, 1) := by decide +kernel
theorem dX3_total_17 : decode cX3_total 17 = .ok (.istore_n 1, 1) := by decide +kernel
theorem dX3_total_18 : decode cX3_total 18 = .ok (.iinc 2 1, 3) := by decide +kernel
theorem dX3_total_21 : decode cX3_total 21 = .ok (.goto (-17), 3) := by decide +kernel
theorem dX3_total_24 : decode cX3_total 24 = .ok (.iload_n 1, 1) := by decide +kernel
theorem dX3_total_25 : decode cX3_total 25 = .ok (.ireturn, 1) := by decide +kernel
theorem dX3_middleAt_0 : decode cX3_middleAt 0 = .ok (.iload_n 2, 1) := by decide +kernel
theorem dX3_middleAt_1 : decode cX3_middleAt 1 = .ok (.ifCond .ne 21, 3) := by decide +kernel
theorem dX3_middleAt_4 : decode cX3_middleAt 4 = .ok (.aload_n 0, 1) := by decide +kernel
theorem dX3_middleAt_5 : decode cX3_middleAt 5 = .ok (.getfield 11, 3) := by decide +kernel
theorem dX3_middleAt_8 : decode cX3_middleAt 8 = .ok (.bipush 8, 2) := by decide +kernel
theorem dX3_middleAt_10 : decode cX3_middleAt 10 = .ok (.iaload, 1) := by decide +kernel
theorem dX3_middleAt_11 : decode cX3_middleAt 11 = .ok (.iload_n 1, 1) := by decide +kernel
theorem dX3_middleAt_12 : decode cX3_middleAt 12 = .ok (.imul, 1) := by decide +kernel
theorem dX3_middleAt_13 : decode cX3_middleAt 13 = .ok (.aload_n 0, 1) := by decide +kernel
theorem dX3_middleAt_14 : decode cX3_middleAt 14 = .ok (.getfield 11, 3) := by decide +kernel
theorem dX3_middleAt_17 : decode cX3_middleAt 17 = .ok (.bipush 10, 2) := by decide +kernel
theorem dX3_middleAt_19 : decode cX3_middleAt 19 = .ok (.iaload, 1) := by decide +kernel
theorem dX3_middleAt_20 : decode cX3_middleAt 20 = .ok (.isub, 1) := by decide +kernel
theorem dX3_middleAt_21 : decode cX3_middleAt 21 = .ok (.ireturn, 1) := by decide +kernel
theorem dX3_middleAt_22 : decode cX3_middleAt 22 = .ok (.aload_n 0, 1) := by decide +kernel
theorem dX3_middleAt_23 : decode cX3_middleAt 23 = .ok (.getfield 11, 3) := by decide +kernel
theorem dX3_middleAt_26 : decode cX3_middleAt 26 = .ok (.bipush 11, 2) := by decide +kernel
theorem dX3_middleAt_28 : decode cX3_middleAt 28 = .ok (.iaload, 1) := by decide +kernel
theorem dX3_middleAt_29 : decode cX3_middleAt 29 = .ok (.aload_n 0, 1) := by decide +kernel
theorem dX3_middleAt_30 : decode cX3_middleAt 30 = .ok (.getfield 11, 3) := by decide +kernel
theorem dX3_middleAt_33 : decode cX3_middleAt 33 = .ok (.bipush 7, 2) := by decide +kernel
theorem dX3_middleAt_35 : decode cX3_middleAt 35 = .ok (.iaload, 1) := by decide +kernel
theorem dX3_middleAt_36 : decode cX3_middleAt 36 = .ok (.iload_n 1, 1) := by decide +kernel
theorem dX3_middleAt_37 : decode cX3_middleAt 37 = .ok (.imul, 1) := by decide +kernel
theorem dX3_middleAt_38 : decode cX3_middleAt 38 = .ok (.iadd, 1) := by decide +kernel
theorem dX3_middleAt_39 : decode cX3_middleAt 39 = .ok (.aload_n 0, 1) := by decide +kernel
theorem dX3_middleAt_40 : decode cX3_middleAt 40 = .ok (.getfield 11, 3) := by decide +kernel
theorem dX3_middleAt_43 : decode cX3_middleAt 43 = .ok (.bipush 9, 2) := by decide +kernel
theorem dX3_middleAt_45 : decode cX3_middleAt 45 = .ok (.iaload, 1) := by decide +kernel
theorem dX3_middleAt_46 : decode cX3_middleAt 46 = .ok (.iload_n 1, 1) := by decide +kernel
theorem dX3_middleAt_47 : decode cX3_middleAt 47 = .ok (.imul, 1) := by decide +kernel
theorem dX3_middleAt_48 : decode cX3_middleAt 48 = .ok (.iload_n 1, 1) := by decide +kernel
theorem dX3_middleAt_49 : decode cX3_middleAt 49 = .ok (.imul, 1) := by decide +kernel
theorem dX3_middleAt_50 : decode cX3_middleAt 50 = .ok (.isub, 1) := by decide +kernel
theorem dX3_middleAt_51 : decode cX3_middleAt 51 = .ok (.ireturn, 1) := by decide +kernel
theorem dX4_init_0 : decode cX4_init 0 = .ok (.aload_n 0, 1) := by decide +kernel
theorem dX4_init_1 : decode cX4_init 1 = .ok (.invokespecial 1, 3) := by decide +kernel
theorem dX4_init_4 : decode cX4_init 4 = .ok (.aload_n 0, 1) := by decide +kernel
theorem dX4_init_5 : decode cX4_init 5 = .ok (.iconst (-1), 1) := by decide +kernel
theorem dX4_init_6 : decode cX4_init 6 = .ok (.putfield 9, 3) := by decide +kernel
theorem dX4_init_9 : decode cX4_init 9 = .ok (.aload_n 0, 1) := by decide +kernel
theorem dX4_init_10 : decode cX4_init 10 = .ok (.bipush 64, 2) := by decide +kernel
theorem dX4_init_12 : decode cX4_init 12 = .ok (.newarray .int, 2) := by decide +kernel
theorem dX4_init_14 : decode cX4_init 14 = .ok (.putfield 13, 3) := by decide +kernel
theorem dX4_init_17 : decode cX4_init 17 = .ok (.return_, 1) := by decide +kernel
theorem dX4_isLane_0 : decode cX4_isLane 0 = .ok (.iload_n 0, 1) := by decide +kernel
theorem dX4_isLane_1 : decode cX4_isLane 1 = .ok (.iconst 0, 1) := by decide +kernel
theorem dX4_isLane_2 : decode cX4_isLane 2 = .ok (.iconst 2, 1) := by decide +kernel
theorem dX4_isLane_3 : decode cX4_isLane 3 = .ok (.invokestatic 17, 3) := by decide +kernel
theorem dX4_isLane_6 : decode cX4_isLane 6 = .ok (.ireturn, 1) := by decide +kernel
theorem dX4_isNothing_0 : decode cX4_isNothing 0 = .ok (.aload_n 0, 1) := by decide +kernel
theorem dX4_isNothing_1 : decode cX4_isNothing 1 = .ok (.getfield 9, 3) := by decide +kernel
theorem dX4_isNothing_4 : decode cX4_isNothing 4 = .ok (.iconst (-1), 1) := by decide +kernel
theorem dX4_isNothing_5 : decode cX4_isNothing 5 = .ok (.if_icmp .ne 7, 3) := by decide +kernel
theorem dX4_isNothing_8 : decode cX4_isNothing 8 = .ok (.iconst 1, 1) := by decide +kernel
theorem dX4_isNothing_9 : decode cX4_isNothing 9 = .ok (.goto 4, 3) := by decide +kernel
theorem dX4_isNothing_12 : decode cX4_isNothing 12 = .ok (.iconst 0, 1) := by decide +kernel
theorem dX4_isNothing_13 : decode cX4_isNothing 13 = .ok (.ireturn, 1) := by decide +kernel
theorem dX4_hasCell_0 : decode cX4_hasCell 0 = .ok (.iload_n 1, 1) := by decide +kernel
theorem dX4_hasCell_1 : decode cX4_hasCell 1 = .ok (.iconst 0, 1) := by decide +kernel
theorem dX4_hasCell_2 : decode cX4_hasCell 2 = .ok (.aload_n 0, 1) := by decide +kernel
theorem dX4_hasCell_3 : decode cX4_hasCell 3 = .ok (.getfield 23, 3) := by decide +kernel
theorem dX4_hasCell_6 : decode cX4_hasCell 6 = .ok (.iconst 1, 1) := by decide +kernel
theorem dX4_hasCell_7 : decode cX4_hasCell 7 = .ok (.isub, 1) := by decide +kernel
theorem dX4_hasCell_8 : decode cX4_hasCell 8 = .ok (.invokestatic 17, 3) := by decide +kernel
theorem dX4_hasCell_11 : decode cX4_hasCell 11 = .ok (.ireturn, 1) := by decide +kernel
theorem dX4_begin_0 : decode cX4_begin 0 = .ok (.aload_n 0, 1) := by decide +kernel
theorem dX4_begin_1 : decode cX4_begin 1 = .ok (.iload_n 1, 1) := by decide +kernel
theorem dX4_begin_2 : decode cX4_begin 2 = .ok (.putfield 9, 3) := by decide +kernel
theorem dX4_begin_5 : decode cX4_begin 5 = .ok (.aload_n 0, 1) := by decide +kernel
theorem dX4_begin_6 : decode cX4_begin 6 = .ok (.iload_n 2, 1) := by decide +kernel
theorem dX4_begin_7 : decode cX4_begin 7 = .ok (.putfield 23, 3) := by decide +kernel
theorem dX4_begin_10 : decode cX4_begin 10 = .ok (.iconst 0, 1) := by decide +kernel
theorem dX4_begin_11 : decode cX4_begin 11 = .ok (.istore_n 3, 1) := by decide +kernel
theorem dX4_begin_12 : decode cX4_begin 12 = .ok (.iload_n 3, 1) := by decide +kernel
theorem dX4_begin_13 : decode cX4_begin 13 = .ok (.iload_n 2, 1) := by decide +kernel
theorem dX4_begin_14 : decode cX4_begin 14 = .ok (.if_icmp .ge 16, 3) := by decide +kernel
theorem dX4_begin_17 : decode cX4_begin 17 = .ok (.aload_n 0, 1) := by decide +kernel
theorem dX4_begin_18 : decode cX4_begin 18 = .ok (.getfield 13, 3) := by decide +kernel
theorem dX4_begin_21 : decode cX4_begin 21 = .ok (.iload_n 3, 1) := by decide +kernel
theorem dX4_begin_22 : decode cX4_begin 22 = .ok (.iconst 0, 1) := by decide +kernel
theorem dX4_begin_23 : decode cX4_begin 23 = .ok (.iastore, 1) := by decide +kernel
theorem dX4_begin_24 : decode cX4_begin 24 = .ok (.iinc 3 1, 3) := by decide +kernel
theorem dX4_begin_27 : decode cX4_begin 27 = .ok (.goto (-15), 3) := by decide +kernel
theorem dX4_begin_30 : decode cX4_begin 30 = .ok (.return_, 1) := by decide +kernel
theorem dX4_write_0 : decode cX4_write 0 = .ok (.aload_n 0, 1) := by decide +kernel
theorem dX4_write_1 : decode cX4_write 1 = .ok (.getfield 9, 3) := by decide +kernel
theorem dX4_write_4 : decode cX4_write 4 = .ok (.ifCond .ne 14, 3) := by decide +kernel
theorem dX4_write_7 : decode cX4_write 7 = .ok (.aload_n 0, 1) := by decide +kernel
theorem dX4_write_8 : decode cX4_write 8 = .ok (.getfield 13, 3) := by decide +kernel
theorem dX4_write_11 : decode cX4_write 11 = .ok (.iload_n 1, 1) := by decide +kernel
theorem dX4_write_12 : decode cX4_write 12 = .ok (.iload_n 2, 1) := by decide +kernel
theorem dX4_write_13 : decode cX4_write 13 = .ok (.i2b, 1) := by decide +kernel
theorem dX4_write_14 : decode cX4_write 14 = .ok (.iastore, 1) := by decide +kernel
theorem dX4_write_15 : decode cX4_write 15 = .ok (.goto 29, 3) := by decide +kernel
theorem dX4_write_18 : decode cX4_write 18 = .ok (.aload_n 0, 1) := by decide +kernel
theorem dX4_write_19 : decode cX4_write 19 = .ok (.getfield 9, 3) := by decide +kernel
theorem dX4_write_22 : decode cX4_write 22 = .ok (.iconst 1, 1) := by decide +kernel
theorem dX4_write_23 : decode cX4_write 23 = .ok (.if_icmp .ne 14, 3) := by decide +kernel
theorem dX4_write_26 : decode cX4_write 26 = .ok (.aload_n 0, 1) := by decide +kernel
theorem dX4_write_27 : decode cX4_write 27 = .ok (.getfield 13, 3) := by decide +kernel
theorem dX4_write_30 : decode cX4_write 30 = .ok (.iload_n 1, 1) := by decide +kernel
theorem dX4_write_31 : decode cX4_write 31 = .ok (.iload_n 2, 1) := by decide +kernel
theorem dX4_write_32 : decode cX4_write 32 = .ok (.i2s, 1) := by decide +kernel
theorem dX4_write_33 : decode cX4_write 33 = .ok (.iastore, 1) := by decide +kernel
theorem dX4_write_34 : decode cX4_write 34 = .ok (.goto 10, 3) := by decide +kernel
theorem dX4_write_37 : decode cX4_write 37 = .ok (.aload_n 0, 1) := by decide +kernel
theorem dX4_write_38 : decode cX4_write 38 = .ok (.getfield 13, 3) := by decide +kernel
theorem dX4_write_41 : decode cX4_write 41 = .ok (.iload_n 1, 1) := by decide +kernel
theorem dX4_write_42 : decode cX4_write 42 = .ok (.iload_n 2, 1) := by decide +kernel
theorem dX4_write_43 : decode cX4_write 43 = .ok (.iastore, 1) := by decide +kernel
theorem dX4_write_44 : decode cX4_write 44 = .ok (.return_, 1) := by decide +kernel
theorem dX4_faultAs_0 : decode cX4_faultAs 0 = .ok (.aload_n 0, 1) := by decide +kernel
theorem dX4_faultAs_1 : decode cX4_faultAs 1 = .ok (.invokevirtual 26, 3) := by decide +kernel
theorem dX4_faultAs_4 : decode cX4_faultAs 4 = .ok (.ifCond .eq 5, 3) := by decide +kernel
theorem dX4_faultAs_7 : decode cX4_faultAs 7 = .ok (.iconst 1, 1) := by decide +kernel
theorem dX4_faultAs_8 : decode cX4_faultAs 8 = .ok (.ireturn, 1) := by decide +kernel
theorem dX4_faultAs_9 : decode cX4_faultAs 9 = .ok (.aload_n 0, 1) := by decide +kernel
theorem dX4_faultAs_10 : decode cX4_faultAs 10 = .ok (.getfield 9, 3) := by decide +kernel
theorem dX4_faultAs_13 : decode cX4_faultAs 13 = .ok (.iload_n 1, 1) := by decide +kernel
theorem dX4_faultAs_14 : decode cX4_faultAs 14 = .ok (.if_icmp .ne 7, 3) := by decide +kernel
theorem dX4_faultAs_17 : decode cX4_faultAs 17 = .ok (.iconst 0, 1) := by decide +kernel
theorem dX4_faultAs_18 : decode cX4_faultAs 18 = .ok (.goto 4, 3) := by decide +kernel
theorem dX4_faultAs_21 : decode cX4_faultAs 21 = .ok (.iconst 3, 1) := by decide +kernel
theorem dX4_faultAs_22 : decode cX4_faultAs 22 = .ok (.ireturn, 1) := by decide +kernel
theorem dX4_readTenth_0 : decode cX4_readTenth 0 = .ok (.aload_n 0, 1) := by decide +kernel
theorem dX4_readTenth_1 : decode cX4_readTenth 1 = .ok (.iload_n 1, 1) := by decide +kernel
theorem dX4_readTenth_2 : decode cX4_readTenth 2 = .ok (.invokevirtual 30, 3) := by decide +kernel
theorem dX4_readTenth_5 : decode cX4_readTenth 5 = .ok (.ifCond .eq 20, 3) := by decide +kernel
theorem dX4_readTenth_8 : decode cX4_readTenth 8 = .ok (.aload_n 0, 1) := by decide +kernel
theorem dX4_readTenth_9 : decode cX4_readTenth 9 = .ok (.iload_n 1, 1) := by decide +kernel
theorem dX4_readTenth_10 : decode cX4_readTenth 10 = .ok (.bipush 8, 2) := by decide +kernel
theorem dX4_readTenth_12 : decode cX4_readTenth 12 = .ok (.iload_n 2, 1) := by decide +kernel
theorem dX4_readTenth_13 : decode cX4_readTenth 13 = .ok (.iconst 1, 1) := by decide +kernel
theorem dX4_readTenth_14 : decode cX4_readTenth 14 = .ok (.iadd, 1) := by decide +kernel
theorem dX4_readTenth_15 : decode cX4_readTenth 15 = .ok (.imul, 1) := by decide +kernel
theorem dX4_readTenth_16 : decode cX4_readTenth 16 = .ok (.iadd, 1) := by decide +kernel
theorem dX4_readTenth_17 : decode cX4_readTenth 17 = .ok (.iconst 1, 1) := by decide +kernel
theorem dX4_readTenth_18 : decode cX4_readTenth 18 = .ok (.isub, 1) := by decide +kernel
theorem dX4_readTenth_19 : decode cX4_readTenth 19 = .ok (.invokevirtual 30, 3) := by decide +kernel
theorem dX4_readTenth_22 : decode cX4_readTenth 22 = .ok (.ifCond .ne 5, 3) := by decide +kernel
theorem dX4_readTenth_25 : decode cX4_readTenth 25 = .ok (.iconst 2, 1) := by decide +kernel
theorem dX4_readTenth_26 : decode cX4_readTenth 26 = .ok (.ireturn, 1) := by decide +kernel
theorem dX4_readTenth_27 : decode cX4_readTenth 27 = .ok (.bipush 8, 2) := by decide +kernel
theorem dX4_readTenth_29 : decode cX4_readTenth 29 = .ok (.iload_n 2, 1) := by decide +kernel
theorem dX4_readTenth_30 : decode cX4_readTenth 30 = .ok (.imul, 1) := by decide +kernel
theorem dX4_readTenth_31 : decode cX4_readTenth 31 = .ok (.istore 4, 2) := by decide +kernel
theorem dX4_readTenth_33 : decode cX4_readTenth 33 = .ok (.iload 4, 2) := by decide +kernel
theorem dX4_readTenth_35 : decode cX4_readTenth 35 = .ok (.bipush 8, 2) := by decide +kernel
theorem dX4_readTenth_37 : decode cX4_readTenth 37 = .ok (.iload_n 2, 1) := by decide +kernel
theorem dX4_readTenth_38 : decode cX4_readTenth 38 = .ok (.iconst 1, 1) := by decide +kernel
theorem dX4_readTenth_39 : decode cX4_readTenth 39 = .ok (.iadd, 1) := by decide +kernel
theorem dX4_readTenth_40 : decode cX4_readTenth 40 = .ok (.imul, 1) := by decide +kernel
theorem dX4_readTenth_41 : decode cX4_readTenth 41 = .ok (.if_icmp .ge 22, 3) := by decide +kernel
theorem dX4_readTenth_44 : decode cX4_readTenth 44 = .ok (.aload_n 3, 1) := by decide +kernel
theorem dX4_readTenth_45 : decode cX4_readTenth 45 = .ok (.iload 4, 2) := by decide +kernel
theorem dX4_readTenth_47 : decode cX4_readTenth 47 = .ok (.aload_n 0, 1) := by decide +kernel
theorem dX4_readTenth_48 : decode cX4_readTenth 48 = .ok (.getfield 13, 3) := by decide +kernel
theorem dX4_readTenth_51 : decode cX4_readTenth 51 = .ok (.iload_n 1, 1) := by decide +kernel
theorem dX4_readTenth_52 : decode cX4_readTenth 52 = .ok (.iload 4, 2) := by decide +kernel
theorem dX4_readTenth_54 : decode cX4_readTenth 54 = .ok (.iadd, 1) := by decide +kernel
theorem dX4_readTenth_55 : decode cX4_readTenth 55 = .ok (.iaload, 1) := by decide +kernel
theorem dX4_readTenth_56 : decode cX4_readTenth 56 = .ok (.iastore, 1) := by decide +kernel
theorem dX4_readTenth_57 : decode cX4_readTenth 57 = .ok (.iinc 4 1, 3) := by decide +kernel
theorem dX4_readTenth_60 : decode cX4_readTenth 60 = .ok (.goto (-27), 3) := by decide +kernel
theorem dX4_readTenth_63 : decode cX4_readTenth 63 = .ok (.iconst 0, 1) := by decide +kernel
theorem dX4_readTenth_64 : decode cX4_readTenth 64 = .ok (.ireturn, 1) := by decide +kernel
theorem dX5_init_0 : decode cX5_init 0 = .ok (.aload_n 0, 1) := by decide +kernel
theorem dX5_init_1 : decode cX5_init 1 = .ok (.invokespecial 1, 3) := by decide +kernel
theorem dX5_init_4 : decode cX5_init 4 = .ok (.aload_n 0, 1) := by decide +kernel
theorem dX5_init_5 : decode cX5_init 5 = .ok (.sipush 200, 3) := by decide +kernel
theorem dX5_init_8 : decode cX5_init 8 = .ok (.newarray .int, 2) := by decide +kernel
theorem dX5_init_10 : decode cX5_init 10 = .ok (.putfield 9, 3) := by decide +kernel
theorem dX5_init_13 : decode cX5_init 13 = .ok (.return_, 1) := by decide +kernel
theorem dX5_addEight_0 : decode cX5_addEight 0 = .ok (.aload_n 0, 1) := by decide +kernel
theorem dX5_addEight_1 : decode cX5_addEight 1 = .ok (.getfield 13, 3) := by decide +kernel
theorem dX5_addEight_4 : decode cX5_addEight 4 = .ok (.bipush 8, 2) := by decide +kernel
theorem dX5_addEight_6 : decode cX5_addEight 6 = .ok (.iadd, 1) := by decide +kernel
theorem dX5_addEight_7 : decode cX5_addEight 7 = .ok (.sipush 200, 3) := by decide +kernel
theorem dX5_addEight_10 : decode cX5_addEight 10 = .ok (.if_icmp .le 5, 3) := by decide +kernel
theorem dX5_addEight_13 : decode cX5_addEight 13 = .ok (.iconst 0, 1) := by decide +kernel
theorem dX5_addEight_14 : decode cX5_addEight 14 = .ok (.ireturn, 1) := by decide +kernel
theorem dX5_addEight_15 : decode cX5_addEight 15 = .ok (.iconst 0, 1) := by decide +kernel
theorem dX5_addEight_16 : decode cX5_addEight 16 = .ok (.istore_n 3, 1) := by decide +kernel
theorem dX5_addEight_17 : decode cX5_addEight 17 = .ok (.iload_n 3, 1) := by decide +kernel
theorem dX5_addEight_18 : decode cX5_addEight 18 = .ok (.bipush 8, 2) := by decide +kernel
theorem dX5_addEight_20 : decode cX5_addEight 20 = .ok (.if_icmp .ge 34, 3) := by decide +kernel
theorem dX5_addEight_23 : decode cX5_addEight 23 = .ok (.aload_n 0, 1) := by decide +kernel
theorem dX5_addEight_24 : decode cX5_addEight 24 = .ok (.getfield 9, 3) := by decide +kernel
theorem dX5_addEight_27 : decode cX5_addEight 27 = .ok (.aload_n 0, 1) := by decide +kernel
theorem dX5_addEight_28 : decode cX5_addEight 28 = .ok (.getfield 13, 3) := by decide +kernel
theorem dX5_addEight_31 : decode cX5_addEight 31 = .ok (.iload_n 3, 1) := by decide +kernel
theorem dX5_addEight_32 : decode cX5_addEight 32 = .ok (.iadd, 1) := by decide +kernel
theorem dX5_addEight_33 : decode cX5_addEight 33 = .ok (.lload_n 1, 1) := by decide +kernel
theorem dX5_addEight_34 : decode cX5_addEight 34 = .ok (.bipush 56, 2) := by decide +kernel
theorem dX5_addEight_36 : decode cX5_addEight 36 = .ok (.bipush 8, 2) := by decide +kernel
theorem dX5_addEight_38 : decode cX5_addEight 38 = .ok (.iload_n 3, 1) := by decide +kernel
theorem dX5_addEight_39 : decode cX5_addEight 39 = .ok (.imul, 1) := by decide +kernel
theorem dX5_addEight_40 : decode cX5_addEight 40 = .ok (.isub, 1) := by decide +kernel
theorem dX5_addEight_41 : decode cX5_addEight 41 = .ok (.lushr, 1) := by decide +kernel
theorem dX5_addEight_42 : decode cX5_addEight 42 = .ok (.l2i, 1) := by decide +kernel
theorem dX5_addEight_43 : decode cX5_addEight 43 = .ok (.sipush 255, 3) := by decide +kernel
theorem dX5_addEight_46 : decode cX5_addEight 46 = .ok (.iand, 1) := by decide +kernel
theorem dX5_addEight_47 : decode cX5_addEight 47 = .ok (.iastore, 1) := by decide +kernel
theorem dX5_addEight_48 : decode cX5_addEight 48 = .ok (.iinc 3 1, 3) := by decide +kernel
theorem dX5_addEight_51 : decode cX5_addEight 51 = .ok (.goto (-34), 3) := by decide +kernel
theorem dX5_addEight_54 : decode cX5_addEight 54 = .ok (.aload_n 0, 1) := by decide +kernel
theorem dX5_addEight_55 : decode cX5_addEight 55 = .ok (.dup, 1) := by decide +kernel
theorem dX5_addEight_56 : decode cX5_addEight 56 = .ok (.getfield 13, 3) := by decide +kernel
theorem dX5_addEight_59 : decode cX5_addEight 59 = .ok (.bipush 8, 2) := by decide +kernel
theorem dX5_addEight_61 : decode cX5_addEight 61 = .ok (.iadd, 1) := by decide +kernel
theorem dX5_addEight_62 : decode cX5_addEight 62 = .ok (.putfield 13, 3) := by decide +kernel
theorem dX5_addEight_65 : decode cX5_addEight 65 = .ok (.iconst 1, 1) := by decide +kernel
theorem dX5_addEight_66 : decode cX5_addEight 66 = .ok (.ireturn, 1) := by decide +kernel
theorem dX6_init_0 : decode cX6_init 0 = .ok (.aload_n 0, 1) := by decide +kernel
theorem dX6_init_1 : decode cX6_init 1 = .ok (.invokespecial 5, 3) := by decide +kernel
theorem dX6_init_4 : decode cX6_init 4 = .ok (.aload_n 0, 1) := by decide +kernel
theorem dX6_init_5 : decode cX6_init 5 = .ok (.bipush 64, 2) := by decide +kernel
theorem dX6_init_7 : decode cX6_init 7 = .ok (.newarray .int, 2) := by decide +kernel
theorem dX6_init_9 : decode cX6_init 9 = .ok (.putfield 11, 3) := by decide +kernel
theorem dX6_init_12 : decode cX6_init 12 = .ok (.return_, 1) := by decide +kernel
theorem dX6_canHave_0 : decode cX6_canHave 0 = .ok (.iload_n 0, 1) := by decide +kernel
theorem dX6_canHave_1 : decode cX6_canHave 1 = .ok (.iconst 2, 1) := by decide +kernel
theorem dX6_canHave_2 : decode cX6_canHave 2 = .ok (.bipush 8, 2) := by decide +kernel
theorem dX6_canHave_4 : decode cX6_canHave 4 = .ok (.invokestatic 15, 3) := by decide +kernel
theorem dX6_canHave_7 : decode cX6_canHave 7 = .ok (.ifCond .eq 16, 3) := by decide +kernel
theorem dX6_canHave_10 : decode cX6_canHave 10 = .ok (.iload_n 1, 1) := by decide +kernel
theorem dX6_canHave_11 : decode cX6_canHave 11 = .ok (.iconst 1, 1) := by decide +kernel
theorem dX6_canHave_12 : decode cX6_canHave 12 = .ok (.iconst 2, 1) := by decide +kernel
theorem dX6_canHave_13 : decode cX6_canHave 13 = .ok (.invokestatic 15, 3) := by decide +kernel
theorem dX6_canHave_16 : decode cX6_canHave 16 = .ok (.ifCond .eq 7, 3) := by decide +kernel
theorem dX6_canHave_19 : decode cX6_canHave 19 = .ok (.iconst 1, 1) := by decide +kernel
theorem dX6_canHave_20 : decode cX6_canHave 20 = .ok (.goto 4, 3) := by decide +kernel
theorem dX6_canHave_23 : decode cX6_canHave 23 = .ok (.iconst 0, 1) := by decide +kernel
theorem dX6_canHave_24 : decode cX6_canHave 24 = .ok (.ireturn, 1) := by decide +kernel
theorem dX6_isNumber_0 : decode cX6_isNumber 0 = .ok (.iload_n 0, 1) := by decide +kernel
theorem dX6_isNumber_1 : decode cX6_isNumber 1 = .ok (.bipush (-9), 2) := by decide +kernel
theorem dX6_isNumber_3 : decode cX6_isNumber 3 = .ok (.bipush 9, 2) := by decide +kernel
theorem dX6_isNumber_5 : decode cX6_isNumber 5 = .ok (.invokestatic 15, 3) := by decide +kernel
theorem dX6_isNumber_8 : decode cX6_isNumber 8 = .ok (.ireturn, 1) := by decide +kernel
theorem dX6_spot_0 : decode cX6_spot 0 = .ok (.bipush 8, 2) := by decide +kernel
theorem dX6_spot_2 : decode cX6_spot 2 = .ok (.iload_n 0, 1) := by decide +kernel
theorem dX6_spot_3 : decode cX6_spot 3 = .ok (.imul, 1) := by decide +kernel
theorem dX6_spot_4 : decode cX6_spot 4 = .ok (.iconst 2, 1) := by decide +kernel
theorem dX6_spot_5 : decode cX6_spot 5 = .ok (.iload_n 1, 1) := by decide +kernel
theorem dX6_spot_6 : decode cX6_spot 6 = .ok (.imul, 1) := by decide +kernel
theorem dX6_spot_7 : decode cX6_spot 7 = .ok (.iadd, 1) := by decide +kernel
theorem dX6_spot_8 : decode cX6_spot 8 = .ok (.ireturn, 1) := by decide +kernel
theorem dX6_begin_0 : decode cX6_begin 0 = .ok (.aload_n 0, 1) := by decide +kernel
theorem dX6_begin_1 : decode cX6_begin 1 = .ok (.iload_n 1, 1) := by decide +kernel
theorem dX6_begin_2 : decode cX6_begin 2 = .ok (.putfield 19, 3) := by decide +kernel
theorem dX6_begin_5 : decode cX6_begin 5 = .ok (.aload_n 0, 1) := by decide +kernel
theorem dX6_begin_6 : decode cX6_begin 6 = .ok (.iload_n 2, 1) := by decide +kernel
theorem dX6_begin_7 : decode cX6_begin 7 = .ok (.putfield 23, 3) := by decide +kernel
theorem dX6_begin_10 : decode cX6_begin 10 = .ok (.iconst 0, 1) := by decide +kernel
theorem dX6_begin_11 : decode cX6_begin 11 = .ok (.istore_n 3, 1) := by decide +kernel
theorem dX6_begin_12 : decode cX6_begin 12 = .ok (.iload_n 3, 1) := by decide +kernel
theorem dX6_begin_13 : decode cX6_begin 13 = .ok (.aload_n 0, 1) := by decide +kernel
theorem dX6_begin_14 : decode cX6_begin 14 = .ok (.getfield 11, 3) := by decide +kernel
theorem dX6_begin_17 : decode cX6_begin 17 = .ok (.arraylength, 1) := by decide +kernel
theorem dX6_begin_18 : decode cX6_begin 18 = .ok (.if_icmp .ge 16, 3) := by decide +kernel
theorem dX6_begin_21 : decode cX6_begin 21 = .ok (.aload_n 0, 1) := by decide +kernel
theorem dX6_begin_22 : decode cX6_begin 22 = .ok (.getfield 11, 3) := by decide +kernel
theorem dX6_begin_25 : decode cX6_begin 25 = .ok (.iload_n 3, 1) := by decide +kernel
theorem dX6_begin_26 : decode cX6_begin 26 = .ok (.iconst 0, 1) := by decide +kernel
theorem dX6_begin_27 : decode cX6_begin 27 = .ok (.iastore, 1) := by decide +kernel
theorem dX6_begin_28 : decode cX6_begin 28 = .ok (.iinc 3 1, 3) := by decide +kernel
theorem dX6_begin_31 : decode cX6_begin 31 = .ok (.goto (-19), 3) := by decide +kernel
theorem dX6_begin_34 : decode cX6_begin 34 = .ok (.return_, 1) := by decide +kernel
theorem dX6_become_0 : decode cX6_become 0 = .ok (.aload_n 0, 1) := by decide +kernel
theorem dX6_become_1 : decode cX6_become 1 = .ok (.aload_n 1, 1) := by decide +kernel
theorem dX6_become_2 : decode cX6_become 2 = .ok (.getfield 19, 3) := by decide +kernel
theorem dX6_become_5 : decode cX6_become 5 = .ok (.putfield 19, 3) := by decide +kernel
theorem dX6_become_8 : decode cX6_become 8 = .ok (.aload_n 0, 1) := by decide +kernel
theorem dX6_become_9 : decode cX6_become 9 = .ok (.aload_n 1, 1) := by decide +kernel
theorem dX6_become_10 : decode cX6_become 10 = .ok (.getfield 23, 3) := by decide +kernel
theorem dX6_become_13 : decode cX6_become 13 = .ok (.putfield 23, 3) := by decide +kernel
theorem dX6_become_16 : decode cX6_become 16 = .ok (.aload_n 1, 1) := by decide +kernel
theorem dX6_become_17 : decode cX6_become 17 = .ok (.getfield 11, 3) := by decide +kernel
theorem dX6_become_20 : decode cX6_become 20 = .ok (.iconst 0, 1) := by decide +kernel
theorem dX6_become_21 : decode cX6_become 21 = .ok (.aload_n 0, 1) := by decide +kernel
theorem dX6_become_22 : decode cX6_become 22 = .ok (.getfield 11, 3) := by decide +kernel
theorem dX6_become_25 : decode cX6_become 25 = .ok (.iconst 0, 1) := by decide +kernel
theorem dX6_become_26 : decode cX6_become 26 = .ok (.aload_n 0, 1) := by decide +kernel
theorem dX6_become_27 : decode cX6_become 27 = .ok (.getfield 11, 3) := by decide +kernel
theorem dX6_become_30 : decode cX6_become 30 = .ok (.arraylength, 1) := by decide +kernel
theorem dX6_become_31 : decode cX6_become 31 = .ok (.invokestatic 26, 3) := by decide +kernel
theorem dX6_become_34 : decode cX6_become 34 = .ok (.return_, 1) := by decide +kernel
theorem dX6_countNumbers_0 : decode cX6_countNumbers 0 = .ok (.bipush 8, 2) := by decide +kernel
theorem dX6_countNumbers_2 : decode cX6_countNumbers 2 = .ok (.aload_n 0, 1) := by decide +kernel
theorem dX6_countNumbers_3 : decode cX6_countNumbers 3 = .ok (.getfield 19, 3) := by decide +kernel
theorem dX6_countNumbers_6 : decode cX6_countNumbers 6 = .ok (.imul, 1) := by decide +kernel
theorem dX6_countNumbers_7 : decode cX6_countNumbers 7 = .ok (.ireturn, 1) := by decide +kernel
theorem dX6_isTenthInBounds_0 : decode cX6_isTenthInBounds 0 = .ok (.bipush 8, 2) := by decide +kernel
theorem dX6_isTenthInBounds_2 : decode cX6_isTenthInBounds 2 = .ok (.iload_n 1, 1) := by decide +kernel
theorem dX6_isTenthInBounds_3 : decode cX6_isTenthInBounds 3 = .ok (.imul, 1) := by decide +kernel
theorem dX6_isTenthInBounds_4 : decode cX6_isTenthInBounds 4 = .ok (.istore_n 2, 1) := by decide +kernel
theorem dX6_isTenthInBounds_5 : decode cX6_isTenthInBounds 5 = .ok (.iload_n 2, 1) := by decide +kernel
theorem dX6_isTenthInBounds_6 : decode cX6_isTenthInBounds 6 = .ok (.bipush 8, 2) := by decide +kernel
theorem dX6_isTenthInBounds_8 : decode cX6_isTenthInBounds 8 = .ok (.iload_n 1, 1) := by decide +kernel
theorem dX6_isTenthInBounds_9 : decode cX6_isTenthInBounds 9 = .ok (.iconst 1, 1) := by decide +kernel
theorem dX6_isTenthInBounds_10 : decode cX6_isTenthInBounds 10 = .ok (.iadd, 1) := by decide +kernel
theorem dX6_isTenthInBounds_11 : decode cX6_isTenthInBounds 11 = .ok (.imul, 1) := by decide +kernel
theorem dX6_isTenthInBounds_12 : decode cX6_isTenthInBounds 12 = .ok (.if_icmp .ge 23, 3) := by decide +kernel
theorem dX6_isTenthInBounds_15 : decode cX6_isTenthInBounds 15 = .ok (.aload_n 0, 1) := by decide +kernel
theorem dX6_isTenthInBounds_16 : decode cX6_isTenthInBounds 16 = .ok (.getfield 11, 3) := by decide +kernel
theorem dX6_isTenthInBounds_19 : decode cX6_isTenthInBounds 19 = .ok (.iload_n 2, 1) := by decide +kernel
theorem dX6_isTenthInBounds_20 : decode cX6_isTenthInBounds 20 = .ok (.iaload, 1) := by decide +kernel
theorem dX6_isTenthInBounds_21 : decode cX6_isTenthInBounds 21 = .ok (.invokestatic 32, 3) := by decide +kernel
theorem dX6_isTenthInBounds_24 : decode cX6_isTenthInBounds 24 = .ok (.ifCond .ne 5, 3) := by decide +kernel
theorem dX6_isTenthInBounds_27 : decode cX6_isTenthInBounds 27 = .ok (.iconst 0, 1) := by decide +kernel
theorem dX6_isTenthInBounds_28 : decode cX6_isTenthInBounds 28 = .ok (.ireturn, 1) := by decide +kernel
theorem dX6_isTenthInBounds_29 : decode cX6_isTenthInBounds 29 = .ok (.iinc 2 1, 3) := by decide +kernel
theorem dX6_isTenthInBounds_32 : decode cX6_isTenthInBounds 32 = .ok (.goto (-27), 3) := by decide +kernel
theorem dX6_isTenthInBounds_35 : decode cX6_isTenthInBounds 35 = .ok (.iconst 1, 1) := by decide +kernel
theorem dX6_isTenthInBounds_36 : decode cX6_isTenthInBounds 36 = .ok (.ireturn, 1) := by decide +kernel
theorem dX6_unlikeNumbers_0 : decode cX6_unlikeNumbers 0 = .ok (.iconst 0, 1) := by decide +kernel
theorem dX6_unlikeNumbers_1 : decode cX6_unlikeNumbers 1 = .ok (.istore_n 2, 1) := by decide +kernel
theorem dX6_unlikeNumbers_2 : decode cX6_unlikeNumbers 2 = .ok (.iconst 0, 1) := by decide +kernel
theorem dX6_unlikeNumbers_3 : decode cX6_unlikeNumbers 3 = .ok (.istore_n 3, 1) := by decide +kernel
theorem dX6_unlikeNumbers_4 : decode cX6_unlikeNumbers 4 = .ok (.iload_n 3, 1) := by decide +kernel
theorem dX6_unlikeNumbers_5 : decode cX6_unlikeNumbers 5 = .ok (.aload_n 0, 1) := by decide +kernel
theorem dX6_unlikeNumbers_6 : decode cX6_unlikeNumbers 6 = .ok (.invokevirtual 36, 3) := by decide +kernel
theorem dX6_unlikeNumbers_9 : decode cX6_unlikeNumbers 9 = .ok (.if_icmp .ge 27, 3) := by decide +kernel
theorem dX6_unlikeNumbers_12 : decode cX6_unlikeNumbers 12 = .ok (.aload_n 0, 1) := by decide +kernel
theorem dX6_unlikeNumbers_13 : decode cX6_unlikeNumbers 13 = .ok (.getfield 11, 3) := by decide +kernel
theorem dX6_unlikeNumbers_16 : decode cX6_unlikeNumbers 16 = .ok (.iload_n 3, 1) := by decide +kernel
theorem dX6_unlikeNumbers_17 : decode cX6_unlikeNumbers 17 = .ok (.iaload, 1) := by decide +kernel
theorem dX6_unlikeNumbers_18 : decode cX6_unlikeNumbers 18 = .ok (.aload_n 1, 1) := by decide +kernel
theorem dX6_unlikeNumbers_19 : decode cX6_unlikeNumbers 19 = .ok (.getfield 11, 3) := by decide +kernel
theorem dX6_unlikeNumbers_22 : decode cX6_unlikeNumbers 22 = .ok (.iload_n 3, 1) := by decide +kernel
theorem dX6_unlikeNumbers_23 : decode cX6_unlikeNumbers 23 = .ok (.iaload, 1) := by decide +kernel
theorem dX6_unlikeNumbers_24 : decode cX6_unlikeNumbers 24 = .ok (.if_icmp .eq 6, 3) := by decide +kernel
theorem dX6_unlikeNumbers_27 : decode cX6_unlikeNumbers 27 = .ok (.iinc 2 1, 3) := by decide +kernel
theorem dX6_unlikeNumbers_30 : decode cX6_unlikeNumbers 30 = .ok (.iinc 3 1, 3) := by decide +kernel
theorem dX6_unlikeNumbers_33 : decode cX6_unlikeNumbers 33 = .ok (.goto (-29), 3) := by decide +kernel
theorem dX6_unlikeNumbers_36 : decode cX6_unlikeNumbers 36 = .ok (.iload_n 2, 1) := by decide +kernel
theorem dX6_unlikeNumbers_37 : decode cX6_unlikeNumbers 37 = .ok (.ireturn, 1) := by decide +kernel
theorem dX6_hasChange_0 : decode cX6_hasChange 0 = .ok (.iload_n 1, 1) := by decide +kernel
theorem dX6_hasChange_1 : decode cX6_hasChange 1 = .ok (.iconst 0, 1) := by decide +kernel
theorem dX6_hasChange_2 : decode cX6_hasChange 2 = .ok (.bipush 16, 2) := by decide +kernel
theorem dX6_hasChange_4 : decode cX6_hasChange 4 = .ok (.aload_n 0, 1) := by decide +kernel
theorem dX6_hasChange_5 : decode cX6_hasChange 5 = .ok (.getfield 19, 3) := by decide +kernel
theorem dX6_hasChange_8 : decode cX6_hasChange 8 = .ok (.imul, 1) := by decide +kernel
theorem dX6_hasChange_9 : decode cX6_hasChange 9 = .ok (.iconst 1, 1) := by decide +kernel
theorem dX6_hasChange_10 : decode cX6_hasChange 10 = .ok (.isub, 1) := by decide +kernel
theorem dX6_hasChange_11 : decode cX6_hasChange 11 = .ok (.invokestatic 15, 3) := by decide +kernel
theorem dX6_hasChange_14 : decode cX6_hasChange 14 = .ok (.ifCond .eq 26, 3) := by decide +kernel
theorem dX6_hasChange_17 : decode cX6_hasChange 17 = .ok (.aload_n 0, 1) := by decide +kernel
theorem dX6_hasChange_18 : decode cX6_hasChange 18 = .ok (.getfield 11, 3) := by decide +kernel
theorem dX6_hasChange_21 : decode cX6_hasChange 21 = .ok (.iload_n 1, 1) := by decide +kernel
theorem dX6_hasChange_22 : decode cX6_hasChange 22 = .ok (.iconst 1, 1) := by decide +kernel
theorem dX6_hasChange_23 : decode cX6_hasChange 23 = .ok (.ishr, 1) := by decide +kernel
theorem dX6_hasChange_24 : decode cX6_hasChange 24 = .ok (.iaload, 1) := by decide +kernel
theorem dX6_hasChange_25 : decode cX6_hasChange 25 = .ok (.iload_n 1, 1) := by decide +kernel
theorem dX6_hasChange_26 : decode cX6_hasChange 26 = .ok (.invokestatic 40, 3) := by decide +kernel
theorem dX6_hasChange_29 : decode cX6_hasChange 29 = .ok (.iadd, 1) := by decide +kernel
theorem dX6_hasChange_30 : decode cX6_hasChange 30 = .ok (.invokestatic 32, 3) := by decide +kernel
theorem dX6_hasChange_33 : decode cX6_hasChange 33 = .ok (.ifCond .eq 7, 3) := by decide +kernel
theorem dX6_hasChange_36 : decode cX6_hasChange 36 = .ok (.iconst 1, 1) := by decide +kernel
theorem dX6_hasChange_37 : decode cX6_hasChange 37 = .ok (.goto 4, 3) := by decide +kernel
theorem dX6_hasChange_40 : decode cX6_hasChange 40 = .ok (.iconst 0, 1) := by decide +kernel
theorem dX6_hasChange_41 : decode cX6_hasChange 41 = .ok (.ireturn, 1) := by decide +kernel
theorem dX6_change_0 : decode cX6_change 0 = .ok (.aload_n 0, 1) := by decide +kernel
theorem dX6_change_1 : decode cX6_change 1 = .ok (.getfield 11, 3) := by decide +kernel
theorem dX6_change_4 : decode cX6_change 4 = .ok (.iload_n 1, 1) := by decide +kernel
theorem dX6_change_5 : decode cX6_change 5 = .ok (.iconst 1, 1) := by decide +kernel
theorem dX6_change_6 : decode cX6_change 6 = .ok (.ishr, 1) := by decide +kernel
theorem dX6_change_7 : decode cX6_change 7 = .ok (.dup2, 1) := by decide +kernel
theorem dX6_change_8 : decode cX6_change 8 = .ok (.iaload, 1) := by decide +kernel
theorem dX6_change_9 : decode cX6_change 9 = .ok (.iload_n 1, 1) := by decide +kernel
theorem dX6_change_10 : decode cX6_change 10 = .ok (.invokestatic 40, 3) := by decide +kernel
theorem dX6_change_13 : decode cX6_change 13 = .ok (.iadd, 1) := by decide +kernel
theorem dX6_change_14 : decode cX6_change 14 = .ok (.iastore, 1) := by decide +kernel
theorem dX6_change_15 : decode cX6_change 15 = .ok (.return_, 1) := by decide +kernel
theorem dX6_changeBack_0 : decode cX6_changeBack 0 = .ok (.aload_n 0, 1) := by decide +kernel
theorem dX6_changeBack_1 : decode cX6_changeBack 1 = .ok (.getfield 11, 3) := by decide +kernel
theorem dX6_changeBack_4 : decode cX6_changeBack 4 = .ok (.iload_n 1, 1) := by decide +kernel
theorem dX6_changeBack_5 : decode cX6_changeBack 5 = .ok (.iconst 1, 1) := by decide +kernel
theorem dX6_changeBack_6 : decode cX6_changeBack 6 = .ok (.ishr, 1) := by decide +kernel
theorem dX6_changeBack_7 : decode cX6_changeBack 7 = .ok (.dup2, 1) := by decide +kernel
theorem dX6_changeBack_8 : decode cX6_changeBack 8 = .ok (.iaload, 1) := by decide +kernel
theorem dX6_changeBack_9 : decode cX6_changeBack 9 = .ok (.iload_n 1, 1) := by decide +kernel
theorem dX6_changeBack_10 : decode cX6_changeBack 10 = .ok (.invokestatic 40, 3) := by decide +kernel
theorem dX6_changeBack_13 : decode cX6_changeBack 13 = .ok (.isub, 1) := by decide +kernel
theorem dX6_changeBack_14 : decode cX6_changeBack 14 = .ok (.iastore, 1) := by decide +kernel
theorem dX6_changeBack_15 : decode cX6_changeBack 15 = .ok (.return_, 1) := by decide +kernel
theorem dX6_step_0 : decode cX6_step 0 = .ok (.iload_n 0, 1) := by decide +kernel
theorem dX6_step_1 : decode cX6_step 1 = .ok (.iconst 1, 1) := by decide +kernel
theorem dX6_step_2 : decode cX6_step 2 = .ok (.iand, 1) := by decide +kernel
theorem dX6_step_3 : decode cX6_step 3 = .ok (.ifCond .ne 7, 3) := by decide +kernel
theorem dX6_step_6 : decode cX6_step 6 = .ok (.iconst 1, 1) := by decide +kernel
theorem dX6_step_7 : decode cX6_step 7 = .ok (.goto 4, 3) := by decide +kernel
theorem dX6_step_10 : decode cX6_step 10 = .ok (.iconst (-1), 1) := by decide +kernel
theorem dX6_step_11 : decode cX6_step 11 = .ok (.ireturn, 1) := by decide +kernel
theorem dX7_init_0 : decode cX7_init 0 = .ok (.aload_n 0, 1) := by decide +kernel
theorem dX7_init_1 : decode cX7_init 1 = .ok (.invokespecial 1, 3) := by decide +kernel
theorem dX7_init_4 : decode cX7_init 4 = .ok (.aload_n 0, 1) := by decide +kernel
theorem dX7_init_5 : decode cX7_init 5 = .ok (.new 7, 3) := by decide +kernel
theorem dX7_init_8 : decode cX7_init 8 = .ok (.dup, 1) := by decide +kernel
theorem dX7_init_9 : decode cX7_init 9 = .ok (.invokespecial 9, 3) := by decide +kernel
theorem dX7_init_12 : decode cX7_init 12 = .ok (.putfield 10, 3) := by decide +kernel
theorem dX7_init_15 : decode cX7_init 15 = .ok (.aload_n 0, 1) := by decide +kernel
theorem dX7_init_16 : decode cX7_init 16 = .ok (.new 16, 3) := by decide +kernel
theorem dX7_init_19 : decode cX7_init 19 = .ok (.dup, 1) := by decide +kernel
theorem dX7_init_20 : decode cX7_init 20 = .ok (.invokespecial 18, 3) := by decide +kernel
theorem dX7_init_23 : decode cX7_init 23 = .ok (.putfield 19, 3) := by decide +kernel
theorem dX7_init_26 : decode cX7_init 26 = .ok (.aload_n 0, 1) := by decide +kernel
theorem dX7_init_27 : decode cX7_init 27 = .ok (.new 23, 3) := by decide +kernel
theorem dX7_init_30 : decode cX7_init 30 = .ok (.dup, 1) := by decide +kernel
theorem dX7_init_31 : decode cX7_init 31 = .ok (.invokespecial 25, 3) := by decide +kernel
theorem dX7_init_34 : decode cX7_init 34 = .ok (.putfield 26, 3) := by decide +kernel
theorem dX7_init_37 : decode cX7_init 37 = .ok (.aload_n 0, 1) := by decide +kernel
theorem dX7_init_38 : decode cX7_init 38 = .ok (.bipush 6, 2) := by decide +kernel
theorem dX7_init_40 : decode cX7_init 40 = .ok (.anewarray 30, 3) := by decide +kernel
theorem dX7_init_43 : decode cX7_init 43 = .ok (.putfield 32, 3) := by decide +kernel
theorem dX7_init_46 : decode cX7_init 46 = .ok (.iconst 0, 1) := by decide +kernel
theorem dX7_init_47 : decode cX7_init 47 = .ok (.istore_n 1, 1) := by decide +kernel
theorem dX7_init_48 : decode cX7_init 48 = .ok (.iload_n 1, 1) := by decide +kernel
theorem dX7_init_49 : decode cX7_init 49 = .ok (.bipush 6, 2) := by decide +kernel
theorem dX7_init_51 : decode cX7_init 51 = .ok (.if_icmp .ge 22, 3) := by decide +kernel
theorem dX7_init_54 : decode cX7_init 54 = .ok (.aload_n 0, 1) := by decide +kernel
theorem dX7_init_55 : decode cX7_init 55 = .ok (.getfield 32, 3) := by decide +kernel
theorem dX7_init_58 : decode cX7_init 58 = .ok (.iload_n 1, 1) := by decide +kernel
theorem dX7_init_59 : decode cX7_init 59 = .ok (.new 30, 3) := by decide +kernel
theorem dX7_init_62 : decode cX7_init 62 = .ok (.dup, 1) := by decide +kernel
theorem dX7_init_63 : decode cX7_init 63 = .ok (.invokespecial 36, 3) := by decide +kernel
theorem dX7_init_66 : decode cX7_init 66 = .ok (.aastore, 1) := by decide +kernel
theorem dX7_init_67 : decode cX7_init 67 = .ok (.iinc 1 1, 3) := by decide +kernel
theorem dX7_init_70 : decode cX7_init 70 = .ok (.goto (-22), 3) := by decide +kernel
theorem dX7_init_73 : decode cX7_init 73 = .ok (.aload_n 0, 1) := by decide +kernel
theorem dX7_init_74 : decode cX7_init 74 = .ok (.new 30, 3) := by decide +kernel
theorem dX7_init_77 : decode cX7_init 77 = .ok (.dup, 1) := by decide +kernel
theorem dX7_init_78 : decode cX7_init 78 = .ok (.invokespecial 36, 3) := by decide +kernel
theorem dX7_init_81 : decode cX7_init 81 = .ok (.putfield 37, 3) := by decide +kernel
theorem dX7_init_84 : decode cX7_init 84 = .ok (.aload_n 0, 1) := by decide +kernel
theorem dX7_init_85 : decode cX7_init 85 = .ok (.new 41, 3) := by decide +kernel
theorem dX7_init_88 : decode cX7_init 88 = .ok (.dup, 1) := by decide +kernel
theorem dX7_init_89 : decode cX7_init 89 = .ok (.aload_n 0, 1) := by decide +kernel
theorem dX7_init_90 : decode cX7_init 90 = .ok (.getfield 26, 3) := by decide +kernel
theorem dX7_init_93 : decode cX7_init 93 = .ok (.invokespecial 43, 3) := by decide +kernel
theorem dX7_init_96 : decode cX7_init 96 = .ok (.putfield 46, 3) := by decide +kernel
theorem dX7_init_99 : decode cX7_init 99 = .ok (.aload_n 0, 1) := by decide +kernel
theorem dX7_init_100 : decode cX7_init 100 = .ok (.bipush 6, 2) := by decide +kernel
theorem dX7_init_102 : decode cX7_init 102 = .ok (.newarray .int, 2) := by decide +kernel
theorem dX7_init_104 : decode cX7_init 104 = .ok (.putfield 50, 3) := by decide +kernel
theorem dX7_init_107 : decode cX7_init 107 = .ok (.aload_n 0, 1) := by decide +kernel
theorem dX7_init_108 : decode cX7_init 108 = .ok (.new 54, 3) := by decide +kernel
theorem dX7_init_111 : decode cX7_init 111 = .ok (.dup, 1) := by decide +kernel
theorem dX7_init_112 : decode cX7_init 112 = .ok (.invokespecial 56, 3) := by decide +kernel
theorem dX7_init_115 : decode cX7_init 115 = .ok (.putfield 57, 3) := by decide +kernel
theorem dX7_init_118 : decode cX7_init 118 = .ok (.aload_n 0, 1) := by decide +kernel
theorem dX7_init_119 : decode cX7_init 119 = .ok (.iconst 4, 1) := by decide +kernel
theorem dX7_init_120 : decode cX7_init 120 = .ok (.anewarray 61, 3) := by decide +kernel
theorem dX7_init_123 : decode cX7_init 123 = .ok (.putfield 63, 3) := by decide +kernel
theorem dX7_init_126 : decode cX7_init 126 = .ok (.iconst 0, 1) := by decide +kernel
theorem dX7_init_127 : decode cX7_init 127 = .ok (.istore_n 1, 1) := by decide +kernel
theorem dX7_init_128 : decode cX7_init 128 = .ok (.iload_n 1, 1) := by decide +kernel
theorem dX7_init_129 : decode cX7_init 129 = .ok (.iconst 4, 1) := by decide +kernel
theorem dX7_init_130 : decode cX7_init 130 = .ok (.if_icmp .ge 22, 3) := by decide +kernel
theorem dX7_init_133 : decode cX7_init 133 = .ok (.aload_n 0, 1) := by decide +kernel
theorem dX7_init_134 : decode cX7_init 134 = .ok (.getfield 63, 3) := by decide +kernel
theorem dX7_init_137 : decode cX7_init 137 = .ok (.iload_n 1, 1) := by decide +kernel
theorem dX7_init_138 : decode cX7_init 138 = .ok (.new 61, 3) := by decide +kernel
theorem dX7_init_141 : decode cX7_init 141 = .ok (.dup, 1) := by decide +kernel
theorem dX7_init_142 : decode cX7_init 142 = .ok (.invokespecial 67, 3) := by decide +kernel
theorem dX7_init_145 : decode cX7_init 145 = .ok (.aastore, 1) := by decide +kernel
theorem dX7_init_146 : decode cX7_init 146 = .ok (.iinc 1 1, 3) := by decide +kernel
theorem dX7_init_149 : decode cX7_init 149 = .ok (.goto (-21), 3) := by decide +kernel
theorem dX7_init_152 : decode cX7_init 152 = .ok (.return_, 1) := by decide +kernel
theorem dX7_feed_0 : decode cX7_feed 0 = .ok (.aload_n 0, 1) := by decide +kernel
theorem dX7_feed_1 : decode cX7_feed 1 = .ok (.getfield 10, 3) := by decide +kernel
theorem dX7_feed_4 : decode cX7_feed 4 = .ok (.lload_n 1, 1) := by decide +kernel
theorem dX7_feed_5 : decode cX7_feed 5 = .ok (.invokevirtual 68, 3) := by decide +kernel
theorem dX7_feed_8 : decode cX7_feed 8 = .ok (.ifCond .eq 13, 3) := by decide +kernel
theorem dX7_feed_11 : decode cX7_feed 11 = .ok (.aload_n 0, 1) := by decide +kernel
theorem dX7_feed_12 : decode cX7_feed 12 = .ok (.getfield 10, 3) := by decide +kernel
theorem dX7_feed_15 : decode cX7_feed 15 = .ok (.getfield 72, 3) := by decide +kernel
theorem dX7_feed_18 : decode cX7_feed 18 = .ok (.goto 5, 3) := by decide +kernel
theorem dX7_feed_21 : decode cX7_feed 21 = .ok (.bipush (-3), 2) := by decide +kernel
theorem dX7_feed_23 : decode cX7_feed 23 = .ok (.ireturn, 1) := by decide +kernel
theorem dX7_end_0 : decode cX7_end 0 = .ok (.iload_n 1, 1) := by decide +kernel
theorem dX7_end_1 : decode cX7_end 1 = .ok (.iconst 0, 1) := by decide +kernel
theorem dX7_end_2 : decode cX7_end 2 = .ok (.aload_n 0, 1) := by decide +kernel
theorem dX7_end_3 : decode cX7_end 3 = .ok (.getfield 10, 3) := by decide +kernel
theorem dX7_end_6 : decode cX7_end 6 = .ok (.getfield 72, 3) := by decide +kernel
theorem dX7_end_9 : decode cX7_end 9 = .ok (.invokestatic 76, 3) := by decide +kernel
theorem dX7_end_12 : decode cX7_end 12 = .ok (.ifCond .ne 5, 3) := by decide +kernel
theorem dX7_end_15 : decode cX7_end 15 = .ok (.iconst (-1), 1) := by decide +kernel
theorem dX7_end_16 : decode cX7_end 16 = .ok (.ireturn, 1) := by decide +kernel
theorem dX7_end_17 : decode cX7_end 17 = .ok (.aload_n 0, 1) := by decide +kernel
theorem dX7_end_18 : decode cX7_end 18 = .ok (.getfield 10, 3) := by decide +kernel
theorem dX7_end_21 : decode cX7_end 21 = .ok (.getfield 72, 3) := by decide +kernel
theorem dX7_end_24 : decode cX7_end 24 = .ok (.istore_n 2, 1) := by decide +kernel
theorem dX7_end_25 : decode cX7_end 25 = .ok (.aload_n 0, 1) := by decide +kernel
theorem dX7_end_26 : decode cX7_end 26 = .ok (.getfield 10, 3) := by decide +kernel
theorem dX7_end_29 : decode cX7_end 29 = .ok (.iload_n 1, 1) := by decide +kernel
theorem dX7_end_30 : decode cX7_end 30 = .ok (.putfield 72, 3) := by decide +kernel
theorem dX7_end_33 : decode cX7_end 33 = .ok (.iload_n 2, 1) := by decide +kernel
theorem dX7_end_34 : decode cX7_end 34 = .ok (.ireturn, 1) := by decide +kernel
theorem dX7_text_0 : decode cX7_text 0 = .ok (.aload_n 0, 1) := by decide +kernel
theorem dX7_text_1 : decode cX7_text 1 = .ok (.getfield 19, 3) := by decide +kernel
theorem dX7_text_4 : decode cX7_text 4 = .ok (.aload_n 0, 1) := by decide +kernel
theorem dX7_text_5 : decode cX7_text 5 = .ok (.getfield 10, 3) := by decide +kernel
theorem dX7_text_8 : decode cX7_text 8 = .ok (.invokevirtual 80, 3) := by decide +kernel
theorem dX7_text_11 : decode cX7_text 11 = .ok (.istore_n 1, 1) := by decide +kernel
theorem dX7_text_12 : decode cX7_text 12 = .ok (.aload_n 0, 1) := by decide +kernel
theorem dX7_text_13 : decode cX7_text 13 = .ok (.getfield 10, 3) := by decide +kernel
theorem dX7_text_16 : decode cX7_text 16 = .ok (.iconst 0, 1) := by decide +kernel
theorem dX7_text_17 : decode cX7_text 17 = .ok (.putfield 72, 3) := by decide +kernel
theorem dX7_text_20 : decode cX7_text 20 = .ok (.aload_n 0, 1) := by decide +kernel
theorem dX7_text_21 : decode cX7_text 21 = .ok (.getfield 19, 3) := by decide +kernel
theorem dX7_text_24 : decode cX7_text 24 = .ok (.getfield 84, 3) := by decide +kernel
theorem dX7_text_27 : decode cX7_text 27 = .ok (.ifCond .eq 14, 3) := by decide +kernel
theorem dX7_text_30 : decode cX7_text 30 = .ok (.bipush (-10), 2) := by decide +kernel
theorem dX7_text_32 : decode cX7_text 32 = .ok (.aload_n 0, 1) := by decide +kernel
theorem dX7_text_33 : decode cX7_text 33 = .ok (.getfield 19, 3) := by decide +kernel
theorem dX7_text_36 : decode cX7_text 36 = .ok (.getfield 87, 3) := by decide +kernel
theorem dX7_text_39 : decode cX7_text 39 = .ok (.isub, 1) := by decide +kernel
theorem dX7_text_40 : decode cX7_text 40 = .ok (.ireturn, 1) := by decide +kernel
theorem dX7_text_41 : decode cX7_text 41 = .ok (.aload_n 0, 1) := by decide +kernel
theorem dX7_text_42 : decode cX7_text 42 = .ok (.getfield 26, 3) := by decide +kernel
theorem dX7_text_45 : decode cX7_text 45 = .ok (.aload_n 0, 1) := by decide +kernel
theorem dX7_text_46 : decode cX7_text 46 = .ok (.getfield 19, 3) := by decide +kernel
theorem dX7_text_49 : decode cX7_text 49 = .ok (.getfield 90, 3) := by decide +kernel
theorem dX7_text_52 : decode cX7_text 52 = .ok (.invokevirtual 93, 3) := by decide +kernel
theorem dX7_text_55 : decode cX7_text 55 = .ok (.iload_n 1, 1) := by decide +kernel
theorem dX7_text_56 : decode cX7_text 56 = .ok (.ireturn, 1) := by decide +kernel
theorem dX7_fault_0 : decode cX7_fault 0 = .ok (.aload_n 0, 1) := by decide +kernel
theorem dX7_fault_1 : decode cX7_fault 1 = .ok (.getfield 19, 3) := by decide +kernel
theorem dX7_fault_4 : decode cX7_fault 4 = .ok (.getfield 84, 3) := by decide +kernel
theorem dX7_fault_7 : decode cX7_fault 7 = .ok (.ireturn, 1) := by decide +kernel
theorem dX7_rule_0 : decode cX7_rule 0 = .ok (.iload_n 1, 1) := by decide +kernel
theorem dX7_rule_1 : decode cX7_rule 1 = .ok (.iconst 0, 1) := by decide +kernel
theorem dX7_rule_2 : decode cX7_rule 2 = .ok (.bipush 17, 2) := by decide +kernel
theorem dX7_rule_4 : decode cX7_rule 4 = .ok (.invokestatic 76, 3) := by decide +kernel
theorem dX7_rule_7 : decode cX7_rule 7 = .ok (.ifCond .eq 15, 3) := by decide +kernel
theorem dX7_rule_10 : decode cX7_rule 10 = .ok (.aload_n 0, 1) := by decide +kernel
theorem dX7_rule_11 : decode cX7_rule 11 = .ok (.getfield 26, 3) := by decide +kernel
theorem dX7_rule_14 : decode cX7_rule 14 = .ok (.getfield 97, 3) := by decide +kernel
theorem dX7_rule_17 : decode cX7_rule 17 = .ok (.iload_n 1, 1) := by decide +kernel
theorem dX7_rule_18 : decode cX7_rule 18 = .ok (.iaload, 1) := by decide +kernel
theorem dX7_rule_19 : decode cX7_rule 19 = .ok (.goto 4, 3) := by decide +kernel
theorem dX7_rule_22 : decode cX7_rule 22 = .ok (.iconst (-1), 1) := by decide +kernel
theorem dX7_rule_23 : decode cX7_rule 23 = .ok (.ireturn, 1) := by decide +kernel
theorem dX7_way_0 : decode cX7_way 0 = .ok (.iload_n 1, 1) := by decide +kernel
theorem dX7_way_1 : decode cX7_way 1 = .ok (.invokestatic 100, 3) := by decide +kernel
theorem dX7_way_4 : decode cX7_way 4 = .ok (.ifCond .eq 11, 3) := by decide +kernel
theorem dX7_way_7 : decode cX7_way 7 = .ok (.iload_n 2, 1) := by decide +kernel
theorem dX7_way_8 : decode cX7_way 8 = .ok (.iload_n 3, 1) := by decide +kernel
theorem dX7_way_9 : decode cX7_way 9 = .ok (.invokestatic 104, 3) := by decide +kernel
theorem dX7_way_12 : decode cX7_way 12 = .ok (.ifCond .ne 5, 3) := by decide +kernel
theorem dX7_way_15 : decode cX7_way 15 = .ok (.iconst (-1), 1) := by decide +kernel
theorem dX7_way_16 : decode cX7_way 16 = .ok (.ireturn, 1) := by decide +kernel
theorem dX7_way_17 : decode cX7_way 17 = .ok (.aload_n 0, 1) := by decide +kernel
theorem dX7_way_18 : decode cX7_way 18 = .ok (.getfield 32, 3) := by decide +kernel
theorem dX7_way_21 : decode cX7_way 21 = .ok (.iload_n 1, 1) := by decide +kernel
theorem dX7_way_22 : decode cX7_way 22 = .ok (.aaload, 1) := by decide +kernel
theorem dX7_way_23 : decode cX7_way 23 = .ok (.getfield 108, 3) := by decide +kernel
theorem dX7_way_26 : decode cX7_way 26 = .ok (.istore 4, 2) := by decide +kernel
theorem dX7_way_28 : decode cX7_way 28 = .ok (.aload_n 0, 1) := by decide +kernel
theorem dX7_way_29 : decode cX7_way 29 = .ok (.getfield 32, 3) := by decide +kernel
theorem dX7_way_32 : decode cX7_way 32 = .ok (.iload_n 1, 1) := by decide +kernel
theorem dX7_way_33 : decode cX7_way 33 = .ok (.aaload, 1) := by decide +kernel
theorem dX7_way_34 : decode cX7_way 34 = .ok (.iload_n 2, 1) := by decide +kernel
theorem dX7_way_35 : decode cX7_way 35 = .ok (.iload_n 3, 1) := by decide +kernel
theorem dX7_way_36 : decode cX7_way 36 = .ok (.invokevirtual 111, 3) := by decide +kernel
theorem dX7_way_39 : decode cX7_way 39 = .ok (.iload 4, 2) := by decide +kernel
theorem dX7_way_41 : decode cX7_way 41 = .ok (.ireturn, 1) := by decide +kernel
theorem dX7_put_0 : decode cX7_put 0 = .ok (.aload_n 0, 1) := by decide +kernel
theorem dX7_put_1 : decode cX7_put 1 = .ok (.iload_n 1, 1) := by decide +kernel
theorem dX7_put_2 : decode cX7_put 2 = .ok (.iload_n 2, 1) := by decide +kernel
theorem dX7_put_3 : decode cX7_put 3 = .ok (.iload_n 3, 1) := by decide +kernel
theorem dX7_put_4 : decode cX7_put 4 = .ok (.invokevirtual 115, 3) := by decide +kernel
theorem dX7_put_7 : decode cX7_put 7 = .ok (.ifCond .eq 19, 3) := by decide +kernel
theorem dX7_put_10 : decode cX7_put 10 = .ok (.iload 4, 2) := by decide +kernel
theorem dX7_put_12 : decode cX7_put 12 = .ok (.invokestatic 118, 3) := by decide +kernel
theorem dX7_put_15 : decode cX7_put 15 = .ok (.ifCond .eq 11, 3) := by decide +kernel
theorem dX7_put_18 : decode cX7_put 18 = .ok (.iload 5, 2) := by decide +kernel
theorem dX7_put_20 : decode cX7_put 20 = .ok (.invokestatic 118, 3) := by decide +kernel
theorem dX7_put_23 : decode cX7_put 23 = .ok (.ifCond .ne 5, 3) := by decide +kernel
theorem dX7_put_26 : decode cX7_put 26 = .ok (.iconst (-1), 1) := by decide +kernel
theorem dX7_put_27 : decode cX7_put 27 = .ok (.ireturn, 1) := by decide +kernel
theorem dX7_put_28 : decode cX7_put 28 = .ok (.iload_n 2, 1) := by decide +kernel
theorem dX7_put_29 : decode cX7_put 29 = .ok (.iload_n 3, 1) := by decide +kernel
theorem dX7_put_30 : decode cX7_put 30 = .ok (.invokestatic 121, 3) := by decide +kernel
theorem dX7_put_33 : decode cX7_put 33 = .ok (.istore 6, 2) := by decide +kernel
theorem dX7_put_35 : decode cX7_put 35 = .ok (.aload_n 0, 1) := by decide +kernel
theorem dX7_put_36 : decode cX7_put 36 = .ok (.getfield 32, 3) := by decide +kernel
theorem dX7_put_39 : decode cX7_put 39 = .ok (.iload_n 1, 1) := by decide +kernel
theorem dX7_put_40 : decode cX7_put 40 = .ok (.aaload, 1) := by decide +kernel
theorem dX7_put_41 : decode cX7_put 41 = .ok (.getfield 125, 3) := by decide +kernel
theorem dX7_put_44 : decode cX7_put 44 = .ok (.iload 6, 2) := by decide +kernel
theorem dX7_put_46 : decode cX7_put 46 = .ok (.iload 4, 2) := by decide +kernel
theorem dX7_put_48 : decode cX7_put 48 = .ok (.iastore, 1) := by decide +kernel
theorem dX7_put_49 : decode cX7_put 49 = .ok (.aload_n 0, 1) := by decide +kernel
theorem dX7_put_50 : decode cX7_put 50 = .ok (.getfield 32, 3) := by decide +kernel
theorem dX7_put_53 : decode cX7_put 53 = .ok (.iload_n 1, 1) := by decide +kernel
theorem dX7_put_54 : decode cX7_put 54 = .ok (.aaload, 1) := by decide +kernel
theorem dX7_put_55 : decode cX7_put 55 = .ok (.getfield 125, 3) := by decide +kernel
theorem dX7_put_58 : decode cX7_put 58 = .ok (.iload 6, 2) := by decide +kernel
theorem dX7_put_60 : decode cX7_put 60 = .ok (.iconst 1, 1) := by decide +kernel
theorem dX7_put_61 : decode cX7_put 61 = .ok (.iadd, 1) := by decide +kernel
theorem dX7_put_62 : decode cX7_put 62 = .ok (.iload 5, 2) := by decide +kernel
theorem dX7_put_64 : decode cX7_put 64 = .ok (.iastore, 1) := by decide +kernel
theorem dX7_put_65 : decode cX7_put 65 = .ok (.iconst 1, 1) := by decide +kernel
theorem dX7_put_66 : decode cX7_put 66 = .ok (.ireturn, 1) := by decide +kernel
theorem dX7_at_0 : decode cX7_at 0 = .ok (.aload_n 0, 1) := by decide +kernel
theorem dX7_at_1 : decode cX7_at 1 = .ok (.iload_n 1, 1) := by decide +kernel
theorem dX7_at_2 : decode cX7_at 2 = .ok (.iload_n 2, 1) := by decide +kernel
theorem dX7_at_3 : decode cX7_at 3 = .ok (.iload_n 3, 1) := by decide +kernel
theorem dX7_at_4 : decode cX7_at 4 = .ok (.invokevirtual 115, 3) := by decide +kernel
theorem dX7_at_7 : decode cX7_at 7 = .ok (.ifCond .eq 13, 3) := by decide +kernel
theorem dX7_at_10 : decode cX7_at 10 = .ok (.iload 4, 2) := by decide +kernel
theorem dX7_at_12 : decode cX7_at 12 = .ok (.iconst 0, 1) := by decide +kernel
theorem dX7_at_13 : decode cX7_at 13 = .ok (.iconst 1, 1) := by decide +kernel
theorem dX7_at_14 : decode cX7_at 14 = .ok (.invokestatic 76, 3) := by decide +kernel
theorem dX7_at_17 : decode cX7_at 17 = .ok (.ifCond .ne 7, 3) := by decide +kernel
theorem dX7_at_20 : decode cX7_at 20 = .ok (.sipush (-1000), 3) := by decide +kernel
theorem dX7_at_23 : decode cX7_at 23 = .ok (.ireturn, 1) := by decide +kernel
theorem dX7_at_24 : decode cX7_at 24 = .ok (.aload_n 0, 1) := by decide +kernel
theorem dX7_at_25 : decode cX7_at 25 = .ok (.getfield 32, 3) := by decide +kernel
theorem dX7_at_28 : decode cX7_at 28 = .ok (.iload_n 1, 1) := by decide +kernel
theorem dX7_at_29 : decode cX7_at 29 = .ok (.aaload, 1) := by decide +kernel
theorem dX7_at_30 : decode cX7_at 30 = .ok (.getfield 125, 3) := by decide +kernel
theorem dX7_at_33 : decode cX7_at 33 = .ok (.iload_n 2, 1) := by decide +kernel
theorem dX7_at_34 : decode cX7_at 34 = .ok (.iload_n 3, 1) := by decide +kernel
theorem dX7_at_35 : decode cX7_at 35 = .ok (.invokestatic 121, 3) := by decide +kernel
theorem dX7_at_38 : decode cX7_at 38 = .ok (.iload 4, 2) := by decide +kernel
theorem dX7_at_40 : decode cX7_at 40 = .ok (.iadd, 1) := by decide +kernel
theorem dX7_at_41 : decode cX7_at 41 = .ok (.iaload, 1) := by decide +kernel
theorem dX7_at_42 : decode cX7_at 42 = .ok (.ireturn, 1) := by decide +kernel
theorem dX7_of_0 : decode cX7_of 0 = .ok (.aload_n 0, 1) := by decide +kernel
theorem dX7_of_1 : decode cX7_of 1 = .ok (.iload_n 1, 1) := by decide +kernel
theorem dX7_of_2 : decode cX7_of 2 = .ok (.invokevirtual 128, 3) := by decide +kernel
theorem dX7_of_5 : decode cX7_of 5 = .ok (.ifCond .eq 12, 3) := by decide +kernel
theorem dX7_of_8 : decode cX7_of 8 = .ok (.iload_n 2, 1) := by decide +kernel
theorem dX7_of_9 : decode cX7_of 9 = .ok (.iconst 0, 1) := by decide +kernel
theorem dX7_of_10 : decode cX7_of 10 = .ok (.iconst 1, 1) := by decide +kernel
theorem dX7_of_11 : decode cX7_of 11 = .ok (.invokestatic 76, 3) := by decide +kernel
theorem dX7_of_14 : decode cX7_of 14 = .ok (.ifCond .ne 5, 3) := by decide +kernel
theorem dX7_of_17 : decode cX7_of 17 = .ok (.iconst (-1), 1) := by decide +kernel
theorem dX7_of_18 : decode cX7_of 18 = .ok (.ireturn, 1) := by decide +kernel
theorem dX7_of_19 : decode cX7_of 19 = .ok (.iload_n 2, 1) := by decide +kernel
theorem dX7_of_20 : decode cX7_of 20 = .ok (.ifCond .ne 15, 3) := by decide +kernel
theorem dX7_of_23 : decode cX7_of 23 = .ok (.aload_n 0, 1) := by decide +kernel
theorem dX7_of_24 : decode cX7_of 24 = .ok (.getfield 32, 3) := by decide +kernel
theorem dX7_of_27 : decode cX7_of 27 = .ok (.iload_n 1, 1) := by decide +kernel
theorem dX7_of_28 : decode cX7_of 28 = .ok (.aaload, 1) := by decide +kernel
theorem dX7_of_29 : decode cX7_of 29 = .ok (.getfield 108, 3) := by decide +kernel
theorem dX7_of_32 : decode cX7_of 32 = .ok (.goto 12, 3) := by decide +kernel
theorem dX7_of_35 : decode cX7_of 35 = .ok (.aload_n 0, 1) := by decide +kernel
theorem dX7_of_36 : decode cX7_of 36 = .ok (.getfield 32, 3) := by decide +kernel
theorem dX7_of_39 : decode cX7_of 39 = .ok (.iload_n 1, 1) := by decide +kernel
theorem dX7_of_40 : decode cX7_of 40 = .ok (.aaload, 1) := by decide +kernel
theorem dX7_of_41 : decode cX7_of 41 = .ok (.getfield 131, 3) := by decide +kernel
theorem dX7_of_44 : decode cX7_of 44 = .ok (.ireturn, 1) := by decide +kernel
theorem dX7_copy_0 : decode cX7_copy 0 = .ok (.aload_n 0, 1) := by decide +kernel
theorem dX7_copy_1 : decode cX7_copy 1 = .ok (.iload_n 1, 1) := by decide +kernel
theorem dX7_copy_2 : decode cX7_copy 2 = .ok (.invokevirtual 128, 3) := by decide +kernel
theorem dX7_copy_5 : decode cX7_copy 5 = .ok (.ifCond .eq 10, 3) := by decide +kernel
theorem dX7_copy_8 : decode cX7_copy 8 = .ok (.iload_n 2, 1) := by decide +kernel
theorem dX7_copy_9 : decode cX7_copy 9 = .ok (.invokestatic 100, 3) := by decide +kernel
theorem dX7_copy_12 : decode cX7_copy 12 = .ok (.ifCond .ne 5, 3) := by decide +kernel
theorem dX7_copy_15 : decode cX7_copy 15 = .ok (.iconst (-1), 1) := by decide +kernel
theorem dX7_copy_16 : decode cX7_copy 16 = .ok (.ireturn, 1) := by decide +kernel
theorem dX7_copy_17 : decode cX7_copy 17 = .ok (.aload_n 0, 1) := by decide +kernel
theorem dX7_copy_18 : decode cX7_copy 18 = .ok (.getfield 32, 3) := by decide +kernel
theorem dX7_copy_21 : decode cX7_copy 21 = .ok (.iload_n 2, 1) := by decide +kernel
theorem dX7_copy_22 : decode cX7_copy 22 = .ok (.aaload, 1) := by decide +kernel
theorem dX7_copy_23 : decode cX7_copy 23 = .ok (.aload_n 0, 1) := by decide +kernel
theorem dX7_copy_24 : decode cX7_copy 24 = .ok (.getfield 32, 3) := by decide +kernel
theorem dX7_copy_27 : decode cX7_copy 27 = .ok (.iload_n 1, 1) := by decide +kernel
theorem dX7_copy_28 : decode cX7_copy 28 = .ok (.aaload, 1) := by decide +kernel
theorem dX7_copy_29 : decode cX7_copy 29 = .ok (.invokevirtual 134, 3) := by decide +kernel
theorem dX7_copy_32 : decode cX7_copy 32 = .ok (.iconst 1, 1) := by decide +kernel
theorem dX7_copy_33 : decode cX7_copy 33 = .ok (.ireturn, 1) := by decide +kernel
theorem dX7_place_0 : decode cX7_place 0 = .ok (.aload_n 0, 1) := by decide +kernel
theorem dX7_place_1 : decode cX7_place 1 = .ok (.iload_n 1, 1) := by decide +kernel
theorem dX7_place_2 : decode cX7_place 2 = .ok (.iload_n 2, 1) := by decide +kernel
theorem dX7_place_3 : decode cX7_place 3 = .ok (.iload_n 3, 1) := by decide +kernel
theorem dX7_place_4 : decode cX7_place 4 = .ok (.invokevirtual 115, 3) := by decide +kernel
theorem dX7_place_7 : decode cX7_place 7 = .ok (.ifCond .eq 13, 3) := by decide +kernel
theorem dX7_place_10 : decode cX7_place 10 = .ok (.iload 4, 2) := by decide +kernel
theorem dX7_place_12 : decode cX7_place 12 = .ok (.iconst 0, 1) := by decide +kernel
theorem dX7_place_13 : decode cX7_place 13 = .ok (.iconst 1, 1) := by decide +kernel
theorem dX7_place_14 : decode cX7_place 14 = .ok (.invokestatic 76, 3) := by decide +kernel
theorem dX7_place_17 : decode cX7_place 17 = .ok (.ifCond .ne 6, 3) := by decide +kernel
theorem dX7_place_20 : decode cX7_place 20 = .ok (.ldc 138, 2) := by decide +kernel
theorem dX7_place_22 : decode cX7_place 22 = .ok (.ireturn, 1) := by decide +kernel
theorem dX7_place_23 : decode cX7_place 23 = .ok (.aload_n 0, 1) := by decide +kernel
theorem dX7_place_24 : decode cX7_place 24 = .ok (.getfield 46, 3) := by decide +kernel
theorem dX7_place_27 : decode cX7_place 27 = .ok (.aload_n 0, 1) := by decide +kernel
theorem dX7_place_28 : decode cX7_place 28 = .ok (.getfield 32, 3) := by decide +kernel
theorem dX7_place_31 : decode cX7_place 31 = .ok (.iload_n 1, 1) := by decide +kernel
theorem dX7_place_32 : decode cX7_place 32 = .ok (.aaload, 1) := by decide +kernel
theorem dX7_place_33 : decode cX7_place 33 = .ok (.iload_n 2, 1) := by decide +kernel
theorem dX7_place_34 : decode cX7_place 34 = .ok (.iload_n 3, 1) := by decide +kernel
theorem dX7_place_35 : decode cX7_place 35 = .ok (.iload 4, 2) := by decide +kernel
theorem dX7_place_37 : decode cX7_place 37 = .ok (.invokevirtual 139, 3) := by decide +kernel
theorem dX7_place_40 : decode cX7_place 40 = .ok (.ireturn, 1) := by decide +kernel
theorem dX7_near_0 : decode cX7_near 0 = .ok (.aload_n 0, 1) := by decide +kernel
theorem dX7_near_1 : decode cX7_near 1 = .ok (.iload_n 1, 1) := by decide +kernel
theorem dX7_near_2 : decode cX7_near 2 = .ok (.iload_n 2, 1) := by decide +kernel
theorem dX7_near_3 : decode cX7_near 3 = .ok (.iload_n 3, 1) := by decide +kernel
theorem dX7_near_4 : decode cX7_near 4 = .ok (.invokevirtual 115, 3) := by decide +kernel
theorem dX7_near_7 : decode cX7_near 7 = .ok (.ifCond .ne 5, 3) := by decide +kernel
theorem dX7_near_10 : decode cX7_near 10 = .ok (.iconst (-1), 1) := by decide +kernel
theorem dX7_near_11 : decode cX7_near 11 = .ok (.ireturn, 1) := by decide +kernel
theorem dX7_near_12 : decode cX7_near 12 = .ok (.aload_n 0, 1) := by decide +kernel
theorem dX7_near_13 : decode cX7_near 13 = .ok (.getfield 46, 3) := by decide +kernel
theorem dX7_near_16 : decode cX7_near 16 = .ok (.aload_n 0, 1) := by decide +kernel
theorem dX7_near_17 : decode cX7_near 17 = .ok (.getfield 46, 3) := by decide +kernel
theorem dX7_near_20 : decode cX7_near 20 = .ok (.aload_n 0, 1) := by decide +kernel
theorem dX7_near_21 : decode cX7_near 21 = .ok (.getfield 32, 3) := by decide +kernel
theorem dX7_near_24 : decode cX7_near 24 = .ok (.iload_n 1, 1) := by decide +kernel
theorem dX7_near_25 : decode cX7_near 25 = .ok (.aaload, 1) := by decide +kernel
theorem dX7_near_26 : decode cX7_near 26 = .ok (.iload_n 2, 1) := by decide +kernel
theorem dX7_near_27 : decode cX7_near 27 = .ok (.iload_n 3, 1) := by decide +kernel
theorem dX7_near_28 : decode cX7_near 28 = .ok (.iconst 0, 1) := by decide +kernel
theorem dX7_near_29 : decode cX7_near 29 = .ok (.invokevirtual 139, 3) := by decide +kernel
theorem dX7_near_32 : decode cX7_near 32 = .ok (.invokevirtual 143, 3) := by decide +kernel
theorem dX7_near_35 : decode cX7_near 35 = .ok (.ifCond .eq 7, 3) := by decide +kernel
theorem dX7_near_38 : decode cX7_near 38 = .ok (.iconst 1, 1) := by decide +kernel
theorem dX7_near_39 : decode cX7_near 39 = .ok (.goto 4, 3) := by decide +kernel
theorem dX7_near_42 : decode cX7_near 42 = .ok (.iconst 0, 1) := by decide +kernel
theorem dX7_near_43 : decode cX7_near 43 = .ok (.ireturn, 1) := by decide +kernel
theorem dX7_high_0 : decode cX7_high 0 = .ok (.aload_n 0, 1) := by decide +kernel
theorem dX7_high_1 : decode cX7_high 1 = .ok (.iload_n 1, 1) := by decide +kernel
theorem dX7_high_2 : decode cX7_high 2 = .ok (.invokevirtual 128, 3) := by decide +kernel
theorem dX7_high_5 : decode cX7_high 5 = .ok (.ifCond .ne 5, 3) := by decide +kernel
theorem dX7_high_8 : decode cX7_high 8 = .ok (.iconst (-1), 1) := by decide +kernel
theorem dX7_high_9 : decode cX7_high 9 = .ok (.ireturn, 1) := by decide +kernel
theorem dX7_high_10 : decode cX7_high 10 = .ok (.aload_n 0, 1) := by decide +kernel
theorem dX7_high_11 : decode cX7_high 11 = .ok (.getfield 46, 3) := by decide +kernel
theorem dX7_high_14 : decode cX7_high 14 = .ok (.aload_n 0, 1) := by decide +kernel
theorem dX7_high_15 : decode cX7_high 15 = .ok (.getfield 32, 3) := by decide +kernel
theorem dX7_high_18 : decode cX7_high 18 = .ok (.iload_n 1, 1) := by decide +kernel
theorem dX7_high_19 : decode cX7_high 19 = .ok (.aaload, 1) := by decide +kernel
theorem dX7_high_20 : decode cX7_high 20 = .ok (.invokevirtual 146, 3) := by decide +kernel
theorem dX7_high_23 : decode cX7_high 23 = .ok (.aload_n 0, 1) := by decide +kernel
theorem dX7_high_24 : decode cX7_high 24 = .ok (.getfield 46, 3) := by decide +kernel
theorem dX7_high_27 : decode cX7_high 27 = .ok (.aload_n 0, 1) := by decide +kernel
theorem dX7_high_28 : decode cX7_high 28 = .ok (.getfield 32, 3) := by decide +kernel
theorem dX7_high_31 : decode cX7_high 31 = .ok (.iload_n 1, 1) := by decide +kernel
theorem dX7_high_32 : decode cX7_high 32 = .ok (.aaload, 1) := by decide +kernel
theorem dX7_high_33 : decode cX7_high 33 = .ok (.invokevirtual 149, 3) := by decide +kernel
theorem dX7_high_36 : decode cX7_high 36 = .ok (.ireturn, 1) := by decide +kernel
theorem dX7_lowest_0 : decode cX7_lowest 0 = .ok (.aload_n 0, 1) := by decide +kernel
theorem dX7_lowest_1 : decode cX7_lowest 1 = .ok (.iload_n 1, 1) := by decide +kernel
theorem dX7_lowest_2 : decode cX7_lowest 2 = .ok (.invokevirtual 128, 3) := by decide +kernel
theorem dX7_lowest_5 : decode cX7_lowest 5 = .ok (.ifCond .ne 5, 3) := by decide +kernel
theorem dX7_lowest_8 : decode cX7_lowest 8 = .ok (.iconst (-1), 1) := by decide +kernel
theorem dX7_lowest_9 : decode cX7_lowest 9 = .ok (.ireturn, 1) := by decide +kernel
theorem dX7_lowest_10 : decode cX7_lowest 10 = .ok (.aload_n 0, 1) := by decide +kernel
theorem dX7_lowest_11 : decode cX7_lowest 11 = .ok (.getfield 46, 3) := by decide +kernel
theorem dX7_lowest_14 : decode cX7_lowest 14 = .ok (.aload_n 0, 1) := by decide +kernel
theorem dX7_lowest_15 : decode cX7_lowest 15 = .ok (.getfield 32, 3) := by decide +kernel
theorem dX7_lowest_18 : decode cX7_lowest 18 = .ok (.iload_n 1, 1) := by decide +kernel
theorem dX7_lowest_19 : decode cX7_lowest 19 = .ok (.aaload, 1) := by decide +kernel
theorem dX7_lowest_20 : decode cX7_lowest 20 = .ok (.invokevirtual 146, 3) := by decide +kernel
theorem dX7_lowest_23 : decode cX7_lowest 23 = .ok (.aload_n 0, 1) := by decide +kernel
theorem dX7_lowest_24 : decode cX7_lowest 24 = .ok (.getfield 46, 3) := by decide +kernel
theorem dX7_lowest_27 : decode cX7_lowest 27 = .ok (.aload_n 0, 1) := by decide +kernel
theorem dX7_lowest_28 : decode cX7_lowest 28 = .ok (.getfield 32, 3) := by decide +kernel
theorem dX7_lowest_31 : decode cX7_lowest 31 = .ok (.iload_n 1, 1) := by decide +kernel
theorem dX7_lowest_32 : decode cX7_lowest 32 = .ok (.aaload, 1) := by decide +kernel
theorem dX7_lowest_33 : decode cX7_lowest 33 = .ok (.invokevirtual 153, 3) := by decide +kernel
theorem dX7_lowest_36 : decode cX7_lowest 36 = .ok (.istore_n 2, 1) := by decide +kernel
theorem dX7_lowest_37 : decode cX7_lowest 37 = .ok (.iload_n 2, 1) := by decide +kernel
theorem dX7_lowest_38 : decode cX7_lowest 38 = .ok (.ifCond .lt 21, 3) := by decide +kernel
theorem dX7_lowest_41 : decode cX7_lowest 41 = .ok (.aload_n 0, 1) := by decide +kernel
theorem dX7_lowest_42 : decode cX7_lowest 42 = .ok (.getfield 46, 3) := by decide +kernel
theorem dX7_lowest_45 : decode cX7_lowest 45 = .ok (.aload_n 0, 1) := by decide +kernel
theorem dX7_lowest_46 : decode cX7_lowest 46 = .ok (.getfield 32, 3) := by decide +kernel
theorem dX7_lowest_49 : decode cX7_lowest 49 = .ok (.iload_n 1, 1) := by decide +kernel
theorem dX7_lowest_50 : decode cX7_lowest 50 = .ok (.aaload, 1) := by decide +kernel
theorem dX7_lowest_51 : decode cX7_lowest 51 = .ok (.invokevirtual 149, 3) := by decide +kernel
theorem dX7_lowest_54 : decode cX7_lowest 54 = .ok (.bipush (-4), 2) := by decide +kernel
theorem dX7_lowest_56 : decode cX7_lowest 56 = .ok (.if_icmp .ne 6, 3) := by decide +kernel
theorem dX7_lowest_59 : decode cX7_lowest 59 = .ok (.bipush (-4), 2) := by decide +kernel
theorem dX7_lowest_61 : decode cX7_lowest 61 = .ok (.ireturn, 1) := by decide +kernel
theorem dX7_lowest_62 : decode cX7_lowest 62 = .ok (.iconst 4, 1) := by decide +kernel
theorem dX7_lowest_63 : decode cX7_lowest 63 = .ok (.iload_n 2, 1) := by decide +kernel
theorem dX7_lowest_64 : decode cX7_lowest 64 = .ok (.imul, 1) := by decide +kernel
theorem dX7_lowest_65 : decode cX7_lowest 65 = .ok (.aload_n 0, 1) := by decide +kernel
theorem dX7_lowest_66 : decode cX7_lowest 66 = .ok (.getfield 46, 3) := by decide +kernel
theorem dX7_lowest_69 : decode cX7_lowest 69 = .ok (.getfield 156, 3) := by decide +kernel
theorem dX7_lowest_72 : decode cX7_lowest 72 = .ok (.iload_n 2, 1) := by decide +kernel
theorem dX7_lowest_73 : decode cX7_lowest 73 = .ok (.iaload, 1) := by decide +kernel
theorem dX7_lowest_74 : decode cX7_lowest 74 = .ok (.iadd, 1) := by decide +kernel
theorem dX7_lowest_75 : decode cX7_lowest 75 = .ok (.ireturn, 1) := by decide +kernel
theorem dX7_under_0 : decode cX7_under 0 = .ok (.aload_n 0, 1) := by decide +kernel
theorem dX7_under_1 : decode cX7_under 1 = .ok (.iload_n 1, 1) := by decide +kernel
theorem dX7_under_2 : decode cX7_under 2 = .ok (.invokevirtual 128, 3) := by decide +kernel
theorem dX7_under_5 : decode cX7_under 5 = .ok (.ifCond .ne 6, 3) := by decide +kernel
theorem dX7_under_8 : decode cX7_under 8 = .ok (.ldc 138, 2) := by decide +kernel
theorem dX7_under_10 : decode cX7_under 10 = .ok (.ireturn, 1) := by decide +kernel
theorem dX7_under_11 : decode cX7_under 11 = .ok (.aload_n 0, 1) := by decide +kernel
theorem dX7_under_12 : decode cX7_under 12 = .ok (.getfield 46, 3) := by decide +kernel
theorem dX7_under_15 : decode cX7_under 15 = .ok (.aload_n 0, 1) := by decide +kernel
theorem dX7_under_16 : decode cX7_under 16 = .ok (.getfield 32, 3) := by decide +kernel
theorem dX7_under_19 : decode cX7_under 19 = .ok (.iload_n 1, 1) := by decide +kernel
theorem dX7_under_20 : decode cX7_under 20 = .ok (.aaload, 1) := by decide +kernel
theorem dX7_under_21 : decode cX7_under 21 = .ok (.invokevirtual 146, 3) := by decide +kernel
theorem dX7_under_24 : decode cX7_under 24 = .ok (.aload_n 0, 1) := by decide +kernel
theorem dX7_under_25 : decode cX7_under 25 = .ok (.getfield 46, 3) := by decide +kernel
theorem dX7_under_28 : decode cX7_under 28 = .ok (.aload_n 0, 1) := by decide +kernel
theorem dX7_under_29 : decode cX7_under 29 = .ok (.getfield 32, 3) := by decide +kernel
theorem dX7_under_32 : decode cX7_under 32 = .ok (.iload_n 1, 1) := by decide +kernel
theorem dX7_under_33 : decode cX7_under 33 = .ok (.aaload, 1) := by decide +kernel
theorem dX7_under_34 : decode cX7_under 34 = .ok (.invokevirtual 149, 3) := by decide +kernel
theorem dX7_under_37 : decode cX7_under 37 = .ok (.istore_n 2, 1) := by decide +kernel
theorem dX7_under_38 : decode cX7_under 38 = .ok (.iload_n 2, 1) := by decide +kernel
theorem dX7_under_39 : decode cX7_under 39 = .ok (.bipush (-4), 2) := by decide +kernel
theorem dX7_under_41 : decode cX7_under 41 = .ok (.if_icmp .eq 19, 3) := by decide +kernel
theorem dX7_under_44 : decode cX7_under 44 = .ok (.aload_n 0, 1) := by decide +kernel
theorem dX7_under_45 : decode cX7_under 45 = .ok (.getfield 46, 3) := by decide +kernel
theorem dX7_under_48 : decode cX7_under 48 = .ok (.aload_n 0, 1) := by decide +kernel
theorem dX7_under_49 : decode cX7_under 49 = .ok (.getfield 32, 3) := by decide +kernel
theorem dX7_under_52 : decode cX7_under 52 = .ok (.iload_n 1, 1) := by decide +kernel
theorem dX7_under_53 : decode cX7_under 53 = .ok (.aaload, 1) := by decide +kernel
theorem dX7_under_54 : decode cX7_under 54 = .ok (.invokevirtual 153, 3) := by decide +kernel
theorem dX7_under_57 : decode cX7_under 57 = .ok (.ifCond .ge 6, 3) := by decide +kernel
theorem dX7_under_60 : decode cX7_under 60 = .ok (.ldc 159, 2) := by decide +kernel
theorem dX7_under_62 : decode cX7_under 62 = .ok (.ireturn, 1) := by decide +kernel
theorem dX7_under_63 : decode cX7_under 63 = .ok (.aload_n 0, 1) := by decide +kernel
theorem dX7_under_64 : decode cX7_under 64 = .ok (.getfield 46, 3) := by decide +kernel
theorem dX7_under_67 : decode cX7_under 67 = .ok (.aload_n 0, 1) := by decide +kernel
theorem dX7_under_68 : decode cX7_under 68 = .ok (.getfield 32, 3) := by decide +kernel
theorem dX7_under_71 : decode cX7_under 71 = .ok (.iload_n 1, 1) := by decide +kernel
theorem dX7_under_72 : decode cX7_under 72 = .ok (.aaload, 1) := by decide +kernel
theorem dX7_under_73 : decode cX7_under 73 = .ok (.invokevirtual 160, 3) := by decide +kernel
theorem dX7_under_76 : decode cX7_under 76 = .ok (.aload_n 0, 1) := by decide +kernel
theorem dX7_under_77 : decode cX7_under 77 = .ok (.getfield 26, 3) := by decide +kernel
theorem dX7_under_80 : decode cX7_under 80 = .ok (.invokevirtual 163, 3) := by decide +kernel
theorem dX7_under_83 : decode cX7_under 83 = .ok (.iload_n 2, 1) := by decide +kernel
theorem dX7_under_84 : decode cX7_under 84 = .ok (.imul, 1) := by decide +kernel
theorem dX7_under_85 : decode cX7_under 85 = .ok (.isub, 1) := by decide +kernel
theorem dX7_under_86 : decode cX7_under 86 = .ok (.ireturn, 1) := by decide +kernel
theorem dX7_order_0 : decode cX7_order 0 = .ok (.aload_n 0, 1) := by decide +kernel
theorem dX7_order_1 : decode cX7_order 1 = .ok (.iload_n 1, 1) := by decide +kernel
theorem dX7_order_2 : decode cX7_order 2 = .ok (.invokevirtual 128, 3) := by decide +kernel
theorem dX7_order_5 : decode cX7_order 5 = .ok (.ifCond .ne 5, 3) := by decide +kernel
theorem dX7_order_8 : decode cX7_order 8 = .ok (.iconst (-1), 1) := by decide +kernel
theorem dX7_order_9 : decode cX7_order 9 = .ok (.ireturn, 1) := by decide +kernel
theorem dX7_order_10 : decode cX7_order 10 = .ok (.aload_n 0, 1) := by decide +kernel
theorem dX7_order_11 : decode cX7_order 11 = .ok (.getfield 46, 3) := by decide +kernel
theorem dX7_order_14 : decode cX7_order 14 = .ok (.aload_n 0, 1) := by decide +kernel
theorem dX7_order_15 : decode cX7_order 15 = .ok (.getfield 32, 3) := by decide +kernel
theorem dX7_order_18 : decode cX7_order 18 = .ok (.iload_n 1, 1) := by decide +kernel
theorem dX7_order_19 : decode cX7_order 19 = .ok (.aaload, 1) := by decide +kernel
theorem dX7_order_20 : decode cX7_order 20 = .ok (.invokevirtual 146, 3) := by decide +kernel
theorem dX7_order_23 : decode cX7_order 23 = .ok (.aload_n 0, 1) := by decide +kernel
theorem dX7_order_24 : decode cX7_order 24 = .ok (.getfield 46, 3) := by decide +kernel
theorem dX7_order_27 : decode cX7_order 27 = .ok (.aload_n 0, 1) := by decide +kernel
theorem dX7_order_28 : decode cX7_order 28 = .ok (.getfield 32, 3) := by decide +kernel
theorem dX7_order_31 : decode cX7_order 31 = .ok (.iload_n 1, 1) := by decide +kernel
theorem dX7_order_32 : decode cX7_order 32 = .ok (.aaload, 1) := by decide +kernel
theorem dX7_order_33 : decode cX7_order 33 = .ok (.invokevirtual 167, 3) := by decide +kernel
theorem dX7_order_36 : decode cX7_order 36 = .ok (.ifCond .eq 19, 3) := by decide +kernel
theorem dX7_order_39 : decode cX7_order 39 = .ok (.aload_n 0, 1) := by decide +kernel
theorem dX7_order_40 : decode cX7_order 40 = .ok (.getfield 46, 3) := by decide +kernel
theorem dX7_order_43 : decode cX7_order 43 = .ok (.aload_n 0, 1) := by decide +kernel
theorem dX7_order_44 : decode cX7_order 44 = .ok (.getfield 32, 3) := by decide +kernel
theorem dX7_order_47 : decode cX7_order 47 = .ok (.iload_n 1, 1) := by decide +kernel
theorem dX7_order_48 : decode cX7_order 48 = .ok (.aaload, 1) := by decide +kernel
theorem dX7_order_49 : decode cX7_order 49 = .ok (.invokevirtual 171, 3) := by decide +kernel
theorem dX7_order_52 : decode cX7_order 52 = .ok (.goto 5, 3) := by decide +kernel
theorem dX7_order_55 : decode cX7_order 55 = .ok (.bipush (-4), 2) := by decide +kernel
theorem dX7_order_57 : decode cX7_order 57 = .ok (.ireturn, 1) := by decide +kernel
theorem dX7_barred_0 : decode cX7_barred 0 = .ok (.aload_n 0, 1) := by decide +kernel
theorem dX7_barred_1 : decode cX7_barred 1 = .ok (.iload_n 1, 1) := by decide +kernel
theorem dX7_barred_2 : decode cX7_barred 2 = .ok (.invokevirtual 128, 3) := by decide +kernel
theorem dX7_barred_5 : decode cX7_barred 5 = .ok (.ifCond .ne 5, 3) := by decide +kernel
theorem dX7_barred_8 : decode cX7_barred 8 = .ok (.iconst (-1), 1) := by decide +kernel
theorem dX7_barred_9 : decode cX7_barred 9 = .ok (.ireturn, 1) := by decide +kernel
theorem dX7_barred_10 : decode cX7_barred 10 = .ok (.aload_n 0, 1) := by decide +kernel
theorem dX7_barred_11 : decode cX7_barred 11 = .ok (.getfield 46, 3) := by decide +kernel
theorem dX7_barred_14 : decode cX7_barred 14 = .ok (.aload_n 0, 1) := by decide +kernel
theorem dX7_barred_15 : decode cX7_barred 15 = .ok (.getfield 32, 3) := by decide +kernel
theorem dX7_barred_18 : decode cX7_barred 18 = .ok (.iload_n 1, 1) := by decide +kernel
theorem dX7_barred_19 : decode cX7_barred 19 = .ok (.aaload, 1) := by decide +kernel
theorem dX7_barred_20 : decode cX7_barred 20 = .ok (.invokevirtual 146, 3) := by decide +kernel
theorem dX7_barred_23 : decode cX7_barred 23 = .ok (.aload_n 0, 1) := by decide +kernel
theorem dX7_barred_24 : decode cX7_barred 24 = .ok (.getfield 46, 3) := by decide +kernel
theorem dX7_barred_27 : decode cX7_barred 27 = .ok (.aload_n 0, 1) := by decide +kernel
theorem dX7_barred_28 : decode cX7_barred 28 = .ok (.getfield 32, 3) := by decide +kernel
theorem dX7_barred_31 : decode cX7_barred 31 = .ok (.iload_n 1, 1) := by decide +kernel
theorem dX7_barred_32 : decode cX7_barred 32 = .ok (.aaload, 1) := by decide +kernel
theorem dX7_barred_33 : decode cX7_barred 33 = .ok (.invokevirtual 174, 3) := by decide +kernel
theorem dX7_barred_36 : decode cX7_barred 36 = .ok (.ireturn, 1) := by decide +kernel
theorem dX7_pits_0 : decode cX7_pits 0 = .ok (.aload_n 0, 1) := by decide +kernel
theorem dX7_pits_1 : decode cX7_pits 1 = .ok (.iload_n 1, 1) := by decide +kernel
theorem dX7_pits_2 : decode cX7_pits 2 = .ok (.invokevirtual 128, 3) := by decide +kernel
theorem dX7_pits_5 : decode cX7_pits 5 = .ok (.ifCond .ne 5, 3) := by decide +kernel
theorem dX7_pits_8 : decode cX7_pits 8 = .ok (.iconst (-1), 1) := by decide +kernel
theorem dX7_pits_9 : decode cX7_pits 9 = .ok (.ireturn, 1) := by decide +kernel
theorem dX7_pits_10 : decode cX7_pits 10 = .ok (.iconst 0, 1) := by decide +kernel
theorem dX7_pits_11 : decode cX7_pits 11 = .ok (.istore_n 2, 1) := by decide +kernel
theorem dX7_pits_12 : decode cX7_pits 12 = .ok (.iconst 0, 1) := by decide +kernel
theorem dX7_pits_13 : decode cX7_pits 13 = .ok (.istore_n 3, 1) := by decide +kernel
theorem dX7_pits_14 : decode cX7_pits 14 = .ok (.iload_n 3, 1) := by decide +kernel
theorem dX7_pits_15 : decode cX7_pits 15 = .ok (.iconst 2, 1) := by decide +kernel
theorem dX7_pits_16 : decode cX7_pits 16 = .ok (.if_icmp .gt 28, 3) := by decide +kernel
theorem dX7_pits_19 : decode cX7_pits 19 = .ok (.iload_n 3, 1) := by decide +kernel
theorem dX7_pits_20 : decode cX7_pits 20 = .ok (.aload_n 0, 1) := by decide +kernel
theorem dX7_pits_21 : decode cX7_pits 21 = .ok (.getfield 32, 3) := by decide +kernel
theorem dX7_pits_24 : decode cX7_pits 24 = .ok (.iload_n 1, 1) := by decide +kernel
theorem dX7_pits_25 : decode cX7_pits 25 = .ok (.aaload, 1) := by decide +kernel
theorem dX7_pits_26 : decode cX7_pits 26 = .ok (.invokestatic 177, 3) := by decide +kernel
theorem dX7_pits_29 : decode cX7_pits 29 = .ok (.ifCond .eq 9, 3) := by decide +kernel
theorem dX7_pits_32 : decode cX7_pits 32 = .ok (.iload_n 2, 1) := by decide +kernel
theorem dX7_pits_33 : decode cX7_pits 33 = .ok (.iconst 1, 1) := by decide +kernel
theorem dX7_pits_34 : decode cX7_pits 34 = .ok (.iload_n 3, 1) := by decide +kernel
theorem dX7_pits_35 : decode cX7_pits 35 = .ok (.ishl, 1) := by decide +kernel
theorem dX7_pits_36 : decode cX7_pits 36 = .ok (.ior, 1) := by decide +kernel
theorem dX7_pits_37 : decode cX7_pits 37 = .ok (.istore_n 2, 1) := by decide +kernel
theorem dX7_pits_38 : decode cX7_pits 38 = .ok (.iinc 3 1, 3) := by decide +kernel
theorem dX7_pits_41 : decode cX7_pits 41 = .ok (.goto (-27), 3) := by decide +kernel
theorem dX7_pits_44 : decode cX7_pits 44 = .ok (.iload_n 2, 1) := by decide +kernel
theorem dX7_pits_45 : decode cX7_pits 45 = .ok (.ireturn, 1) := by decide +kernel
theorem dX7_worth_0 : decode cX7_worth 0 = .ok (.aload_n 0, 1) := by decide +kernel
theorem dX7_worth_1 : decode cX7_worth 1 = .ok (.iload_n 1, 1) := by decide +kernel
theorem dX7_worth_2 : decode cX7_worth 2 = .ok (.invokevirtual 128, 3) := by decide +kernel
theorem dX7_worth_5 : decode cX7_worth 5 = .ok (.ifCond .eq 21, 3) := by decide +kernel
theorem dX7_worth_8 : decode cX7_worth 8 = .ok (.iload_n 2, 1) := by decide +kernel
theorem dX7_worth_9 : decode cX7_worth 9 = .ok (.iconst (-1), 1) := by decide +kernel
theorem dX7_worth_10 : decode cX7_worth 10 = .ok (.if_icmp .eq 20, 3) := by decide +kernel
theorem dX7_worth_13 : decode cX7_worth 13 = .ok (.aload_n 0, 1) := by decide +kernel
theorem dX7_worth_14 : decode cX7_worth 14 = .ok (.getfield 32, 3) := by decide +kernel
theorem dX7_worth_17 : decode cX7_worth 17 = .ok (.iload_n 1, 1) := by decide +kernel
theorem dX7_worth_18 : decode cX7_worth 18 = .ok (.aaload, 1) := by decide +kernel
theorem dX7_worth_19 : decode cX7_worth 19 = .ok (.iload_n 2, 1) := by decide +kernel
theorem dX7_worth_20 : decode cX7_worth 20 = .ok (.invokevirtual 181, 3) := by decide +kernel
theorem dX7_worth_23 : decode cX7_worth 23 = .ok (.ifCond .ne 7, 3) := by decide +kernel
theorem dX7_worth_26 : decode cX7_worth 26 = .ok (.sipush (-1000), 3) := by decide +kernel
theorem dX7_worth_29 : decode cX7_worth 29 = .ok (.ireturn, 1) := by decide +kernel
theorem dX7_worth_30 : decode cX7_worth 30 = .ok (.aload_n 0, 1) := by decide +kernel
theorem dX7_worth_31 : decode cX7_worth 31 = .ok (.getfield 46, 3) := by decide +kernel
theorem dX7_worth_34 : decode cX7_worth 34 = .ok (.aload_n 0, 1) := by decide +kernel
theorem dX7_worth_35 : decode cX7_worth 35 = .ok (.getfield 32, 3) := by decide +kernel
theorem dX7_worth_38 : decode cX7_worth 38 = .ok (.iload_n 1, 1) := by decide +kernel
theorem dX7_worth_39 : decode cX7_worth 39 = .ok (.aaload, 1) := by decide +kernel
theorem dX7_worth_40 : decode cX7_worth 40 = .ok (.invokevirtual 146, 3) := by decide +kernel
theorem dX7_worth_43 : decode cX7_worth 43 = .ok (.iload_n 2, 1) := by decide +kernel
theorem dX7_worth_44 : decode cX7_worth 44 = .ok (.iconst (-1), 1) := by decide +kernel
theorem dX7_worth_45 : decode cX7_worth 45 = .ok (.if_icmp .ne 19, 3) := by decide +kernel
theorem dX7_worth_48 : decode cX7_worth 48 = .ok (.aload_n 0, 1) := by decide +kernel
theorem dX7_worth_49 : decode cX7_worth 49 = .ok (.getfield 46, 3) := by decide +kernel
theorem dX7_worth_52 : decode cX7_worth 52 = .ok (.aload_n 0, 1) := by decide +kernel
theorem dX7_worth_53 : decode cX7_worth 53 = .ok (.getfield 32, 3) := by decide +kernel
theorem dX7_worth_56 : decode cX7_worth 56 = .ok (.iload_n 1, 1) := by decide +kernel
theorem dX7_worth_57 : decode cX7_worth 57 = .ok (.aaload, 1) := by decide +kernel
theorem dX7_worth_58 : decode cX7_worth 58 = .ok (.invokevirtual 184, 3) := by decide +kernel
theorem dX7_worth_61 : decode cX7_worth 61 = .ok (.goto 17, 3) := by decide +kernel
theorem dX7_worth_64 : decode cX7_worth 64 = .ok (.aload_n 0, 1) := by decide +kernel
theorem dX7_worth_65 : decode cX7_worth 65 = .ok (.getfield 46, 3) := by decide +kernel
theorem dX7_worth_68 : decode cX7_worth 68 = .ok (.aload_n 0, 1) := by decide +kernel
theorem dX7_worth_69 : decode cX7_worth 69 = .ok (.getfield 32, 3) := by decide +kernel
theorem dX7_worth_72 : decode cX7_worth 72 = .ok (.iload_n 1, 1) := by decide +kernel
theorem dX7_worth_73 : decode cX7_worth 73 = .ok (.aaload, 1) := by decide +kernel
theorem dX7_worth_74 : decode cX7_worth 74 = .ok (.iload_n 2, 1) := by decide +kernel
theorem dX7_worth_75 : decode cX7_worth 75 = .ok (.invokevirtual 187, 3) := by decide +kernel
theorem dX7_worth_78 : decode cX7_worth 78 = .ok (.ireturn, 1) := by decide +kernel
theorem dX7_better_0 : decode cX7_better 0 = .ok (.aload_n 0, 1) := by decide +kernel
theorem dX7_better_1 : decode cX7_better 1 = .ok (.iload_n 1, 1) := by decide +kernel
theorem dX7_better_2 : decode cX7_better 2 = .ok (.invokevirtual 128, 3) := by decide +kernel
theorem dX7_better_5 : decode cX7_better 5 = .ok (.ifCond .ne 5, 3) := by decide +kernel
theorem dX7_better_8 : decode cX7_better 8 = .ok (.iconst (-1), 1) := by decide +kernel
theorem dX7_better_9 : decode cX7_better 9 = .ok (.ireturn, 1) := by decide +kernel
theorem dX7_better_10 : decode cX7_better 10 = .ok (.aload_n 0, 1) := by decide +kernel
theorem dX7_better_11 : decode cX7_better 11 = .ok (.getfield 46, 3) := by decide +kernel
theorem dX7_better_14 : decode cX7_better 14 = .ok (.aload_n 0, 1) := by decide +kernel
theorem dX7_better_15 : decode cX7_better 15 = .ok (.getfield 32, 3) := by decide +kernel
theorem dX7_better_18 : decode cX7_better 18 = .ok (.iload_n 1, 1) := by decide +kernel
theorem dX7_better_19 : decode cX7_better 19 = .ok (.aaload, 1) := by decide +kernel
theorem dX7_better_20 : decode cX7_better 20 = .ok (.invokevirtual 191, 3) := by decide +kernel
theorem dX7_better_23 : decode cX7_better 23 = .ok (.aload_n 0, 1) := by decide +kernel
theorem dX7_better_24 : decode cX7_better 24 = .ok (.getfield 46, 3) := by decide +kernel
theorem dX7_better_27 : decode cX7_better 27 = .ok (.invokevirtual 194, 3) := by decide +kernel
theorem dX7_better_30 : decode cX7_better 30 = .ok (.ireturn, 1) := by decide +kernel
theorem dX7_climb_0 : decode cX7_climb 0 = .ok (.aload_n 0, 1) := by decide +kernel
theorem dX7_climb_1 : decode cX7_climb 1 = .ok (.iload_n 1, 1) := by decide +kernel
theorem dX7_climb_2 : decode cX7_climb 2 = .ok (.invokevirtual 128, 3) := by decide +kernel
theorem dX7_climb_5 : decode cX7_climb 5 = .ok (.ifCond .eq 13, 3) := by decide +kernel
theorem dX7_climb_8 : decode cX7_climb 8 = .ok (.iload_n 2, 1) := by decide +kernel
theorem dX7_climb_9 : decode cX7_climb 9 = .ok (.iconst 1, 1) := by decide +kernel
theorem dX7_climb_10 : decode cX7_climb 10 = .ok (.bipush 40, 2) := by decide +kernel
theorem dX7_climb_12 : decode cX7_climb 12 = .ok (.invokestatic 76, 3) := by decide +kernel
theorem dX7_climb_15 : decode cX7_climb 15 = .ok (.ifCond .ne 5, 3) := by decide +kernel
theorem dX7_climb_18 : decode cX7_climb 18 = .ok (.iconst (-1), 1) := by decide +kernel
theorem dX7_climb_19 : decode cX7_climb 19 = .ok (.ireturn, 1) := by decide +kernel
theorem dX7_climb_20 : decode cX7_climb 20 = .ok (.iconst 0, 1) := by decide +kernel
theorem dX7_climb_21 : decode cX7_climb 21 = .ok (.istore_n 3, 1) := by decide +kernel
theorem dX7_climb_22 : decode cX7_climb 22 = .ok (.iload_n 3, 1) := by decide +kernel
theorem dX7_climb_23 : decode cX7_climb 23 = .ok (.iload_n 2, 1) := by decide +kernel
theorem dX7_climb_24 : decode cX7_climb 24 = .ok (.if_icmp .ge 49, 3) := by decide +kernel
theorem dX7_climb_27 : decode cX7_climb 27 = .ok (.aload_n 0, 1) := by decide +kernel
theorem dX7_climb_28 : decode cX7_climb 28 = .ok (.getfield 46, 3) := by decide +kernel
theorem dX7_climb_31 : decode cX7_climb 31 = .ok (.aload_n 0, 1) := by decide +kernel
theorem dX7_climb_32 : decode cX7_climb 32 = .ok (.getfield 32, 3) := by decide +kernel
theorem dX7_climb_35 : decode cX7_climb 35 = .ok (.iload_n 1, 1) := by decide +kernel
theorem dX7_climb_36 : decode cX7_climb 36 = .ok (.aaload, 1) := by decide +kernel
theorem dX7_climb_37 : decode cX7_climb 37 = .ok (.invokevirtual 191, 3) := by decide +kernel
theorem dX7_climb_40 : decode cX7_climb 40 = .ok (.aload_n 0, 1) := by decide +kernel
theorem dX7_climb_41 : decode cX7_climb 41 = .ok (.getfield 46, 3) := by decide +kernel
theorem dX7_climb_44 : decode cX7_climb 44 = .ok (.invokevirtual 194, 3) := by decide +kernel
theorem dX7_climb_47 : decode cX7_climb 47 = .ok (.istore 4, 2) := by decide +kernel
theorem dX7_climb_49 : decode cX7_climb 49 = .ok (.iload 4, 2) := by decide +kernel
theorem dX7_climb_51 : decode cX7_climb 51 = .ok (.ifCond .ge 5, 3) := by decide +kernel
theorem dX7_climb_54 : decode cX7_climb 54 = .ok (.iload_n 3, 1) := by decide +kernel
theorem dX7_climb_55 : decode cX7_climb 55 = .ok (.ireturn, 1) := by decide +kernel
theorem dX7_climb_56 : decode cX7_climb 56 = .ok (.aload_n 0, 1) := by decide +kernel
theorem dX7_climb_57 : decode cX7_climb 57 = .ok (.getfield 32, 3) := by decide +kernel
theorem dX7_climb_60 : decode cX7_climb 60 = .ok (.iload_n 1, 1) := by decide +kernel
theorem dX7_climb_61 : decode cX7_climb 61 = .ok (.aaload, 1) := by decide +kernel
theorem dX7_climb_62 : decode cX7_climb 62 = .ok (.iload 4, 2) := by decide +kernel
theorem dX7_climb_64 : decode cX7_climb 64 = .ok (.invokevirtual 197, 3) := by decide +kernel
theorem dX7_climb_67 : decode cX7_climb 67 = .ok (.iinc 3 1, 3) := by decide +kernel
theorem dX7_climb_70 : decode cX7_climb 70 = .ok (.goto (-48), 3) := by decide +kernel
theorem dX7_climb_73 : decode cX7_climb 73 = .ok (.iload_n 2, 1) := by decide +kernel
theorem dX7_climb_74 : decode cX7_climb 74 = .ok (.ireturn, 1) := by decide +kernel
theorem dX7_around_0 : decode cX7_around 0 = .ok (.aload_n 0, 1) := by decide +kernel
theorem dX7_around_1 : decode cX7_around 1 = .ok (.iload_n 1, 1) := by decide +kernel
theorem dX7_around_2 : decode cX7_around 2 = .ok (.invokevirtual 128, 3) := by decide +kernel
theorem dX7_around_5 : decode cX7_around 5 = .ok (.ifCond .eq 12, 3) := by decide +kernel
theorem dX7_around_8 : decode cX7_around 8 = .ok (.iload_n 2, 1) := by decide +kernel
theorem dX7_around_9 : decode cX7_around 9 = .ok (.iconst 0, 1) := by decide +kernel
theorem dX7_around_10 : decode cX7_around 10 = .ok (.iconst 2, 1) := by decide +kernel
theorem dX7_around_11 : decode cX7_around 11 = .ok (.invokestatic 76, 3) := by decide +kernel
theorem dX7_around_14 : decode cX7_around 14 = .ok (.ifCond .ne 5, 3) := by decide +kernel
theorem dX7_around_17 : decode cX7_around 17 = .ok (.iconst (-1), 1) := by decide +kernel
theorem dX7_around_18 : decode cX7_around 18 = .ok (.ireturn, 1) := by decide +kernel
theorem dX7_around_19 : decode cX7_around 19 = .ok (.aload_n 0, 1) := by decide +kernel
theorem dX7_around_20 : decode cX7_around 20 = .ok (.getfield 46, 3) := by decide +kernel
theorem dX7_around_23 : decode cX7_around 23 = .ok (.aload_n 0, 1) := by decide +kernel
theorem dX7_around_24 : decode cX7_around 24 = .ok (.getfield 32, 3) := by decide +kernel
theorem dX7_around_27 : decode cX7_around 27 = .ok (.iload_n 1, 1) := by decide +kernel
theorem dX7_around_28 : decode cX7_around 28 = .ok (.aaload, 1) := by decide +kernel
theorem dX7_around_29 : decode cX7_around 29 = .ok (.invokevirtual 191, 3) := by decide +kernel
theorem dX7_around_32 : decode cX7_around 32 = .ok (.iload_n 2, 1) := by decide +kernel
theorem dX7_around_33 : decode cX7_around 33 = .ok (.iconst 2, 1) := by decide +kernel
theorem dX7_around_34 : decode cX7_around 34 = .ok (.if_icmp .ne 7, 3) := by decide +kernel
theorem dX7_around_37 : decode cX7_around 37 = .ok (.iconst 1, 1) := by decide +kernel
theorem dX7_around_38 : decode cX7_around 38 = .ok (.goto 5, 3) := by decide +kernel
theorem dX7_around_41 : decode cX7_around 41 = .ok (.iload_n 2, 1) := by decide +kernel
theorem dX7_around_42 : decode cX7_around 42 = .ok (.ineg, 1) := by decide +kernel
theorem dX7_around_43 : decode cX7_around 43 = .ok (.istore_n 3, 1) := by decide +kernel
theorem dX7_around_44 : decode cX7_around 44 = .ok (.aload_n 0, 1) := by decide +kernel
theorem dX7_around_45 : decode cX7_around 45 = .ok (.getfield 46, 3) := by decide +kernel
theorem dX7_around_48 : decode cX7_around 48 = .ok (.iload_n 3, 1) := by decide +kernel
theorem dX7_around_49 : decode cX7_around 49 = .ok (.invokevirtual 201, 3) := by decide +kernel
theorem dX7_around_52 : decode cX7_around 52 = .ok (.ireturn, 1) := by decide +kernel
theorem dX7_valley_0 : decode cX7_valley 0 = .ok (.aload_n 0, 1) := by decide +kernel
theorem dX7_valley_1 : decode cX7_valley 1 = .ok (.iload_n 1, 1) := by decide +kernel
theorem dX7_valley_2 : decode cX7_valley 2 = .ok (.invokevirtual 128, 3) := by decide +kernel
theorem dX7_valley_5 : decode cX7_valley 5 = .ok (.ifCond .eq 20, 3) := by decide +kernel
theorem dX7_valley_8 : decode cX7_valley 8 = .ok (.aload_n 0, 1) := by decide +kernel
theorem dX7_valley_9 : decode cX7_valley 9 = .ok (.iload_n 2, 1) := by decide +kernel
theorem dX7_valley_10 : decode cX7_valley 10 = .ok (.invokevirtual 128, 3) := by decide +kernel
theorem dX7_valley_13 : decode cX7_valley 13 = .ok (.ifCond .eq 12, 3) := by decide +kernel
theorem dX7_valley_16 : decode cX7_valley 16 = .ok (.iload_n 3, 1) := by decide +kernel
theorem dX7_valley_17 : decode cX7_valley 17 = .ok (.iconst 0, 1) := by decide +kernel
theorem dX7_valley_18 : decode cX7_valley 18 = .ok (.iconst 1, 1) := by decide +kernel
theorem dX7_valley_19 : decode cX7_valley 19 = .ok (.invokestatic 76, 3) := by decide +kernel
theorem dX7_valley_22 : decode cX7_valley 22 = .ok (.ifCond .ne 5, 3) := by decide +kernel
theorem dX7_valley_25 : decode cX7_valley 25 = .ok (.iconst (-1), 1) := by decide +kernel
theorem dX7_valley_26 : decode cX7_valley 26 = .ok (.ireturn, 1) := by decide +kernel
theorem dX7_valley_27 : decode cX7_valley 27 = .ok (.aload_n 0, 1) := by decide +kernel
theorem dX7_valley_28 : decode cX7_valley 28 = .ok (.getfield 32, 3) := by decide +kernel
theorem dX7_valley_31 : decode cX7_valley 31 = .ok (.iload_n 1, 1) := by decide +kernel
theorem dX7_valley_32 : decode cX7_valley 32 = .ok (.aaload, 1) := by decide +kernel
theorem dX7_valley_33 : decode cX7_valley 33 = .ok (.getfield 108, 3) := by decide +kernel
theorem dX7_valley_36 : decode cX7_valley 36 = .ok (.aload_n 0, 1) := by decide +kernel
theorem dX7_valley_37 : decode cX7_valley 37 = .ok (.getfield 32, 3) := by decide +kernel
theorem dX7_valley_40 : decode cX7_valley 40 = .ok (.iload_n 2, 1) := by decide +kernel
theorem dX7_valley_41 : decode cX7_valley 41 = .ok (.aaload, 1) := by decide +kernel
theorem dX7_valley_42 : decode cX7_valley 42 = .ok (.getfield 108, 3) := by decide +kernel
theorem dX7_valley_45 : decode cX7_valley 45 = .ok (.if_icmp .eq 6, 3) := by decide +kernel
theorem dX7_valley_48 : decode cX7_valley 48 = .ok (.bipush (-2), 2) := by decide +kernel
theorem dX7_valley_50 : decode cX7_valley 50 = .ok (.ireturn, 1) := by decide +kernel
theorem dX7_valley_51 : decode cX7_valley 51 = .ok (.iload_n 3, 1) := by decide +kernel
theorem dX7_valley_52 : decode cX7_valley 52 = .ok (.iconst 1, 1) := by decide +kernel
theorem dX7_valley_53 : decode cX7_valley 53 = .ok (.if_icmp .ne 19, 3) := by decide +kernel
theorem dX7_valley_56 : decode cX7_valley 56 = .ok (.aload_n 0, 1) := by decide +kernel
theorem dX7_valley_57 : decode cX7_valley 57 = .ok (.getfield 32, 3) := by decide +kernel
theorem dX7_valley_60 : decode cX7_valley 60 = .ok (.iload_n 1, 1) := by decide +kernel
theorem dX7_valley_61 : decode cX7_valley 61 = .ok (.aaload, 1) := by decide +kernel
theorem dX7_valley_62 : decode cX7_valley 62 = .ok (.aload_n 0, 1) := by decide +kernel
theorem dX7_valley_63 : decode cX7_valley 63 = .ok (.getfield 32, 3) := by decide +kernel
theorem dX7_valley_66 : decode cX7_valley 66 = .ok (.iload_n 2, 1) := by decide +kernel
theorem dX7_valley_67 : decode cX7_valley 67 = .ok (.aaload, 1) := by decide +kernel
theorem dX7_valley_68 : decode cX7_valley 68 = .ok (.invokevirtual 205, 3) := by decide +kernel
theorem dX7_valley_71 : decode cX7_valley 71 = .ok (.ireturn, 1) := by decide +kernel
theorem dX7_valley_72 : decode cX7_valley 72 = .ok (.aload_n 0, 1) := by decide +kernel
theorem dX7_valley_73 : decode cX7_valley 73 = .ok (.getfield 37, 3) := by decide +kernel
theorem dX7_valley_76 : decode cX7_valley 76 = .ok (.aload_n 0, 1) := by decide +kernel
theorem dX7_valley_77 : decode cX7_valley 77 = .ok (.getfield 32, 3) := by decide +kernel
theorem dX7_valley_80 : decode cX7_valley 80 = .ok (.iload_n 1, 1) := by decide +kernel
theorem dX7_valley_81 : decode cX7_valley 81 = .ok (.aaload, 1) := by decide +kernel
theorem dX7_valley_82 : decode cX7_valley 82 = .ok (.invokevirtual 134, 3) := by decide +kernel
theorem dX7_valley_85 : decode cX7_valley 85 = .ok (.aload_n 0, 1) := by decide +kernel
theorem dX7_valley_86 : decode cX7_valley 86 = .ok (.getfield 46, 3) := by decide +kernel
theorem dX7_valley_89 : decode cX7_valley 89 = .ok (.aload_n 0, 1) := by decide +kernel
theorem dX7_valley_90 : decode cX7_valley 90 = .ok (.getfield 37, 3) := by decide +kernel
theorem dX7_valley_93 : decode cX7_valley 93 = .ok (.aload_n 0, 1) := by decide +kernel
theorem dX7_valley_94 : decode cX7_valley 94 = .ok (.getfield 32, 3) := by decide +kernel
theorem dX7_valley_97 : decode cX7_valley 97 = .ok (.iload_n 2, 1) := by decide +kernel
theorem dX7_valley_98 : decode cX7_valley 98 = .ok (.aaload, 1) := by decide +kernel
theorem dX7_valley_99 : decode cX7_valley 99 = .ok (.invokevirtual 208, 3) := by decide +kernel
theorem dX7_valley_102 : decode cX7_valley 102 = .ok (.ireturn, 1) := by decide +kernel
theorem dX7_best_0 : decode cX7_best 0 = .ok (.iload_n 1, 1) := by decide +kernel
theorem dX7_best_1 : decode cX7_best 1 = .ok (.iconst 0, 1) := by decide +kernel
theorem dX7_best_2 : decode cX7_best 2 = .ok (.iconst 1, 1) := by decide +kernel
theorem dX7_best_3 : decode cX7_best 3 = .ok (.invokestatic 76, 3) := by decide +kernel
theorem dX7_best_6 : decode cX7_best 6 = .ok (.ifCond .ne 5, 3) := by decide +kernel
theorem dX7_best_9 : decode cX7_best 9 = .ok (.iconst (-1), 1) := by decide +kernel
theorem dX7_best_10 : decode cX7_best 10 = .ok (.ireturn, 1) := by decide +kernel
theorem dX7_best_11 : decode cX7_best 11 = .ok (.aload_n 0, 1) := by decide +kernel
theorem dX7_best_12 : decode cX7_best 12 = .ok (.invokevirtual 212, 3) := by decide +kernel
theorem dX7_best_15 : decode cX7_best 15 = .ok (.istore_n 2, 1) := by decide +kernel
theorem dX7_best_16 : decode cX7_best 16 = .ok (.iload_n 1, 1) := by decide +kernel
theorem dX7_best_17 : decode cX7_best 17 = .ok (.ifCond .ne 5, 3) := by decide +kernel
theorem dX7_best_20 : decode cX7_best 20 = .ok (.iload_n 2, 1) := by decide +kernel
theorem dX7_best_21 : decode cX7_best 21 = .ok (.ireturn, 1) := by decide +kernel
theorem dX7_best_22 : decode cX7_best 22 = .ok (.iload_n 2, 1) := by decide +kernel
theorem dX7_best_23 : decode cX7_best 23 = .ok (.bipush (-4), 2) := by decide +kernel
theorem dX7_best_25 : decode cX7_best 25 = .ok (.if_icmp .ne 7, 3) := by decide +kernel
theorem dX7_best_28 : decode cX7_best 28 = .ok (.iconst (-1), 1) := by decide +kernel
theorem dX7_best_29 : decode cX7_best 29 = .ok (.goto 9, 3) := by decide +kernel
theorem dX7_best_32 : decode cX7_best 32 = .ok (.aload_n 0, 1) := by decide +kernel
theorem dX7_best_33 : decode cX7_best 33 = .ok (.getfield 50, 3) := by decide +kernel
theorem dX7_best_36 : decode cX7_best 36 = .ok (.iload_n 2, 1) := by decide +kernel
theorem dX7_best_37 : decode cX7_best 37 = .ok (.iaload, 1) := by decide +kernel
theorem dX7_best_38 : decode cX7_best 38 = .ok (.ireturn, 1) := by decide +kernel
theorem dX7_suits_0 : decode cX7_suits 0 = .ok (.iload_n 1, 1) := by decide +kernel
theorem dX7_suits_1 : decode cX7_suits 1 = .ok (.invokestatic 215, 3) := by decide +kernel
theorem dX7_suits_4 : decode cX7_suits 4 = .ok (.ifCond .eq 20, 3) := by decide +kernel
theorem dX7_suits_7 : decode cX7_suits 7 = .ok (.iload_n 2, 1) := by decide +kernel
theorem dX7_suits_8 : decode cX7_suits 8 = .ok (.getstatic 218, 3) := by decide +kernel
theorem dX7_suits_11 : decode cX7_suits 11 = .ok (.iload_n 1, 1) := by decide +kernel
theorem dX7_suits_12 : decode cX7_suits 12 = .ok (.iaload, 1) := by decide +kernel
theorem dX7_suits_13 : decode cX7_suits 13 = .ok (.getstatic 221, 3) := by decide +kernel
theorem dX7_suits_16 : decode cX7_suits 16 = .ok (.iload_n 1, 1) := by decide +kernel
theorem dX7_suits_17 : decode cX7_suits 17 = .ok (.iaload, 1) := by decide +kernel
theorem dX7_suits_18 : decode cX7_suits 18 = .ok (.invokestatic 76, 3) := by decide +kernel
theorem dX7_suits_21 : decode cX7_suits 21 = .ok (.ifCond .ne 5, 3) := by decide +kernel
theorem dX7_suits_24 : decode cX7_suits 24 = .ok (.iconst (-1), 1) := by decide +kernel
theorem dX7_suits_25 : decode cX7_suits 25 = .ok (.ireturn, 1) := by decide +kernel
theorem dX7_suits_26 : decode cX7_suits 26 = .ok (.aload_n 0, 1) := by decide +kernel
theorem dX7_suits_27 : decode cX7_suits 27 = .ok (.getfield 26, 3) := by decide +kernel
theorem dX7_suits_30 : decode cX7_suits 30 = .ok (.getfield 97, 3) := by decide +kernel
theorem dX7_suits_33 : decode cX7_suits 33 = .ok (.iload_n 1, 1) := by decide +kernel
theorem dX7_suits_34 : decode cX7_suits 34 = .ok (.iaload, 1) := by decide +kernel
theorem dX7_suits_35 : decode cX7_suits 35 = .ok (.istore_n 3, 1) := by decide +kernel
theorem dX7_suits_36 : decode cX7_suits 36 = .ok (.aload_n 0, 1) := by decide +kernel
theorem dX7_suits_37 : decode cX7_suits 37 = .ok (.getfield 26, 3) := by decide +kernel
theorem dX7_suits_40 : decode cX7_suits 40 = .ok (.getfield 97, 3) := by decide +kernel
theorem dX7_suits_43 : decode cX7_suits 43 = .ok (.iload_n 1, 1) := by decide +kernel
theorem dX7_suits_44 : decode cX7_suits 44 = .ok (.iload_n 2, 1) := by decide +kernel
theorem dX7_suits_45 : decode cX7_suits 45 = .ok (.iastore, 1) := by decide +kernel
theorem dX7_suits_46 : decode cX7_suits 46 = .ok (.aload_n 0, 1) := by decide +kernel
theorem dX7_suits_47 : decode cX7_suits 47 = .ok (.invokevirtual 212, 3) := by decide +kernel
theorem dX7_suits_50 : decode cX7_suits 50 = .ok (.istore 4, 2) := by decide +kernel
theorem dX7_suits_52 : decode cX7_suits 52 = .ok (.aload_n 0, 1) := by decide +kernel
theorem dX7_suits_53 : decode cX7_suits 53 = .ok (.getfield 26, 3) := by decide +kernel
theorem dX7_suits_56 : decode cX7_suits 56 = .ok (.getfield 97, 3) := by decide +kernel
theorem dX7_suits_59 : decode cX7_suits 59 = .ok (.iload_n 1, 1) := by decide +kernel
theorem dX7_suits_60 : decode cX7_suits 60 = .ok (.iload_n 3, 1) := by decide +kernel
theorem dX7_suits_61 : decode cX7_suits 61 = .ok (.iastore, 1) := by decide +kernel
theorem dX7_suits_62 : decode cX7_suits 62 = .ok (.iload 4, 2) := by decide +kernel
theorem dX7_suits_64 : decode cX7_suits 64 = .ok (.ireturn, 1) := by decide +kernel
theorem dX7_pays_0 : decode cX7_pays 0 = .ok (.iload_n 1, 1) := by decide +kernel
theorem dX7_pays_1 : decode cX7_pays 1 = .ok (.iconst 0, 1) := by decide +kernel
theorem dX7_pays_2 : decode cX7_pays 2 = .ok (.sipush 999, 3) := by decide +kernel
theorem dX7_pays_5 : decode cX7_pays 5 = .ok (.invokestatic 76, 3) := by decide +kernel
theorem dX7_pays_8 : decode cX7_pays 8 = .ok (.ifCond .eq 36, 3) := by decide +kernel
theorem dX7_pays_11 : decode cX7_pays 11 = .ok (.iload_n 2, 1) := by decide +kernel
theorem dX7_pays_12 : decode cX7_pays 12 = .ok (.iconst 0, 1) := by decide +kernel
theorem dX7_pays_13 : decode cX7_pays 13 = .ok (.sipush 999, 3) := by decide +kernel
theorem dX7_pays_16 : decode cX7_pays 16 = .ok (.invokestatic 76, 3) := by decide +kernel
theorem dX7_pays_19 : decode cX7_pays 19 = .ok (.ifCond .eq 25, 3) := by decide +kernel
theorem dX7_pays_22 : decode cX7_pays 22 = .ok (.iload_n 3, 1) := by decide +kernel
theorem dX7_pays_23 : decode cX7_pays 23 = .ok (.iconst 0, 1) := by decide +kernel
theorem dX7_pays_24 : decode cX7_pays 24 = .ok (.bipush 99, 2) := by decide +kernel
theorem dX7_pays_26 : decode cX7_pays 26 = .ok (.invokestatic 76, 3) := by decide +kernel
theorem dX7_pays_29 : decode cX7_pays 29 = .ok (.ifCond .eq 15, 3) := by decide +kernel
theorem dX7_pays_32 : decode cX7_pays 32 = .ok (.iload 4, 2) := by decide +kernel
theorem dX7_pays_34 : decode cX7_pays 34 = .ok (.iconst 0, 1) := by decide +kernel
theorem dX7_pays_35 : decode cX7_pays 35 = .ok (.sipush 999, 3) := by decide +kernel
theorem dX7_pays_38 : decode cX7_pays 38 = .ok (.invokestatic 76, 3) := by decide +kernel
theorem dX7_pays_41 : decode cX7_pays 41 = .ok (.ifCond .ne 5, 3) := by decide +kernel
theorem dX7_pays_44 : decode cX7_pays 44 = .ok (.iconst (-1), 1) := by decide +kernel
theorem dX7_pays_45 : decode cX7_pays 45 = .ok (.ireturn, 1) := by decide +kernel
theorem dX7_pays_46 : decode cX7_pays 46 = .ok (.iconst 0, 1) := by decide +kernel
theorem dX7_pays_47 : decode cX7_pays 47 = .ok (.istore 5, 2) := by decide +kernel
theorem dX7_pays_49 : decode cX7_pays 49 = .ok (.iconst 1, 1) := by decide +kernel
theorem dX7_pays_50 : decode cX7_pays 50 = .ok (.istore 6, 2) := by decide +kernel
theorem dX7_pays_52 : decode cX7_pays 52 = .ok (.iload 6, 2) := by decide +kernel
theorem dX7_pays_54 : decode cX7_pays 54 = .ok (.bipush 50, 2) := by decide +kernel
theorem dX7_pays_56 : decode cX7_pays 56 = .ok (.if_icmp .gt 37, 3) := by decide +kernel
theorem dX7_pays_59 : decode cX7_pays 59 = .ok (.iload 5, 2) := by decide +kernel
theorem dX7_pays_61 : decode cX7_pays 61 = .ok (.iload_n 2, 1) := by decide +kernel
theorem dX7_pays_62 : decode cX7_pays 62 = .ok (.iload_n 3, 1) := by decide +kernel
theorem dX7_pays_63 : decode cX7_pays 63 = .ok (.iload 6, 2) := by decide +kernel
theorem dX7_pays_65 : decode cX7_pays 65 = .ok (.iconst 1, 1) := by decide +kernel
theorem dX7_pays_66 : decode cX7_pays 66 = .ok (.isub, 1) := by decide +kernel
theorem dX7_pays_67 : decode cX7_pays 67 = .ok (.imul, 1) := by decide +kernel
theorem dX7_pays_68 : decode cX7_pays 68 = .ok (.iadd, 1) := by decide +kernel
theorem dX7_pays_69 : decode cX7_pays 69 = .ok (.iload 4, 2) := by decide +kernel
theorem dX7_pays_71 : decode cX7_pays 71 = .ok (.invokestatic 224, 3) := by decide +kernel
theorem dX7_pays_74 : decode cX7_pays 74 = .ok (.iload_n 1, 1) := by decide +kernel
theorem dX7_pays_75 : decode cX7_pays 75 = .ok (.isub, 1) := by decide +kernel
theorem dX7_pays_76 : decode cX7_pays 76 = .ok (.iadd, 1) := by decide +kernel
theorem dX7_pays_77 : decode cX7_pays 77 = .ok (.istore 5, 2) := by decide +kernel
theorem dX7_pays_79 : decode cX7_pays 79 = .ok (.iload 5, 2) := by decide +kernel
theorem dX7_pays_81 : decode cX7_pays 81 = .ok (.ifCond .le 6, 3) := by decide +kernel
theorem dX7_pays_84 : decode cX7_pays 84 = .ok (.iload 6, 2) := by decide +kernel
theorem dX7_pays_86 : decode cX7_pays 86 = .ok (.ireturn, 1) := by decide +kernel
theorem dX7_pays_87 : decode cX7_pays 87 = .ok (.iinc 6 1, 3) := by decide +kernel
theorem dX7_pays_90 : decode cX7_pays 90 = .ok (.goto (-38), 3) := by decide +kernel
theorem dX7_pays_93 : decode cX7_pays 93 = .ok (.bipush (-4), 2) := by decide +kernel
theorem dX7_pays_95 : decode cX7_pays 95 = .ok (.ireturn, 1) := by decide +kernel
theorem dX7_jumper_0 : decode cX7_jumper 0 = .ok (.iload_n 1, 1) := by decide +kernel
theorem dX7_jumper_1 : decode cX7_jumper 1 = .ok (.invokestatic 100, 3) := by decide +kernel
theorem dX7_jumper_4 : decode cX7_jumper 4 = .ok (.ifCond .ne 5, 3) := by decide +kernel
theorem dX7_jumper_7 : decode cX7_jumper 7 = .ok (.iconst (-1), 1) := by decide +kernel
theorem dX7_jumper_8 : decode cX7_jumper 8 = .ok (.ireturn, 1) := by decide +kernel
theorem dX7_jumper_9 : decode cX7_jumper 9 = .ok (.aload_n 0, 1) := by decide +kernel
theorem dX7_jumper_10 : decode cX7_jumper 10 = .ok (.getfield 57, 3) := by decide +kernel
theorem dX7_jumper_13 : decode cX7_jumper 13 = .ok (.iload_n 1, 1) := by decide +kernel
theorem dX7_jumper_14 : decode cX7_jumper 14 = .ok (.invokevirtual 229, 3) := by decide +kernel
theorem dX7_jumper_17 : decode cX7_jumper 17 = .ok (.ifCond .eq 13, 3) := by decide +kernel
theorem dX7_jumper_20 : decode cX7_jumper 20 = .ok (.aload_n 0, 1) := by decide +kernel
theorem dX7_jumper_21 : decode cX7_jumper 21 = .ok (.getfield 57, 3) := by decide +kernel
theorem dX7_jumper_24 : decode cX7_jumper 24 = .ok (.getfield 232, 3) := by decide +kernel
theorem dX7_jumper_27 : decode cX7_jumper 27 = .ok (.goto 5, 3) := by decide +kernel
theorem dX7_jumper_30 : decode cX7_jumper 30 = .ok (.bipush (-3), 2) := by decide +kernel
theorem dX7_jumper_32 : decode cX7_jumper 32 = .ok (.ireturn, 1) := by decide +kernel
theorem dX7_takes_0 : decode cX7_takes 0 = .ok (.aload_n 0, 1) := by decide +kernel
theorem dX7_takes_1 : decode cX7_takes 1 = .ok (.getfield 57, 3) := by decide +kernel
theorem dX7_takes_4 : decode cX7_takes 4 = .ok (.iload_n 1, 1) := by decide +kernel
theorem dX7_takes_5 : decode cX7_takes 5 = .ok (.invokevirtual 235, 3) := by decide +kernel
theorem dX7_takes_8 : decode cX7_takes 8 = .ok (.ifCond .eq 10, 3) := by decide +kernel
theorem dX7_takes_11 : decode cX7_takes 11 = .ok (.iload_n 2, 1) := by decide +kernel
theorem dX7_takes_12 : decode cX7_takes 12 = .ok (.invokestatic 100, 3) := by decide +kernel
theorem dX7_takes_15 : decode cX7_takes 15 = .ok (.ifCond .ne 5, 3) := by decide +kernel
theorem dX7_takes_18 : decode cX7_takes 18 = .ok (.iconst (-1), 1) := by decide +kernel
theorem dX7_takes_19 : decode cX7_takes 19 = .ok (.ireturn, 1) := by decide +kernel
theorem dX7_takes_20 : decode cX7_takes 20 = .ok (.aload_n 0, 1) := by decide +kernel
theorem dX7_takes_21 : decode cX7_takes 21 = .ok (.getfield 57, 3) := by decide +kernel
theorem dX7_takes_24 : decode cX7_takes 24 = .ok (.getfield 238, 3) := by decide +kernel
theorem dX7_takes_27 : decode cX7_takes 27 = .ok (.iload_n 1, 1) := by decide +kernel
theorem dX7_takes_28 : decode cX7_takes 28 = .ok (.iaload, 1) := by decide +kernel
theorem dX7_takes_29 : decode cX7_takes 29 = .ok (.istore_n 3, 1) := by decide +kernel
theorem dX7_takes_30 : decode cX7_takes 30 = .ok (.aload_n 0, 1) := by decide +kernel
theorem dX7_takes_31 : decode cX7_takes 31 = .ok (.getfield 57, 3) := by decide +kernel
theorem dX7_takes_34 : decode cX7_takes 34 = .ok (.getfield 238, 3) := by decide +kernel
theorem dX7_takes_37 : decode cX7_takes 37 = .ok (.iload_n 1, 1) := by decide +kernel
theorem dX7_takes_38 : decode cX7_takes 38 = .ok (.iload_n 2, 1) := by decide +kernel
theorem dX7_takes_39 : decode cX7_takes 39 = .ok (.iastore, 1) := by decide +kernel
theorem dX7_takes_40 : decode cX7_takes 40 = .ok (.iload_n 3, 1) := by decide +kernel
theorem dX7_takes_41 : decode cX7_takes 41 = .ok (.ireturn, 1) := by decide +kernel
theorem dX7_years_0 : decode cX7_years 0 = .ok (.iload_n 1, 1) := by decide +kernel
theorem dX7_years_1 : decode cX7_years 1 = .ok (.iconst 1, 1) := by decide +kernel
theorem dX7_years_2 : decode cX7_years 2 = .ok (.bipush 20, 2) := by decide +kernel
theorem dX7_years_4 : decode cX7_years 4 = .ok (.invokestatic 76, 3) := by decide +kernel
theorem dX7_years_7 : decode cX7_years 7 = .ok (.ifCond .ne 5, 3) := by decide +kernel
theorem dX7_years_10 : decode cX7_years 10 = .ok (.iconst (-1), 1) := by decide +kernel
theorem dX7_years_11 : decode cX7_years 11 = .ok (.ireturn, 1) := by decide +kernel
theorem dX7_years_12 : decode cX7_years 12 = .ok (.aload_n 0, 1) := by decide +kernel
theorem dX7_years_13 : decode cX7_years 13 = .ok (.getfield 57, 3) := by decide +kernel
theorem dX7_years_16 : decode cX7_years 16 = .ok (.invokevirtual 241, 3) := by decide +kernel
theorem dX7_years_19 : decode cX7_years 19 = .ok (.aload_n 0, 1) := by decide +kernel
theorem dX7_years_20 : decode cX7_years 20 = .ok (.iload_n 1, 1) := by decide +kernel
theorem dX7_years_21 : decode cX7_years 21 = .ok (.invokevirtual 243, 3) := by decide +kernel
theorem dX7_years_24 : decode cX7_years 24 = .ok (.aload_n 0, 1) := by decide +kernel
theorem dX7_years_25 : decode cX7_years 25 = .ok (.getfield 57, 3) := by decide +kernel
theorem dX7_years_28 : decode cX7_years 28 = .ok (.invokevirtual 246, 3) := by decide +kernel
theorem dX7_years_31 : decode cX7_years 31 = .ok (.istore_n 2, 1) := by decide +kernel
theorem dX7_years_32 : decode cX7_years 32 = .ok (.aload_n 0, 1) := by decide +kernel
theorem dX7_years_33 : decode cX7_years 33 = .ok (.getfield 57, 3) := by decide +kernel
theorem dX7_years_36 : decode cX7_years 36 = .ok (.invokevirtual 249, 3) := by decide +kernel
theorem dX7_years_39 : decode cX7_years 39 = .ok (.iload_n 2, 1) := by decide +kernel
theorem dX7_years_40 : decode cX7_years 40 = .ok (.ireturn, 1) := by decide +kernel
theorem dX7_who_0 : decode cX7_who 0 = .ok (.iload_n 1, 1) := by decide +kernel
theorem dX7_who_1 : decode cX7_who 1 = .ok (.invokestatic 100, 3) := by decide +kernel
theorem dX7_who_4 : decode cX7_who 4 = .ok (.ifCond .eq 21, 3) := by decide +kernel
theorem dX7_who_7 : decode cX7_who 7 = .ok (.aload_n 0, 1) := by decide +kernel
theorem dX7_who_8 : decode cX7_who 8 = .ok (.getfield 57, 3) := by decide +kernel
theorem dX7_who_11 : decode cX7_who 11 = .ok (.aload_n 0, 1) := by decide +kernel
theorem dX7_who_12 : decode cX7_who 12 = .ok (.getfield 57, 3) := by decide +kernel
theorem dX7_who_15 : decode cX7_who 15 = .ok (.getfield 238, 3) := by decide +kernel
theorem dX7_who_18 : decode cX7_who 18 = .ok (.iload_n 1, 1) := by decide +kernel
theorem dX7_who_19 : decode cX7_who 19 = .ok (.invokevirtual 252, 3) := by decide +kernel
theorem dX7_who_22 : decode cX7_who 22 = .ok (.goto 4, 3) := by decide +kernel
theorem dX7_who_25 : decode cX7_who 25 = .ok (.iconst (-1), 1) := by decide +kernel
theorem dX7_who_26 : decode cX7_who 26 = .ok (.ireturn, 1) := by decide +kernel
theorem dX7_all_0 : decode cX7_all 0 = .ok (.aload_n 0, 1) := by decide +kernel
theorem dX7_all_1 : decode cX7_all 1 = .ok (.getfield 57, 3) := by decide +kernel
theorem dX7_all_4 : decode cX7_all 4 = .ok (.getfield 232, 3) := by decide +kernel
theorem dX7_all_7 : decode cX7_all 7 = .ok (.ifCond .ne 6, 3) := by decide +kernel
theorem dX7_all_10 : decode cX7_all 10 = .ok (.bipush (-2), 2) := by decide +kernel
theorem dX7_all_12 : decode cX7_all 12 = .ok (.ireturn, 1) := by decide +kernel
theorem dX7_all_13 : decode cX7_all 13 = .ok (.aload_n 0, 1) := by decide +kernel
theorem dX7_all_14 : decode cX7_all 14 = .ok (.invokevirtual 256, 3) := by decide +kernel
theorem dX7_all_17 : decode cX7_all 17 = .ok (.aload_n 0, 1) := by decide +kernel
theorem dX7_all_18 : decode cX7_all 18 = .ok (.getfield 57, 3) := by decide +kernel
theorem dX7_all_21 : decode cX7_all 21 = .ok (.invokevirtual 241, 3) := by decide +kernel
theorem dX7_all_24 : decode cX7_all 24 = .ok (.iconst 0, 1) := by decide +kernel
theorem dX7_all_25 : decode cX7_all 25 = .ok (.istore_n 1, 1) := by decide +kernel
theorem dX7_all_26 : decode cX7_all 26 = .ok (.iload_n 1, 1) := by decide +kernel
theorem dX7_all_27 : decode cX7_all 27 = .ok (.bipush 40, 2) := by decide +kernel
theorem dX7_all_29 : decode cX7_all 29 = .ok (.if_icmp .gt 36, 3) := by decide +kernel
theorem dX7_all_32 : decode cX7_all 32 = .ok (.aload_n 0, 1) := by decide +kernel
theorem dX7_all_33 : decode cX7_all 33 = .ok (.getfield 57, 3) := by decide +kernel
theorem dX7_all_36 : decode cX7_all 36 = .ok (.invokevirtual 259, 3) := by decide +kernel
theorem dX7_all_39 : decode cX7_all 39 = .ok (.ifCond .eq 5, 3) := by decide +kernel
theorem dX7_all_42 : decode cX7_all 42 = .ok (.iload_n 1, 1) := by decide +kernel
theorem dX7_all_43 : decode cX7_all 43 = .ok (.ireturn, 1) := by decide +kernel
theorem dX7_all_44 : decode cX7_all 44 = .ok (.aload_n 0, 1) := by decide +kernel
theorem dX7_all_45 : decode cX7_all 45 = .ok (.getfield 57, 3) := by decide +kernel
theorem dX7_all_48 : decode cX7_all 48 = .ok (.aload_n 0, 1) := by decide +kernel
theorem dX7_all_49 : decode cX7_all 49 = .ok (.getfield 50, 3) := by decide +kernel
theorem dX7_all_52 : decode cX7_all 52 = .ok (.aload_n 0, 1) := by decide +kernel
theorem dX7_all_53 : decode cX7_all 53 = .ok (.getfield 26, 3) := by decide +kernel
theorem dX7_all_56 : decode cX7_all 56 = .ok (.invokevirtual 263, 3) := by decide +kernel
theorem dX7_all_59 : decode cX7_all 59 = .ok (.iinc 1 1, 3) := by decide +kernel
theorem dX7_all_62 : decode cX7_all 62 = .ok (.goto (-36), 3) := by decide +kernel
theorem dX7_all_65 : decode cX7_all 65 = .ok (.bipush (-4), 2) := by decide +kernel
theorem dX7_all_67 : decode cX7_all 67 = .ok (.ireturn, 1) := by decide +kernel
theorem dX7_odd_0 : decode cX7_odd 0 = .ok (.aload_n 0, 1) := by decide +kernel
theorem dX7_odd_1 : decode cX7_odd 1 = .ok (.getfield 57, 3) := by decide +kernel
theorem dX7_odd_4 : decode cX7_odd 4 = .ok (.iload_n 1, 1) := by decide +kernel
theorem dX7_odd_5 : decode cX7_odd 5 = .ok (.invokevirtual 235, 3) := by decide +kernel
theorem dX7_odd_8 : decode cX7_odd 8 = .ok (.ifCond .eq 20, 3) := by decide +kernel
theorem dX7_odd_11 : decode cX7_odd 11 = .ok (.iload_n 2, 1) := by decide +kernel
theorem dX7_odd_12 : decode cX7_odd 12 = .ok (.invokestatic 100, 3) := by decide +kernel
theorem dX7_odd_15 : decode cX7_odd 15 = .ok (.ifCond .eq 13, 3) := by decide +kernel
theorem dX7_odd_18 : decode cX7_odd 18 = .ok (.iload_n 3, 1) := by decide +kernel
theorem dX7_odd_19 : decode cX7_odd 19 = .ok (.iconst 0, 1) := by decide +kernel
theorem dX7_odd_20 : decode cX7_odd 20 = .ok (.bipush 20, 2) := by decide +kernel
theorem dX7_odd_22 : decode cX7_odd 22 = .ok (.invokestatic 76, 3) := by decide +kernel
theorem dX7_odd_25 : decode cX7_odd 25 = .ok (.ifCond .ne 5, 3) := by decide +kernel
theorem dX7_odd_28 : decode cX7_odd 28 = .ok (.iconst (-1), 1) := by decide +kernel
theorem dX7_odd_29 : decode cX7_odd 29 = .ok (.ireturn, 1) := by decide +kernel
theorem dX7_odd_30 : decode cX7_odd 30 = .ok (.aload_n 0, 1) := by decide +kernel
theorem dX7_odd_31 : decode cX7_odd 31 = .ok (.getfield 57, 3) := by decide +kernel
theorem dX7_odd_34 : decode cX7_odd 34 = .ok (.invokevirtual 241, 3) := by decide +kernel
theorem dX7_odd_37 : decode cX7_odd 37 = .ok (.aload_n 0, 1) := by decide +kernel
theorem dX7_odd_38 : decode cX7_odd 38 = .ok (.getfield 57, 3) := by decide +kernel
theorem dX7_odd_41 : decode cX7_odd 41 = .ok (.getfield 267, 3) := by decide +kernel
theorem dX7_odd_44 : decode cX7_odd 44 = .ok (.iload_n 1, 1) := by decide +kernel
theorem dX7_odd_45 : decode cX7_odd 45 = .ok (.iload_n 2, 1) := by decide +kernel
theorem dX7_odd_46 : decode cX7_odd 46 = .ok (.iastore, 1) := by decide +kernel
theorem dX7_odd_47 : decode cX7_odd 47 = .ok (.aload_n 0, 1) := by decide +kernel
theorem dX7_odd_48 : decode cX7_odd 48 = .ok (.iload_n 3, 1) := by decide +kernel
theorem dX7_odd_49 : decode cX7_odd 49 = .ok (.invokevirtual 243, 3) := by decide +kernel
theorem dX7_odd_52 : decode cX7_odd 52 = .ok (.aload_n 0, 1) := by decide +kernel
theorem dX7_odd_53 : decode cX7_odd 53 = .ok (.getfield 57, 3) := by decide +kernel
theorem dX7_odd_56 : decode cX7_odd 56 = .ok (.aload_n 0, 1) := by decide +kernel
theorem dX7_odd_57 : decode cX7_odd 57 = .ok (.getfield 57, 3) := by decide +kernel
theorem dX7_odd_60 : decode cX7_odd 60 = .ok (.getfield 267, 3) := by decide +kernel
theorem dX7_odd_63 : decode cX7_odd 63 = .ok (.iload_n 2, 1) := by decide +kernel
theorem dX7_odd_64 : decode cX7_odd 64 = .ok (.invokevirtual 252, 3) := by decide +kernel
theorem dX7_odd_67 : decode cX7_odd 67 = .ok (.ireturn, 1) := by decide +kernel
theorem dX7_odds_0 : decode cX7_odds 0 = .ok (.aload_n 0, 1) := by decide +kernel
theorem dX7_odds_1 : decode cX7_odds 1 = .ok (.iload_n 1, 1) := by decide +kernel
theorem dX7_odds_2 : decode cX7_odds 2 = .ok (.invokevirtual 128, 3) := by decide +kernel
theorem dX7_odds_5 : decode cX7_odds 5 = .ok (.ifCond .eq 46, 3) := by decide +kernel
theorem dX7_odds_8 : decode cX7_odds 8 = .ok (.iload_n 2, 1) := by decide +kernel
theorem dX7_odds_9 : decode cX7_odds 9 = .ok (.iconst 0, 1) := by decide +kernel
theorem dX7_odds_10 : decode cX7_odds 10 = .ok (.sipush 999, 3) := by decide +kernel
theorem dX7_odds_13 : decode cX7_odds 13 = .ok (.invokestatic 76, 3) := by decide +kernel
theorem dX7_odds_16 : decode cX7_odds 16 = .ok (.ifCond .eq 35, 3) := by decide +kernel
theorem dX7_odds_19 : decode cX7_odds 19 = .ok (.iload_n 3, 1) := by decide +kernel
theorem dX7_odds_20 : decode cX7_odds 20 = .ok (.iconst 0, 1) := by decide +kernel
theorem dX7_odds_21 : decode cX7_odds 21 = .ok (.bipush 20, 2) := by decide +kernel
theorem dX7_odds_23 : decode cX7_odds 23 = .ok (.invokestatic 76, 3) := by decide +kernel
theorem dX7_odds_26 : decode cX7_odds 26 = .ok (.ifCond .eq 25, 3) := by decide +kernel
theorem dX7_odds_29 : decode cX7_odds 29 = .ok (.iload 4, 2) := by decide +kernel
theorem dX7_odds_31 : decode cX7_odds 31 = .ok (.iconst 1, 1) := by decide +kernel
theorem dX7_odds_32 : decode cX7_odds 32 = .ok (.if_icmp .eq 9, 3) := by decide +kernel
theorem dX7_odds_35 : decode cX7_odds 35 = .ok (.iload 4, 2) := by decide +kernel
theorem dX7_odds_37 : decode cX7_odds 37 = .ok (.iconst 3, 1) := by decide +kernel
theorem dX7_odds_38 : decode cX7_odds 38 = .ok (.if_icmp .ne 13, 3) := by decide +kernel
theorem dX7_odds_41 : decode cX7_odds 41 = .ok (.iload 5, 2) := by decide +kernel
theorem dX7_odds_43 : decode cX7_odds 43 = .ok (.iconst 0, 1) := by decide +kernel
theorem dX7_odds_44 : decode cX7_odds 44 = .ok (.iconst 1, 1) := by decide +kernel
theorem dX7_odds_45 : decode cX7_odds 45 = .ok (.invokestatic 76, 3) := by decide +kernel
theorem dX7_odds_48 : decode cX7_odds 48 = .ok (.ifCond .ne 5, 3) := by decide +kernel
theorem dX7_odds_51 : decode cX7_odds 51 = .ok (.iconst (-1), 1) := by decide +kernel
theorem dX7_odds_52 : decode cX7_odds 52 = .ok (.ireturn, 1) := by decide +kernel
theorem dX7_odds_53 : decode cX7_odds 53 = .ok (.aload_n 0, 1) := by decide +kernel
theorem dX7_odds_54 : decode cX7_odds 54 = .ok (.getfield 46, 3) := by decide +kernel
theorem dX7_odds_57 : decode cX7_odds 57 = .ok (.aload_n 0, 1) := by decide +kernel
theorem dX7_odds_58 : decode cX7_odds 58 = .ok (.getfield 32, 3) := by decide +kernel
theorem dX7_odds_61 : decode cX7_odds 61 = .ok (.iload_n 1, 1) := by decide +kernel
theorem dX7_odds_62 : decode cX7_odds 62 = .ok (.aaload, 1) := by decide +kernel
theorem dX7_odds_63 : decode cX7_odds 63 = .ok (.invokevirtual 146, 3) := by decide +kernel
theorem dX7_odds_66 : decode cX7_odds 66 = .ok (.aload_n 0, 1) := by decide +kernel
theorem dX7_odds_67 : decode cX7_odds 67 = .ok (.getfield 46, 3) := by decide +kernel
theorem dX7_odds_70 : decode cX7_odds 70 = .ok (.aload_n 0, 1) := by decide +kernel
theorem dX7_odds_71 : decode cX7_odds 71 = .ok (.getfield 32, 3) := by decide +kernel
theorem dX7_odds_74 : decode cX7_odds 74 = .ok (.iload_n 1, 1) := by decide +kernel
theorem dX7_odds_75 : decode cX7_odds 75 = .ok (.aaload, 1) := by decide +kernel
theorem dX7_odds_76 : decode cX7_odds 76 = .ok (.invokevirtual 149, 3) := by decide +kernel
theorem dX7_odds_79 : decode cX7_odds 79 = .ok (.istore 6, 2) := by decide +kernel
theorem dX7_odds_81 : decode cX7_odds 81 = .ok (.iload 6, 2) := by decide +kernel
theorem dX7_odds_83 : decode cX7_odds 83 = .ok (.bipush (-4), 2) := by decide +kernel
theorem dX7_odds_85 : decode cX7_odds 85 = .ok (.if_icmp .ne 6, 3) := by decide +kernel
theorem dX7_odds_88 : decode cX7_odds 88 = .ok (.bipush (-2), 2) := by decide +kernel
theorem dX7_odds_90 : decode cX7_odds 90 = .ok (.ireturn, 1) := by decide +kernel
theorem dX7_odds_91 : decode cX7_odds 91 = .ok (.iload 4, 2) := by decide +kernel
theorem dX7_odds_93 : decode cX7_odds 93 = .ok (.iconst 1, 1) := by decide +kernel
theorem dX7_odds_94 : decode cX7_odds 94 = .ok (.if_icmp .ne 9, 3) := by decide +kernel
theorem dX7_odds_97 : decode cX7_odds 97 = .ok (.iload_n 3, 1) := by decide +kernel
theorem dX7_odds_98 : decode cX7_odds 98 = .ok (.iconst 1, 1) := by decide +kernel
theorem dX7_odds_99 : decode cX7_odds 99 = .ok (.iadd, 1) := by decide +kernel
theorem dX7_odds_100 : decode cX7_odds 100 = .ok (.goto 9, 3) := by decide +kernel
theorem dX7_odds_103 : decode cX7_odds 103 = .ok (.iload_n 3, 1) := by decide +kernel
theorem dX7_odds_104 : decode cX7_odds 104 = .ok (.iconst 1, 1) := by decide +kernel
theorem dX7_odds_105 : decode cX7_odds 105 = .ok (.iadd, 1) := by decide +kernel
theorem dX7_odds_106 : decode cX7_odds 106 = .ok (.invokestatic 270, 3) := by decide +kernel
theorem dX7_odds_109 : decode cX7_odds 109 = .ok (.istore 7, 2) := by decide +kernel
theorem dX7_odds_111 : decode cX7_odds 111 = .ok (.iload 4, 2) := by decide +kernel
theorem dX7_odds_113 : decode cX7_odds 113 = .ok (.iconst 1, 1) := by decide +kernel
theorem dX7_odds_114 : decode cX7_odds 114 = .ok (.if_icmp .ne 13, 3) := by decide +kernel
theorem dX7_odds_117 : decode cX7_odds 117 = .ok (.iload 6, 2) := by decide +kernel
theorem dX7_odds_119 : decode cX7_odds 119 = .ok (.iload_n 2, 1) := by decide +kernel
theorem dX7_odds_120 : decode cX7_odds 120 = .ok (.iload_n 3, 1) := by decide +kernel
theorem dX7_odds_121 : decode cX7_odds 121 = .ok (.invokestatic 273, 3) := by decide +kernel
theorem dX7_odds_124 : decode cX7_odds 124 = .ok (.goto 10, 3) := by decide +kernel
theorem dX7_odds_127 : decode cX7_odds 127 = .ok (.iload 6, 2) := by decide +kernel
theorem dX7_odds_129 : decode cX7_odds 129 = .ok (.iload_n 2, 1) := by decide +kernel
theorem dX7_odds_130 : decode cX7_odds 130 = .ok (.iload_n 3, 1) := by decide +kernel
theorem dX7_odds_131 : decode cX7_odds 131 = .ok (.invokestatic 277, 3) := by decide +kernel
theorem dX7_odds_134 : decode cX7_odds 134 = .ok (.istore 8, 2) := by decide +kernel
theorem dX7_odds_136 : decode cX7_odds 136 = .ok (.iload 5, 2) := by decide +kernel
theorem dX7_odds_138 : decode cX7_odds 138 = .ok (.ifCond .ne 8, 3) := by decide +kernel
theorem dX7_odds_141 : decode cX7_odds 141 = .ok (.iload 8, 2) := by decide +kernel
theorem dX7_odds_143 : decode cX7_odds 143 = .ok (.goto 5, 3) := by decide +kernel
theorem dX7_odds_146 : decode cX7_odds 146 = .ok (.iload 7, 2) := by decide +kernel
theorem dX7_odds_148 : decode cX7_odds 148 = .ok (.iload 7, 2) := by decide +kernel
theorem dX7_odds_150 : decode cX7_odds 150 = .ok (.iload 8, 2) := by decide +kernel
theorem dX7_odds_152 : decode cX7_odds 152 = .ok (.invokestatic 280, 3) := by decide +kernel
theorem dX7_odds_155 : decode cX7_odds 155 = .ok (.invokestatic 283, 3) := by decide +kernel
theorem dX7_odds_158 : decode cX7_odds 158 = .ok (.ireturn, 1) := by decide +kernel
theorem dX7_asks_0 : decode cX7_asks 0 = .ok (.aload_n 0, 1) := by decide +kernel
theorem dX7_asks_1 : decode cX7_asks 1 = .ok (.iload_n 1, 1) := by decide +kernel
theorem dX7_asks_2 : decode cX7_asks 2 = .ok (.invokevirtual 128, 3) := by decide +kernel
theorem dX7_asks_5 : decode cX7_asks 5 = .ok (.ifCond .eq 40, 3) := by decide +kernel
theorem dX7_asks_8 : decode cX7_asks 8 = .ok (.iload_n 2, 1) := by decide +kernel
theorem dX7_asks_9 : decode cX7_asks 9 = .ok (.iconst 0, 1) := by decide +kernel
theorem dX7_asks_10 : decode cX7_asks 10 = .ok (.bipush 20, 2) := by decide +kernel
theorem dX7_asks_12 : decode cX7_asks 12 = .ok (.invokestatic 76, 3) := by decide +kernel
theorem dX7_asks_15 : decode cX7_asks 15 = .ok (.ifCond .eq 30, 3) := by decide +kernel
theorem dX7_asks_18 : decode cX7_asks 18 = .ok (.iload_n 3, 1) := by decide +kernel
theorem dX7_asks_19 : decode cX7_asks 19 = .ok (.iconst 1, 1) := by decide +kernel
theorem dX7_asks_20 : decode cX7_asks 20 = .ok (.bipush 99, 2) := by decide +kernel
theorem dX7_asks_22 : decode cX7_asks 22 = .ok (.invokestatic 76, 3) := by decide +kernel
theorem dX7_asks_25 : decode cX7_asks 25 = .ok (.ifCond .eq 20, 3) := by decide +kernel
theorem dX7_asks_28 : decode cX7_asks 28 = .ok (.iload 4, 2) := by decide +kernel
theorem dX7_asks_30 : decode cX7_asks 30 = .ok (.iconst 1, 1) := by decide +kernel
theorem dX7_asks_31 : decode cX7_asks 31 = .ok (.bipush 99, 2) := by decide +kernel
theorem dX7_asks_33 : decode cX7_asks 33 = .ok (.invokestatic 76, 3) := by decide +kernel
theorem dX7_asks_36 : decode cX7_asks 36 = .ok (.ifCond .eq 9, 3) := by decide +kernel
theorem dX7_asks_39 : decode cX7_asks 39 = .ok (.iload_n 3, 1) := by decide +kernel
theorem dX7_asks_40 : decode cX7_asks 40 = .ok (.iload 4, 2) := by decide +kernel
theorem dX7_asks_42 : decode cX7_asks 42 = .ok (.if_icmp .lt 5, 3) := by decide +kernel
theorem dX7_asks_45 : decode cX7_asks 45 = .ok (.iconst (-1), 1) := by decide +kernel
theorem dX7_asks_46 : decode cX7_asks 46 = .ok (.ireturn, 1) := by decide +kernel
theorem dX7_asks_47 : decode cX7_asks 47 = .ok (.aload_n 0, 1) := by decide +kernel
theorem dX7_asks_48 : decode cX7_asks 48 = .ok (.getfield 46, 3) := by decide +kernel
theorem dX7_asks_51 : decode cX7_asks 51 = .ok (.aload_n 0, 1) := by decide +kernel
theorem dX7_asks_52 : decode cX7_asks 52 = .ok (.getfield 32, 3) := by decide +kernel
theorem dX7_asks_55 : decode cX7_asks 55 = .ok (.iload_n 1, 1) := by decide +kernel
theorem dX7_asks_56 : decode cX7_asks 56 = .ok (.aaload, 1) := by decide +kernel
theorem dX7_asks_57 : decode cX7_asks 57 = .ok (.invokevirtual 146, 3) := by decide +kernel
theorem dX7_asks_60 : decode cX7_asks 60 = .ok (.aload_n 0, 1) := by decide +kernel
theorem dX7_asks_61 : decode cX7_asks 61 = .ok (.getfield 46, 3) := by decide +kernel
theorem dX7_asks_64 : decode cX7_asks 64 = .ok (.aload_n 0, 1) := by decide +kernel
theorem dX7_asks_65 : decode cX7_asks 65 = .ok (.getfield 32, 3) := by decide +kernel
theorem dX7_asks_68 : decode cX7_asks 68 = .ok (.iload_n 1, 1) := by decide +kernel
theorem dX7_asks_69 : decode cX7_asks 69 = .ok (.aaload, 1) := by decide +kernel
theorem dX7_asks_70 : decode cX7_asks 70 = .ok (.invokevirtual 149, 3) := by decide +kernel
theorem dX7_asks_73 : decode cX7_asks 73 = .ok (.istore 5, 2) := by decide +kernel
theorem dX7_asks_75 : decode cX7_asks 75 = .ok (.iload 5, 2) := by decide +kernel
theorem dX7_asks_77 : decode cX7_asks 77 = .ok (.bipush (-4), 2) := by decide +kernel
theorem dX7_asks_79 : decode cX7_asks 79 = .ok (.if_icmp .ne 6, 3) := by decide +kernel
theorem dX7_asks_82 : decode cX7_asks 82 = .ok (.bipush (-2), 2) := by decide +kernel
theorem dX7_asks_84 : decode cX7_asks 84 = .ok (.ireturn, 1) := by decide +kernel
theorem dX7_asks_85 : decode cX7_asks 85 = .ok (.sipush 999, 3) := by decide +kernel
theorem dX7_asks_88 : decode cX7_asks 88 = .ok (.istore 6, 2) := by decide +kernel
theorem dX7_asks_90 : decode cX7_asks 90 = .ok (.iload 6, 2) := by decide +kernel
theorem dX7_asks_92 : decode cX7_asks 92 = .ok (.ifCond .lt 34, 3) := by decide +kernel
theorem dX7_asks_95 : decode cX7_asks 95 = .ok (.iload 4, 2) := by decide +kernel
theorem dX7_asks_97 : decode cX7_asks 97 = .ok (.iload 5, 2) := by decide +kernel
theorem dX7_asks_99 : decode cX7_asks 99 = .ok (.iload 6, 2) := by decide +kernel
theorem dX7_asks_101 : decode cX7_asks 101 = .ok (.iload_n 2, 1) := by decide +kernel
theorem dX7_asks_102 : decode cX7_asks 102 = .ok (.invokestatic 277, 3) := by decide +kernel
theorem dX7_asks_105 : decode cX7_asks 105 = .ok (.imul, 1) := by decide +kernel
theorem dX7_asks_106 : decode cX7_asks 106 = .ok (.iload_n 3, 1) := by decide +kernel
theorem dX7_asks_107 : decode cX7_asks 107 = .ok (.iload_n 2, 1) := by decide +kernel
theorem dX7_asks_108 : decode cX7_asks 108 = .ok (.iconst 1, 1) := by decide +kernel
theorem dX7_asks_109 : decode cX7_asks 109 = .ok (.iadd, 1) := by decide +kernel
theorem dX7_asks_110 : decode cX7_asks 110 = .ok (.invokestatic 270, 3) := by decide +kernel
theorem dX7_asks_113 : decode cX7_asks 113 = .ok (.imul, 1) := by decide +kernel
theorem dX7_asks_114 : decode cX7_asks 114 = .ok (.if_icmp .lt 6, 3) := by decide +kernel
theorem dX7_asks_117 : decode cX7_asks 117 = .ok (.iload 6, 2) := by decide +kernel
theorem dX7_asks_119 : decode cX7_asks 119 = .ok (.ireturn, 1) := by decide +kernel
theorem dX7_asks_120 : decode cX7_asks 120 = .ok (.iinc 6 (-1), 3) := by decide +kernel
theorem dX7_asks_123 : decode cX7_asks 123 = .ok (.goto (-33), 3) := by decide +kernel
theorem dX7_asks_126 : decode cX7_asks 126 = .ok (.bipush (-4), 2) := by decide +kernel
theorem dX7_asks_128 : decode cX7_asks 128 = .ok (.ireturn, 1) := by decide +kernel
theorem dX7_sheet_0 : decode cX7_sheet 0 = .ok (.iload_n 1, 1) := by decide +kernel
theorem dX7_sheet_1 : decode cX7_sheet 1 = .ok (.invokestatic 286, 3) := by decide +kernel
theorem dX7_sheet_4 : decode cX7_sheet 4 = .ok (.ifCond .eq 16, 3) := by decide +kernel
theorem dX7_sheet_7 : decode cX7_sheet 7 = .ok (.iload_n 2, 1) := by decide +kernel
theorem dX7_sheet_8 : decode cX7_sheet 8 = .ok (.invokestatic 289, 3) := by decide +kernel
theorem dX7_sheet_11 : decode cX7_sheet 11 = .ok (.ifCond .eq 9, 3) := by decide +kernel
theorem dX7_sheet_14 : decode cX7_sheet 14 = .ok (.iload_n 3, 1) := by decide +kernel
theorem dX7_sheet_15 : decode cX7_sheet 15 = .ok (.bipush 64, 2) := by decide +kernel
theorem dX7_sheet_17 : decode cX7_sheet 17 = .ok (.if_icmp .le 5, 3) := by decide +kernel
theorem dX7_sheet_20 : decode cX7_sheet 20 = .ok (.iconst (-1), 1) := by decide +kernel
theorem dX7_sheet_21 : decode cX7_sheet 21 = .ok (.ireturn, 1) := by decide +kernel
theorem dX7_sheet_22 : decode cX7_sheet 22 = .ok (.iload_n 3, 1) := by decide +kernel
theorem dX7_sheet_23 : decode cX7_sheet 23 = .ok (.ifCond .ge 6, 3) := by decide +kernel
theorem dX7_sheet_26 : decode cX7_sheet 26 = .ok (.bipush (-14), 2) := by decide +kernel
theorem dX7_sheet_28 : decode cX7_sheet 28 = .ok (.ireturn, 1) := by decide +kernel
theorem dX7_sheet_29 : decode cX7_sheet 29 = .ok (.aload_n 0, 1) := by decide +kernel
theorem dX7_sheet_30 : decode cX7_sheet 30 = .ok (.getfield 63, 3) := by decide +kernel
theorem dX7_sheet_33 : decode cX7_sheet 33 = .ok (.iload_n 1, 1) := by decide +kernel
theorem dX7_sheet_34 : decode cX7_sheet 34 = .ok (.aaload, 1) := by decide +kernel
theorem dX7_sheet_35 : decode cX7_sheet 35 = .ok (.iload_n 2, 1) := by decide +kernel
theorem dX7_sheet_36 : decode cX7_sheet 36 = .ok (.iload_n 3, 1) := by decide +kernel
theorem dX7_sheet_37 : decode cX7_sheet 37 = .ok (.invokevirtual 292, 3) := by decide +kernel
theorem dX7_sheet_40 : decode cX7_sheet 40 = .ok (.iconst 1, 1) := by decide +kernel
theorem dX7_sheet_41 : decode cX7_sheet 41 = .ok (.ireturn, 1) := by decide +kernel
theorem dX7_lay_0 : decode cX7_lay 0 = .ok (.iload_n 1, 1) := by decide +kernel
theorem dX7_lay_1 : decode cX7_lay 1 = .ok (.invokestatic 286, 3) := by decide +kernel
theorem dX7_lay_4 : decode cX7_lay 4 = .ok (.ifCond .ne 5, 3) := by decide +kernel
theorem dX7_lay_7 : decode cX7_lay 7 = .ok (.iconst (-1), 1) := by decide +kernel
theorem dX7_lay_8 : decode cX7_lay 8 = .ok (.ireturn, 1) := by decide +kernel
theorem dX7_lay_9 : decode cX7_lay 9 = .ok (.aload_n 0, 1) := by decide +kernel
theorem dX7_lay_10 : decode cX7_lay 10 = .ok (.getfield 63, 3) := by decide +kernel
theorem dX7_lay_13 : decode cX7_lay 13 = .ok (.iload_n 1, 1) := by decide +kernel
theorem dX7_lay_14 : decode cX7_lay 14 = .ok (.aaload, 1) := by decide +kernel
theorem dX7_lay_15 : decode cX7_lay 15 = .ok (.invokevirtual 293, 3) := by decide +kernel
theorem dX7_lay_18 : decode cX7_lay 18 = .ok (.ifCond .eq 6, 3) := by decide +kernel
theorem dX7_lay_21 : decode cX7_lay 21 = .ok (.bipush (-11), 2) := by decide +kernel
theorem dX7_lay_23 : decode cX7_lay 23 = .ok (.ireturn, 1) := by decide +kernel
theorem dX7_lay_24 : decode cX7_lay 24 = .ok (.aload_n 0, 1) := by decide +kernel
theorem dX7_lay_25 : decode cX7_lay 25 = .ok (.getfield 63, 3) := by decide +kernel
theorem dX7_lay_28 : decode cX7_lay 28 = .ok (.iload_n 1, 1) := by decide +kernel
theorem dX7_lay_29 : decode cX7_lay 29 = .ok (.aaload, 1) := by decide +kernel
theorem dX7_lay_30 : decode cX7_lay 30 = .ok (.iload_n 2, 1) := by decide +kernel
theorem dX7_lay_31 : decode cX7_lay 31 = .ok (.invokevirtual 296, 3) := by decide +kernel
theorem dX7_lay_34 : decode cX7_lay 34 = .ok (.ifCond .ne 6, 3) := by decide +kernel
theorem dX7_lay_37 : decode cX7_lay 37 = .ok (.bipush (-12), 2) := by decide +kernel
theorem dX7_lay_39 : decode cX7_lay 39 = .ok (.ireturn, 1) := by decide +kernel
theorem dX7_lay_40 : decode cX7_lay 40 = .ok (.aload_n 0, 1) := by decide +kernel
theorem dX7_lay_41 : decode cX7_lay 41 = .ok (.getfield 63, 3) := by decide +kernel
theorem dX7_lay_44 : decode cX7_lay 44 = .ok (.iload_n 1, 1) := by decide +kernel
theorem dX7_lay_45 : decode cX7_lay 45 = .ok (.aaload, 1) := by decide +kernel
theorem dX7_lay_46 : decode cX7_lay 46 = .ok (.iload_n 2, 1) := by decide +kernel
theorem dX7_lay_47 : decode cX7_lay 47 = .ok (.iload_n 3, 1) := by decide +kernel
theorem dX7_lay_48 : decode cX7_lay 48 = .ok (.invokevirtual 299, 3) := by decide +kernel
theorem dX7_lay_51 : decode cX7_lay 51 = .ok (.iconst 1, 1) := by decide +kernel
theorem dX7_lay_52 : decode cX7_lay 52 = .ok (.ireturn, 1) := by decide +kernel
theorem dX7_film_0 : decode cX7_film 0 = .ok (.iload_n 1, 1) := by decide +kernel
theorem dX7_film_1 : decode cX7_film 1 = .ok (.invokestatic 100, 3) := by decide +kernel
theorem dX7_film_4 : decode cX7_film 4 = .ok (.ifCond .eq 27, 3) := by decide +kernel
theorem dX7_film_7 : decode cX7_film 7 = .ok (.iload_n 2, 1) := by decide +kernel
theorem dX7_film_8 : decode cX7_film 8 = .ok (.invokestatic 286, 3) := by decide +kernel
theorem dX7_film_11 : decode cX7_film 11 = .ok (.ifCond .eq 20, 3) := by decide +kernel
theorem dX7_film_14 : decode cX7_film 14 = .ok (.iload_n 3, 1) := by decide +kernel
theorem dX7_film_15 : decode cX7_film 15 = .ok (.invokestatic 289, 3) := by decide +kernel
theorem dX7_film_18 : decode cX7_film 18 = .ok (.ifCond .eq 13, 3) := by decide +kernel
theorem dX7_film_21 : decode cX7_film 21 = .ok (.iload 5, 2) := by decide +kernel
theorem dX7_film_23 : decode cX7_film 23 = .ok (.iload 6, 2) := by decide +kernel
theorem dX7_film_25 : decode cX7_film 25 = .ok (.invokestatic 104, 3) := by decide +kernel
theorem dX7_film_28 : decode cX7_film 28 = .ok (.ifCond .ne 5, 3) := by decide +kernel
theorem dX7_film_31 : decode cX7_film 31 = .ok (.iconst (-1), 1) := by decide +kernel
theorem dX7_film_32 : decode cX7_film 32 = .ok (.ireturn, 1) := by decide +kernel
theorem dX7_film_33 : decode cX7_film 33 = .ok (.aload_n 0, 1) := by decide +kernel
theorem dX7_film_34 : decode cX7_film 34 = .ok (.getfield 63, 3) := by decide +kernel
theorem dX7_film_37 : decode cX7_film 37 = .ok (.iload_n 2, 1) := by decide +kernel
theorem dX7_film_38 : decode cX7_film 38 = .ok (.aaload, 1) := by decide +kernel
theorem dX7_film_39 : decode cX7_film 39 = .ok (.iload_n 3, 1) := by decide +kernel
theorem dX7_film_40 : decode cX7_film 40 = .ok (.invokevirtual 302, 3) := by decide +kernel
theorem dX7_film_43 : decode cX7_film 43 = .ok (.istore 7, 2) := by decide +kernel
theorem dX7_film_45 : decode cX7_film 45 = .ok (.iconst 0, 1) := by decide +kernel
theorem dX7_film_46 : decode cX7_film 46 = .ok (.istore 8, 2) := by decide +kernel
theorem dX7_film_48 : decode cX7_film 48 = .ok (.aload_n 0, 1) := by decide +kernel
theorem dX7_film_49 : decode cX7_film 49 = .ok (.getfield 37, 3) := by decide +kernel
theorem dX7_film_52 : decode cX7_film 52 = .ok (.iload 5, 2) := by decide +kernel
theorem dX7_film_54 : decode cX7_film 54 = .ok (.iload 6, 2) := by decide +kernel
theorem dX7_film_56 : decode cX7_film 56 = .ok (.invokevirtual 111, 3) := by decide +kernel
theorem dX7_film_59 : decode cX7_film 59 = .ok (.iload 8, 2) := by decide +kernel
theorem dX7_film_61 : decode cX7_film 61 = .ok (.iload 5, 2) := by decide +kernel
theorem dX7_film_63 : decode cX7_film 63 = .ok (.if_icmp .ge 59, 3) := by decide +kernel
theorem dX7_film_66 : decode cX7_film 66 = .ok (.iload 7, 2) := by decide +kernel
theorem dX7_film_68 : decode cX7_film 68 = .ok (.ifCond .ne 54, 3) := by decide +kernel
theorem dX7_film_71 : decode cX7_film 71 = .ok (.aload_n 0, 1) := by decide +kernel
theorem dX7_film_72 : decode cX7_film 72 = .ok (.getfield 63, 3) := by decide +kernel
theorem dX7_film_75 : decode cX7_film 75 = .ok (.iload_n 2, 1) := by decide +kernel
theorem dX7_film_76 : decode cX7_film 76 = .ok (.aaload, 1) := by decide +kernel
theorem dX7_film_77 : decode cX7_film 77 = .ok (.iload 4, 2) := by decide +kernel
theorem dX7_film_79 : decode cX7_film 79 = .ok (.iload 8, 2) := by decide +kernel
theorem dX7_film_81 : decode cX7_film 81 = .ok (.aload_n 0, 1) := by decide +kernel
theorem dX7_film_82 : decode cX7_film 82 = .ok (.getfield 37, 3) := by decide +kernel
theorem dX7_film_85 : decode cX7_film 85 = .ok (.getfield 125, 3) := by decide +kernel
theorem dX7_film_88 : decode cX7_film 88 = .ok (.invokevirtual 305, 3) := by decide +kernel
theorem dX7_film_91 : decode cX7_film 91 = .ok (.istore 7, 2) := by decide +kernel
theorem dX7_film_93 : decode cX7_film 93 = .ok (.iload 7, 2) := by decide +kernel
theorem dX7_film_95 : decode cX7_film 95 = .ok (.ifCond .ne (-36), 3) := by decide +kernel
theorem dX7_film_98 : decode cX7_film 98 = .ok (.aload_n 0, 1) := by decide +kernel
theorem dX7_film_99 : decode cX7_film 99 = .ok (.getfield 37, 3) := by decide +kernel
theorem dX7_film_102 : decode cX7_film 102 = .ok (.iload 8, 2) := by decide +kernel
theorem dX7_film_104 : decode cX7_film 104 = .ok (.invokevirtual 309, 3) := by decide +kernel
theorem dX7_film_107 : decode cX7_film 107 = .ok (.ifCond .ne 9, 3) := by decide +kernel
theorem dX7_film_110 : decode cX7_film 110 = .ok (.bipush (-20), 2) := by decide +kernel
theorem dX7_film_112 : decode cX7_film 112 = .ok (.iload 8, 2) := by decide +kernel
theorem dX7_film_114 : decode cX7_film 114 = .ok (.isub, 1) := by decide +kernel
theorem dX7_film_115 : decode cX7_film 115 = .ok (.ireturn, 1) := by decide +kernel
theorem dX7_film_116 : decode cX7_film 116 = .ok (.iinc 8 1, 3) := by decide +kernel
theorem dX7_film_119 : decode cX7_film 119 = .ok (.goto (-60), 3) := by decide +kernel
theorem dX7_film_122 : decode cX7_film 122 = .ok (.aload_n 0, 1) := by decide +kernel
theorem dX7_film_123 : decode cX7_film 123 = .ok (.iload 7, 2) := by decide +kernel
theorem dX7_film_125 : decode cX7_film 125 = .ok (.putfield 312, 3) := by decide +kernel
theorem dX7_film_128 : decode cX7_film 128 = .ok (.iload 8, 2) := by decide +kernel
theorem dX7_film_130 : decode cX7_film 130 = .ok (.iconst 2, 1) := by decide +kernel
theorem dX7_film_131 : decode cX7_film 131 = .ok (.if_icmp .ge 5, 3) := by decide +kernel
theorem dX7_film_134 : decode cX7_film 134 = .ok (.iconst 0, 1) := by decide +kernel
theorem dX7_film_135 : decode cX7_film 135 = .ok (.ireturn, 1) := by decide +kernel
theorem dX7_film_136 : decode cX7_film 136 = .ok (.aload_n 0, 1) := by decide +kernel
theorem dX7_film_137 : decode cX7_film 137 = .ok (.getfield 37, 3) := by decide +kernel
theorem dX7_film_140 : decode cX7_film 140 = .ok (.iload 8, 2) := by decide +kernel
theorem dX7_film_142 : decode cX7_film 142 = .ok (.putfield 108, 3) := by decide +kernel
theorem dX7_film_145 : decode cX7_film 145 = .ok (.aload_n 0, 1) := by decide +kernel
theorem dX7_film_146 : decode cX7_film 146 = .ok (.getfield 32, 3) := by decide +kernel
theorem dX7_film_149 : decode cX7_film 149 = .ok (.iload_n 1, 1) := by decide +kernel
theorem dX7_film_150 : decode cX7_film 150 = .ok (.aaload, 1) := by decide +kernel
theorem dX7_film_151 : decode cX7_film 151 = .ok (.aload_n 0, 1) := by decide +kernel
theorem dX7_film_152 : decode cX7_film 152 = .ok (.getfield 37, 3) := by decide +kernel
theorem dX7_film_155 : decode cX7_film 155 = .ok (.invokevirtual 134, 3) := by decide +kernel
theorem dX7_film_158 : decode cX7_film 158 = .ok (.iload 8, 2) := by decide +kernel
theorem dX7_film_160 : decode cX7_film 160 = .ok (.ireturn, 1) := by decide +kernel
theorem dX7_torn_0 : decode cX7_torn 0 = .ok (.aload_n 0, 1) := by decide +kernel
theorem dX7_torn_1 : decode cX7_torn 1 = .ok (.getfield 312, 3) := by decide +kernel
theorem dX7_torn_4 : decode cX7_torn 4 = .ok (.ireturn, 1) := by decide +kernel
theorem dX7_count_0 : decode cX7_count 0 = .ok (.iload_n 1, 1) := by decide +kernel
theorem dX7_count_1 : decode cX7_count 1 = .ok (.tableswitch 103 0 5 #[39, 44, 49, 57, 68, 76], 39) := by decide +kernel
theorem dX7_count_40 : decode cX7_count 40 = .ok (.aload_n 0, 1) := by decide +kernel
theorem dX7_count_41 : decode cX7_count 41 = .ok (.invokevirtual 315, 3) := by decide +kernel
theorem dX7_count_44 : decode cX7_count 44 = .ok (.ireturn, 1) := by decide +kernel
theorem dX7_count_45 : decode cX7_count 45 = .ok (.aload_n 0, 1) := by decide +kernel
theorem dX7_count_46 : decode cX7_count 46 = .ok (.invokevirtual 318, 3) := by decide +kernel
theorem dX7_count_49 : decode cX7_count 49 = .ok (.ireturn, 1) := by decide +kernel
theorem dX7_count_50 : decode cX7_count 50 = .ok (.aload_n 0, 1) := by decide +kernel
theorem dX7_count_51 : decode cX7_count 51 = .ok (.getfield 57, 3) := by decide +kernel
theorem dX7_count_54 : decode cX7_count 54 = .ok (.getfield 232, 3) := by decide +kernel
theorem dX7_count_57 : decode cX7_count 57 = .ok (.ireturn, 1) := by decide +kernel
theorem dX7_count_58 : decode cX7_count 58 = .ok (.aload_n 0, 1) := by decide +kernel
theorem dX7_count_59 : decode cX7_count 59 = .ok (.getfield 57, 3) := by decide +kernel
theorem dX7_count_62 : decode cX7_count 62 = .ok (.invokevirtual 321, 3) := by decide +kernel
theorem dX7_count_65 : decode cX7_count 65 = .ok (.invokestatic 324, 3) := by decide +kernel
theorem dX7_count_68 : decode cX7_count 68 = .ok (.ireturn, 1) := by decide +kernel
theorem dX7_count_69 : decode cX7_count 69 = .ok (.aload_n 0, 1) := by decide +kernel
theorem dX7_count_70 : decode cX7_count 70 = .ok (.getfield 10, 3) := by decide +kernel
theorem dX7_count_73 : decode cX7_count 73 = .ok (.getfield 72, 3) := by decide +kernel
theorem dX7_count_76 : decode cX7_count 76 = .ok (.ireturn, 1) := by decide +kernel
theorem dX7_count_77 : decode cX7_count 77 = .ok (.aload_n 0, 1) := by decide +kernel
theorem dX7_count_78 : decode cX7_count 78 = .ok (.getfield 63, 3) := by decide +kernel
theorem dX7_count_81 : decode cX7_count 81 = .ok (.iconst 0, 1) := by decide +kernel
theorem dX7_count_82 : decode cX7_count 82 = .ok (.aaload, 1) := by decide +kernel
theorem dX7_count_83 : decode cX7_count 83 = .ok (.invokevirtual 293, 3) := by decide +kernel
theorem dX7_count_86 : decode cX7_count 86 = .ok (.ifCond .eq 8, 3) := by decide +kernel
theorem dX7_count_89 : decode cX7_count 89 = .ok (.bipush (-4), 2) := by decide +kernel
theorem dX7_count_91 : decode cX7_count 91 = .ok (.goto 12, 3) := by decide +kernel
theorem dX7_count_94 : decode cX7_count 94 = .ok (.aload_n 0, 1) := by decide +kernel
theorem dX7_count_95 : decode cX7_count 95 = .ok (.getfield 63, 3) := by decide +kernel
theorem dX7_count_98 : decode cX7_count 98 = .ok (.iconst 0, 1) := by decide +kernel
theorem dX7_count_99 : decode cX7_count 99 = .ok (.aaload, 1) := by decide +kernel
theorem dX7_count_100 : decode cX7_count 100 = .ok (.getfield 329, 3) := by decide +kernel
theorem dX7_count_103 : decode cX7_count 103 = .ok (.ireturn, 1) := by decide +kernel
theorem dX7_count_104 : decode cX7_count 104 = .ok (.iconst (-1), 1) := by decide +kernel
theorem dX7_count_105 : decode cX7_count 105 = .ok (.ireturn, 1) := by decide +kernel
theorem dX7_within_0 : decode cX7_within 0 = .ok (.iload_n 0, 1) := by decide +kernel
theorem dX7_within_1 : decode cX7_within 1 = .ok (.iload_n 1, 1) := by decide +kernel
theorem dX7_within_2 : decode cX7_within 2 = .ok (.if_icmp .lt 12, 3) := by decide +kernel
theorem dX7_within_5 : decode cX7_within 5 = .ok (.iload_n 0, 1) := by decide +kernel
theorem dX7_within_6 : decode cX7_within 6 = .ok (.iload_n 2, 1) := by decide +kernel
theorem dX7_within_7 : decode cX7_within 7 = .ok (.if_icmp .gt 7, 3) := by decide +kernel
theorem dX7_within_10 : decode cX7_within 10 = .ok (.iconst 1, 1) := by decide +kernel
theorem dX7_within_11 : decode cX7_within 11 = .ok (.goto 4, 3) := by decide +kernel
theorem dX7_within_14 : decode cX7_within 14 = .ok (.iconst 0, 1) := by decide +kernel
theorem dX7_within_15 : decode cX7_within 15 = .ok (.ireturn, 1) := by decide +kernel
theorem dX7_isWayNumber_0 : decode cX7_isWayNumber 0 = .ok (.iload_n 0, 1) := by decide +kernel
theorem dX7_isWayNumber_1 : decode cX7_isWayNumber 1 = .ok (.iconst 0, 1) := by decide +kernel
theorem dX7_isWayNumber_2 : decode cX7_isWayNumber 2 = .ok (.iconst 5, 1) := by decide +kernel
theorem dX7_isWayNumber_3 : decode cX7_isWayNumber 3 = .ok (.invokestatic 76, 3) := by decide +kernel
theorem dX7_isWayNumber_6 : decode cX7_isWayNumber 6 = .ok (.ireturn, 1) := by decide +kernel
theorem dX7_isPart_0 : decode cX7_isPart 0 = .ok (.iload_n 0, 1) := by decide +kernel
theorem dX7_isPart_1 : decode cX7_isPart 1 = .ok (.iconst 0, 1) := by decide +kernel
theorem dX7_isPart_2 : decode cX7_isPart 2 = .ok (.iconst 3, 1) := by decide +kernel
theorem dX7_isPart_3 : decode cX7_isPart 3 = .ok (.invokestatic 76, 3) := by decide +kernel
theorem dX7_isPart_6 : decode cX7_isPart 6 = .ok (.ireturn, 1) := by decide +kernel
theorem dX7_isSheet_0 : decode cX7_isSheet 0 = .ok (.iload_n 0, 1) := by decide +kernel
theorem dX7_isSheet_1 : decode cX7_isSheet 1 = .ok (.iconst 0, 1) := by decide +kernel
theorem dX7_isSheet_2 : decode cX7_isSheet 2 = .ok (.iconst 3, 1) := by decide +kernel
theorem dX7_isSheet_3 : decode cX7_isSheet 3 = .ok (.invokestatic 76, 3) := by decide +kernel
theorem dX7_isSheet_6 : decode cX7_isSheet 6 = .ok (.ireturn, 1) := by decide +kernel
theorem dX7_isWay_0 : decode cX7_isWay 0 = .ok (.iload_n 1, 1) := by decide +kernel
theorem dX7_isWay_1 : decode cX7_isWay 1 = .ok (.invokestatic 100, 3) := by decide +kernel
theorem dX7_isWay_4 : decode cX7_isWay 4 = .ok (.ifCond .eq 19, 3) := by decide +kernel
theorem dX7_isWay_7 : decode cX7_isWay 7 = .ok (.aload_n 0, 1) := by decide +kernel
theorem dX7_isWay_8 : decode cX7_isWay 8 = .ok (.getfield 32, 3) := by decide +kernel
theorem dX7_isWay_11 : decode cX7_isWay 11 = .ok (.iload_n 1, 1) := by decide +kernel
theorem dX7_isWay_12 : decode cX7_isWay 12 = .ok (.aaload, 1) := by decide +kernel
theorem dX7_isWay_13 : decode cX7_isWay 13 = .ok (.getfield 108, 3) := by decide +kernel
theorem dX7_isWay_16 : decode cX7_isWay 16 = .ok (.ifCond .le 7, 3) := by decide +kernel
theorem dX7_isWay_19 : decode cX7_isWay 19 = .ok (.iconst 1, 1) := by decide +kernel
theorem dX7_isWay_20 : decode cX7_isWay 20 = .ok (.goto 4, 3) := by decide +kernel
theorem dX7_isWay_23 : decode cX7_isWay 23 = .ok (.iconst 0, 1) := by decide +kernel
theorem dX7_isWay_24 : decode cX7_isWay 24 = .ok (.ireturn, 1) := by decide +kernel
theorem dX7_isPartOfWay_0 : decode cX7_isPartOfWay 0 = .ok (.aload_n 0, 1) := by decide +kernel
theorem dX7_isPartOfWay_1 : decode cX7_isPartOfWay 1 = .ok (.iload_n 1, 1) := by decide +kernel
theorem dX7_isPartOfWay_2 : decode cX7_isPartOfWay 2 = .ok (.invokevirtual 128, 3) := by decide +kernel
theorem dX7_isPartOfWay_5 : decode cX7_isPartOfWay 5 = .ok (.ifCond .eq 33, 3) := by decide +kernel
theorem dX7_isPartOfWay_8 : decode cX7_isPartOfWay 8 = .ok (.iload_n 2, 1) := by decide +kernel
theorem dX7_isPartOfWay_9 : decode cX7_isPartOfWay 9 = .ok (.iconst 0, 1) := by decide +kernel
theorem dX7_isPartOfWay_10 : decode cX7_isPartOfWay 10 = .ok (.aload_n 0, 1) := by decide +kernel
theorem dX7_isPartOfWay_11 : decode cX7_isPartOfWay 11 = .ok (.getfield 32, 3) := by decide +kernel
theorem dX7_isPartOfWay_14 : decode cX7_isPartOfWay 14 = .ok (.iload_n 1, 1) := by decide +kernel
theorem dX7_isPartOfWay_15 : decode cX7_isPartOfWay 15 = .ok (.aaload, 1) := by decide +kernel
theorem dX7_isPartOfWay_16 : decode cX7_isPartOfWay 16 = .ok (.getfield 108, 3) := by decide +kernel
theorem dX7_isPartOfWay_19 : decode cX7_isPartOfWay 19 = .ok (.iconst 1, 1) := by decide +kernel
theorem dX7_isPartOfWay_20 : decode cX7_isPartOfWay 20 = .ok (.isub, 1) := by decide +kernel
theorem dX7_isPartOfWay_21 : decode cX7_isPartOfWay 21 = .ok (.invokestatic 76, 3) := by decide +kernel
theorem dX7_isPartOfWay_24 : decode cX7_isPartOfWay 24 = .ok (.ifCond .eq 14, 3) := by decide +kernel
theorem dX7_isPartOfWay_27 : decode cX7_isPartOfWay 27 = .ok (.iload_n 3, 1) := by decide +kernel
theorem dX7_isPartOfWay_28 : decode cX7_isPartOfWay 28 = .ok (.invokestatic 215, 3) := by decide +kernel
theorem dX7_isPartOfWay_31 : decode cX7_isPartOfWay 31 = .ok (.ifCond .eq 7, 3) := by decide +kernel
theorem dX7_isPartOfWay_34 : decode cX7_isPartOfWay 34 = .ok (.iconst 1, 1) := by decide +kernel
theorem dX7_isPartOfWay_35 : decode cX7_isPartOfWay 35 = .ok (.goto 4, 3) := by decide +kernel
theorem dX7_isPartOfWay_38 : decode cX7_isPartOfWay 38 = .ok (.iconst 0, 1) := by decide +kernel
theorem dX7_isPartOfWay_39 : decode cX7_isPartOfWay 39 = .ok (.ireturn, 1) := by decide +kernel
theorem dX7_weighWays_0 : decode cX7_weighWays 0 = .ok (.iconst 0, 1) := by decide +kernel
theorem dX7_weighWays_1 : decode cX7_weighWays 1 = .ok (.istore_n 1, 1) := by decide +kernel
theorem dX7_weighWays_2 : decode cX7_weighWays 2 = .ok (.iload_n 1, 1) := by decide +kernel
theorem dX7_weighWays_3 : decode cX7_weighWays 3 = .ok (.bipush 6, 2) := by decide +kernel
theorem dX7_weighWays_5 : decode cX7_weighWays 5 = .ok (.if_icmp .ge 56, 3) := by decide +kernel
theorem dX7_weighWays_8 : decode cX7_weighWays 8 = .ok (.aload_n 0, 1) := by decide +kernel
theorem dX7_weighWays_9 : decode cX7_weighWays 9 = .ok (.getfield 50, 3) := by decide +kernel
theorem dX7_weighWays_12 : decode cX7_weighWays 12 = .ok (.iload_n 1, 1) := by decide +kernel
theorem dX7_weighWays_13 : decode cX7_weighWays 13 = .ok (.iconst (-1), 1) := by decide +kernel
theorem dX7_weighWays_14 : decode cX7_weighWays 14 = .ok (.iastore, 1) := by decide +kernel
theorem dX7_weighWays_15 : decode cX7_weighWays 15 = .ok (.aload_n 0, 1) := by decide +kernel
theorem dX7_weighWays_16 : decode cX7_weighWays 16 = .ok (.iload_n 1, 1) := by decide +kernel
theorem dX7_weighWays_17 : decode cX7_weighWays 17 = .ok (.invokevirtual 128, 3) := by decide +kernel
theorem dX7_weighWays_20 : decode cX7_weighWays 20 = .ok (.ifCond .eq 35, 3) := by decide +kernel
theorem dX7_weighWays_23 : decode cX7_weighWays 23 = .ok (.aload_n 0, 1) := by decide +kernel
theorem dX7_weighWays_24 : decode cX7_weighWays 24 = .ok (.getfield 46, 3) := by decide +kernel
theorem dX7_weighWays_27 : decode cX7_weighWays 27 = .ok (.aload_n 0, 1) := by decide +kernel
theorem dX7_weighWays_28 : decode cX7_weighWays 28 = .ok (.getfield 32, 3) := by decide +kernel
theorem dX7_weighWays_31 : decode cX7_weighWays 31 = .ok (.iload_n 1, 1) := by decide +kernel
theorem dX7_weighWays_32 : decode cX7_weighWays 32 = .ok (.aaload, 1) := by decide +kernel
theorem dX7_weighWays_33 : decode cX7_weighWays 33 = .ok (.invokevirtual 146, 3) := by decide +kernel
theorem dX7_weighWays_36 : decode cX7_weighWays 36 = .ok (.aload_n 0, 1) := by decide +kernel
theorem dX7_weighWays_37 : decode cX7_weighWays 37 = .ok (.getfield 50, 3) := by decide +kernel
theorem dX7_weighWays_40 : decode cX7_weighWays 40 = .ok (.iload_n 1, 1) := by decide +kernel
theorem dX7_weighWays_41 : decode cX7_weighWays 41 = .ok (.aload_n 0, 1) := by decide +kernel
theorem dX7_weighWays_42 : decode cX7_weighWays 42 = .ok (.getfield 46, 3) := by decide +kernel
theorem dX7_weighWays_45 : decode cX7_weighWays 45 = .ok (.aload_n 0, 1) := by decide +kernel
theorem dX7_weighWays_46 : decode cX7_weighWays 46 = .ok (.getfield 32, 3) := by decide +kernel
theorem dX7_weighWays_49 : decode cX7_weighWays 49 = .ok (.iload_n 1, 1) := by decide +kernel
theorem dX7_weighWays_50 : decode cX7_weighWays 50 = .ok (.aaload, 1) := by decide +kernel
theorem dX7_weighWays_51 : decode cX7_weighWays 51 = .ok (.invokevirtual 184, 3) := by decide +kernel
theorem dX7_weighWays_54 : decode cX7_weighWays 54 = .ok (.iastore, 1) := by decide +kernel
theorem dX7_weighWays_55 : decode cX7_weighWays 55 = .ok (.iinc 1 1, 3) := by decide +kernel
theorem dX7_weighWays_58 : decode cX7_weighWays 58 = .ok (.goto (-56), 3) := by decide +kernel
theorem dX7_weighWays_61 : decode cX7_weighWays 61 = .ok (.return_, 1) := by decide +kernel
theorem dX7_bestWay_0 : decode cX7_bestWay 0 = .ok (.aload_n 0, 1) := by decide +kernel
theorem dX7_bestWay_1 : decode cX7_bestWay 1 = .ok (.invokevirtual 256, 3) := by decide +kernel
theorem dX7_bestWay_4 : decode cX7_bestWay 4 = .ok (.bipush (-4), 2) := by decide +kernel
theorem dX7_bestWay_6 : decode cX7_bestWay 6 = .ok (.istore_n 1, 1) := by decide +kernel
theorem dX7_bestWay_7 : decode cX7_bestWay 7 = .ok (.iconst (-1), 1) := by decide +kernel
theorem dX7_bestWay_8 : decode cX7_bestWay 8 = .ok (.istore_n 2, 1) := by decide +kernel
theorem dX7_bestWay_9 : decode cX7_bestWay 9 = .ok (.iconst 0, 1) := by decide +kernel
theorem dX7_bestWay_10 : decode cX7_bestWay 10 = .ok (.istore_n 3, 1) := by decide +kernel
theorem dX7_bestWay_11 : decode cX7_bestWay 11 = .ok (.iload_n 3, 1) := by decide +kernel
theorem dX7_bestWay_12 : decode cX7_bestWay 12 = .ok (.bipush 6, 2) := by decide +kernel
theorem dX7_bestWay_14 : decode cX7_bestWay 14 = .ok (.if_icmp .ge 28, 3) := by decide +kernel
theorem dX7_bestWay_17 : decode cX7_bestWay 17 = .ok (.aload_n 0, 1) := by decide +kernel
theorem dX7_bestWay_18 : decode cX7_bestWay 18 = .ok (.getfield 50, 3) := by decide +kernel
theorem dX7_bestWay_21 : decode cX7_bestWay 21 = .ok (.iload_n 3, 1) := by decide +kernel
theorem dX7_bestWay_22 : decode cX7_bestWay 22 = .ok (.iaload, 1) := by decide +kernel
theorem dX7_bestWay_23 : decode cX7_bestWay 23 = .ok (.iload_n 2, 1) := by decide +kernel
theorem dX7_bestWay_24 : decode cX7_bestWay 24 = .ok (.if_icmp .le 12, 3) := by decide +kernel
theorem dX7_bestWay_27 : decode cX7_bestWay 27 = .ok (.aload_n 0, 1) := by decide +kernel
theorem dX7_bestWay_28 : decode cX7_bestWay 28 = .ok (.getfield 50, 3) := by decide +kernel
theorem dX7_bestWay_31 : decode cX7_bestWay 31 = .ok (.iload_n 3, 1) := by decide +kernel
theorem dX7_bestWay_32 : decode cX7_bestWay 32 = .ok (.iaload, 1) := by decide +kernel
theorem dX7_bestWay_33 : decode cX7_bestWay 33 = .ok (.istore_n 2, 1) := by decide +kernel
theorem dX7_bestWay_34 : decode cX7_bestWay 34 = .ok (.iload_n 3, 1) := by decide +kernel
theorem dX7_bestWay_35 : decode cX7_bestWay 35 = .ok (.istore_n 1, 1) := by decide +kernel
theorem dX7_bestWay_36 : decode cX7_bestWay 36 = .ok (.iinc 3 1, 3) := by decide +kernel
theorem dX7_bestWay_39 : decode cX7_bestWay 39 = .ok (.goto (-28), 3) := by decide +kernel
theorem dX7_bestWay_42 : decode cX7_bestWay 42 = .ok (.iload_n 1, 1) := by decide +kernel
theorem dX7_bestWay_43 : decode cX7_bestWay 43 = .ok (.ireturn, 1) := by decide +kernel
theorem dX7_goYears_0 : decode cX7_goYears 0 = .ok (.aload_n 0, 1) := by decide +kernel
theorem dX7_goYears_1 : decode cX7_goYears 1 = .ok (.invokevirtual 256, 3) := by decide +kernel
theorem dX7_goYears_4 : decode cX7_goYears 4 = .ok (.iconst 0, 1) := by decide +kernel
theorem dX7_goYears_5 : decode cX7_goYears 5 = .ok (.istore_n 2, 1) := by decide +kernel
theorem dX7_goYears_6 : decode cX7_goYears 6 = .ok (.iload_n 2, 1) := by decide +kernel
theorem dX7_goYears_7 : decode cX7_goYears 7 = .ok (.iload_n 1, 1) := by decide +kernel
theorem dX7_goYears_8 : decode cX7_goYears 8 = .ok (.if_icmp .ge 24, 3) := by decide +kernel
theorem dX7_goYears_11 : decode cX7_goYears 11 = .ok (.aload_n 0, 1) := by decide +kernel
theorem dX7_goYears_12 : decode cX7_goYears 12 = .ok (.getfield 57, 3) := by decide +kernel
theorem dX7_goYears_15 : decode cX7_goYears 15 = .ok (.aload_n 0, 1) := by decide +kernel
theorem dX7_goYears_16 : decode cX7_goYears 16 = .ok (.getfield 50, 3) := by decide +kernel
theorem dX7_goYears_19 : decode cX7_goYears 19 = .ok (.aload_n 0, 1) := by decide +kernel
theorem dX7_goYears_20 : decode cX7_goYears 20 = .ok (.getfield 26, 3) := by decide +kernel
theorem dX7_goYears_23 : decode cX7_goYears 23 = .ok (.invokevirtual 263, 3) := by decide +kernel
theorem dX7_goYears_26 : decode cX7_goYears 26 = .ok (.iinc 2 1, 3) := by decide +kernel
theorem dX7_goYears_29 : decode cX7_goYears 29 = .ok (.goto (-23), 3) := by decide +kernel
theorem dX7_goYears_32 : decode cX7_goYears 32 = .ok (.return_, 1) := by decide +kernel
theorem dX7_countWays_0 : decode cX7_countWays 0 = .ok (.iconst 0, 1) := by decide +kernel
theorem dX7_countWays_1 : decode cX7_countWays 1 = .ok (.istore_n 1, 1) := by decide +kernel
theorem dX7_countWays_2 : decode cX7_countWays 2 = .ok (.iconst 0, 1) := by decide +kernel
theorem dX7_countWays_3 : decode cX7_countWays 3 = .ok (.istore_n 2, 1) := by decide +kernel
theorem dX7_countWays_4 : decode cX7_countWays 4 = .ok (.iload_n 2, 1) := by decide +kernel
theorem dX7_countWays_5 : decode cX7_countWays 5 = .ok (.bipush 6, 2) := by decide +kernel
theorem dX7_countWays_7 : decode cX7_countWays 7 = .ok (.if_icmp .ge 20, 3) := by decide +kernel
theorem dX7_countWays_10 : decode cX7_countWays 10 = .ok (.aload_n 0, 1) := by decide +kernel
theorem dX7_countWays_11 : decode cX7_countWays 11 = .ok (.iload_n 2, 1) := by decide +kernel
theorem dX7_countWays_12 : decode cX7_countWays 12 = .ok (.invokevirtual 128, 3) := by decide +kernel
theorem dX7_countWays_15 : decode cX7_countWays 15 = .ok (.ifCond .eq 6, 3) := by decide +kernel
theorem dX7_countWays_18 : decode cX7_countWays 18 = .ok (.iinc 1 1, 3) := by decide +kernel
theorem dX7_countWays_21 : decode cX7_countWays 21 = .ok (.iinc 2 1, 3) := by decide +kernel
theorem dX7_countWays_24 : decode cX7_countWays 24 = .ok (.goto (-20), 3) := by decide +kernel
theorem dX7_countWays_27 : decode cX7_countWays 27 = .ok (.iload_n 1, 1) := by decide +kernel
theorem dX7_countWays_28 : decode cX7_countWays 28 = .ok (.ireturn, 1) := by decide +kernel
theorem dX7_countTenths_0 : decode cX7_countTenths 0 = .ok (.iconst 0, 1) := by decide +kernel
theorem dX7_countTenths_1 : decode cX7_countTenths 1 = .ok (.istore_n 1, 1) := by decide +kernel
theorem dX7_countTenths_2 : decode cX7_countTenths 2 = .ok (.iconst 0, 1) := by decide +kernel
theorem dX7_countTenths_3 : decode cX7_countTenths 3 = .ok (.istore_n 2, 1) := by decide +kernel
theorem dX7_countTenths_4 : decode cX7_countTenths 4 = .ok (.iload_n 2, 1) := by decide +kernel
theorem dX7_countTenths_5 : decode cX7_countTenths 5 = .ok (.bipush 6, 2) := by decide +kernel
theorem dX7_countTenths_7 : decode cX7_countTenths 7 = .ok (.if_icmp .ge 21, 3) := by decide +kernel
theorem dX7_countTenths_10 : decode cX7_countTenths 10 = .ok (.iload_n 1, 1) := by decide +kernel
theorem dX7_countTenths_11 : decode cX7_countTenths 11 = .ok (.aload_n 0, 1) := by decide +kernel
theorem dX7_countTenths_12 : decode cX7_countTenths 12 = .ok (.getfield 32, 3) := by decide +kernel
theorem dX7_countTenths_15 : decode cX7_countTenths 15 = .ok (.iload_n 2, 1) := by decide +kernel
theorem dX7_countTenths_16 : decode cX7_countTenths 16 = .ok (.aaload, 1) := by decide +kernel
theorem dX7_countTenths_17 : decode cX7_countTenths 17 = .ok (.getfield 108, 3) := by decide +kernel
theorem dX7_countTenths_20 : decode cX7_countTenths 20 = .ok (.iadd, 1) := by decide +kernel
theorem dX7_countTenths_21 : decode cX7_countTenths 21 = .ok (.istore_n 1, 1) := by decide +kernel
theorem dX7_countTenths_22 : decode cX7_countTenths 22 = .ok (.iinc 2 1, 3) := by decide +kernel
theorem dX7_countTenths_25 : decode cX7_countTenths 25 = .ok (.goto (-21), 3) := by decide +kernel
theorem dX7_countTenths_28 : decode cX7_countTenths 28 = .ok (.iload_n 1, 1) := by decide +kernel
theorem dX7_countTenths_29 : decode cX7_countTenths 29 = .ok (.ireturn, 1) := by decide +kernel
theorem dX7_goodSlips_0 : decode cX7_goodSlips 0 = .ok (.iconst 0, 1) := by decide +kernel
theorem dX7_goodSlips_1 : decode cX7_goodSlips 1 = .ok (.iload_n 2, 1) := by decide +kernel
theorem dX7_goodSlips_2 : decode cX7_goodSlips 2 = .ok (.iconst 1, 1) := by decide +kernel
theorem dX7_goodSlips_3 : decode cX7_goodSlips 3 = .ok (.iadd, 1) := by decide +kernel
theorem dX7_goodSlips_4 : decode cX7_goodSlips 4 = .ok (.iload_n 0, 1) := by decide +kernel
theorem dX7_goodSlips_5 : decode cX7_goodSlips 5 = .ok (.iload_n 1, 1) := by decide +kernel
theorem dX7_goodSlips_6 : decode cX7_goodSlips 6 = .ok (.isub, 1) := by decide +kernel
theorem dX7_goodSlips_7 : decode cX7_goodSlips 7 = .ok (.iconst 1, 1) := by decide +kernel
theorem dX7_goodSlips_8 : decode cX7_goodSlips 8 = .ok (.iadd, 1) := by decide +kernel
theorem dX7_goodSlips_9 : decode cX7_goodSlips 9 = .ok (.invokestatic 224, 3) := by decide +kernel
theorem dX7_goodSlips_12 : decode cX7_goodSlips 12 = .ok (.invokestatic 332, 3) := by decide +kernel
theorem dX7_goodSlips_15 : decode cX7_goodSlips 15 = .ok (.ireturn, 1) := by decide +kernel
theorem dX7_goodInThree_0 : decode cX7_goodInThree 0 = .ok (.iload_n 2, 1) := by decide +kernel
theorem dX7_goodInThree_1 : decode cX7_goodInThree 1 = .ok (.iconst 1, 1) := by decide +kernel
theorem dX7_goodInThree_2 : decode cX7_goodInThree 2 = .ok (.iadd, 1) := by decide +kernel
theorem dX7_goodInThree_3 : decode cX7_goodInThree 3 = .ok (.invokestatic 270, 3) := by decide +kernel
theorem dX7_goodInThree_6 : decode cX7_goodInThree 6 = .ok (.iload_n 2, 1) := by decide +kernel
theorem dX7_goodInThree_7 : decode cX7_goodInThree 7 = .ok (.iconst 1, 1) := by decide +kernel
theorem dX7_goodInThree_8 : decode cX7_goodInThree 8 = .ok (.iadd, 1) := by decide +kernel
theorem dX7_goodInThree_9 : decode cX7_goodInThree 9 = .ok (.iload_n 0, 1) := by decide +kernel
theorem dX7_goodInThree_10 : decode cX7_goodInThree 10 = .ok (.iload_n 1, 1) := by decide +kernel
theorem dX7_goodInThree_11 : decode cX7_goodInThree 11 = .ok (.iload_n 2, 1) := by decide +kernel
theorem dX7_goodInThree_12 : decode cX7_goodInThree 12 = .ok (.invokestatic 273, 3) := by decide +kernel
theorem dX7_goodInThree_15 : decode cX7_goodInThree 15 = .ok (.isub, 1) := by decide +kernel
theorem dX7_goodInThree_16 : decode cX7_goodInThree 16 = .ok (.invokestatic 270, 3) := by decide +kernel
theorem dX7_goodInThree_19 : decode cX7_goodInThree 19 = .ok (.isub, 1) := by decide +kernel
theorem dX7_goodInThree_20 : decode cX7_goodInThree 20 = .ok (.ireturn, 1) := by decide +kernel
theorem dX7_cube_0 : decode cX7_cube 0 = .ok (.iload_n 0, 1) := by decide +kernel
theorem dX7_cube_1 : decode cX7_cube 1 = .ok (.iload_n 0, 1) := by decide +kernel
theorem dX7_cube_2 : decode cX7_cube 2 = .ok (.imul, 1) := by decide +kernel
theorem dX7_cube_3 : decode cX7_cube 3 = .ok (.iload_n 0, 1) := by decide +kernel
theorem dX7_cube_4 : decode cX7_cube 4 = .ok (.imul, 1) := by decide +kernel
theorem dX7_cube_5 : decode cX7_cube 5 = .ok (.ireturn, 1) := by decide +kernel
theorem dX7_dividedDown_0 : decode cX7_dividedDown 0 = .ok (.iload_n 1, 1) := by decide +kernel
theorem dX7_dividedDown_1 : decode cX7_dividedDown 1 = .ok (.iconst 1, 1) := by decide +kernel
theorem dX7_dividedDown_2 : decode cX7_dividedDown 2 = .ok (.if_icmp .ge 7, 3) := by decide +kernel
theorem dX7_dividedDown_5 : decode cX7_dividedDown 5 = .ok (.iconst 0, 1) := by decide +kernel
theorem dX7_dividedDown_6 : decode cX7_dividedDown 6 = .ok (.goto 8, 3) := by decide +kernel
theorem dX7_dividedDown_9 : decode cX7_dividedDown 9 = .ok (.iload_n 0, 1) := by decide +kernel
theorem dX7_dividedDown_10 : decode cX7_dividedDown 10 = .ok (.iload_n 1, 1) := by decide +kernel
theorem dX7_dividedDown_11 : decode cX7_dividedDown 11 = .ok (.invokestatic 335, 3) := by decide +kernel
theorem dX7_dividedDown_14 : decode cX7_dividedDown 14 = .ok (.ireturn, 1) := by decide +kernel
theorem dX7_commonDivisor_0 : decode cX7_commonDivisor 0 = .ok (.iload_n 0, 1) := by decide +kernel
theorem dX7_commonDivisor_1 : decode cX7_commonDivisor 1 = .ok (.istore_n 2, 1) := by decide +kernel
theorem dX7_commonDivisor_2 : decode cX7_commonDivisor 2 = .ok (.iload_n 1, 1) := by decide +kernel
theorem dX7_commonDivisor_3 : decode cX7_commonDivisor 3 = .ok (.istore_n 3, 1) := by decide +kernel
theorem dX7_commonDivisor_4 : decode cX7_commonDivisor 4 = .ok (.iconst 0, 1) := by decide +kernel
theorem dX7_commonDivisor_5 : decode cX7_commonDivisor 5 = .ok (.istore 4, 2) := by decide +kernel
theorem dX7_commonDivisor_7 : decode cX7_commonDivisor 7 = .ok (.iload 4, 2) := by decide +kernel
theorem dX7_commonDivisor_9 : decode cX7_commonDivisor 9 = .ok (.bipush 64, 2) := by decide +kernel
theorem dX7_commonDivisor_11 : decode cX7_commonDivisor 11 = .ok (.if_icmp .ge 23, 3) := by decide +kernel
theorem dX7_commonDivisor_14 : decode cX7_commonDivisor 14 = .ok (.iload_n 3, 1) := by decide +kernel
theorem dX7_commonDivisor_15 : decode cX7_commonDivisor 15 = .ok (.ifCond .le 19, 3) := by decide +kernel
theorem dX7_commonDivisor_18 : decode cX7_commonDivisor 18 = .ok (.iload_n 2, 1) := by decide +kernel
theorem dX7_commonDivisor_19 : decode cX7_commonDivisor 19 = .ok (.iload_n 3, 1) := by decide +kernel
theorem dX7_commonDivisor_20 : decode cX7_commonDivisor 20 = .ok (.irem, 1) := by decide +kernel
theorem dX7_commonDivisor_21 : decode cX7_commonDivisor 21 = .ok (.istore 5, 2) := by decide +kernel
theorem dX7_commonDivisor_23 : decode cX7_commonDivisor 23 = .ok (.iload_n 3, 1) := by decide +kernel
theorem dX7_commonDivisor_24 : decode cX7_commonDivisor 24 = .ok (.istore_n 2, 1) := by decide +kernel
theorem dX7_commonDivisor_25 : decode cX7_commonDivisor 25 = .ok (.iload 5, 2) := by decide +kernel
theorem dX7_commonDivisor_27 : decode cX7_commonDivisor 27 = .ok (.istore_n 3, 1) := by decide +kernel
theorem dX7_commonDivisor_28 : decode cX7_commonDivisor 28 = .ok (.iinc 4 1, 3) := by decide +kernel
theorem dX7_commonDivisor_31 : decode cX7_commonDivisor 31 = .ok (.goto (-24), 3) := by decide +kernel
theorem dX7_commonDivisor_34 : decode cX7_commonDivisor 34 = .ok (.iload_n 2, 1) := by decide +kernel
theorem dX7_commonDivisor_35 : decode cX7_commonDivisor 35 = .ok (.ireturn, 1) := by decide +kernel
theorem dJ6_compare_7cf53_0 : decode cJ6_compare_7cf53 0 = .ok (.iload_n 0, 1) := by decide +kernel
theorem dJ6_compare_7cf53_1 : decode cJ6_compare_7cf53 1 = .ok (.iload_n 1, 1) := by decide +kernel
theorem dJ6_compare_7cf53_2 : decode cJ6_compare_7cf53 2 = .ok (.if_icmp .ge 7, 3) := by decide +kernel
theorem dJ6_compare_7cf53_5 : decode cJ6_compare_7cf53 5 = .ok (.iconst (-1), 1) := by decide +kernel
theorem dJ6_compare_7cf53_6 : decode cJ6_compare_7cf53 6 = .ok (.goto 13, 3) := by decide +kernel
theorem dJ6_compare_7cf53_9 : decode cJ6_compare_7cf53 9 = .ok (.iload_n 0, 1) := by decide +kernel
theorem dJ6_compare_7cf53_10 : decode cJ6_compare_7cf53 10 = .ok (.iload_n 1, 1) := by decide +kernel
theorem dJ6_compare_7cf53_11 : decode cJ6_compare_7cf53 11 = .ok (.if_icmp .ne 7, 3) := by decide +kernel
theorem dJ6_compare_7cf53_14 : decode cJ6_compare_7cf53 14 = .ok (.iconst 0, 1) := by decide +kernel
theorem dJ6_compare_7cf53_15 : decode cJ6_compare_7cf53 15 = .ok (.goto 4, 3) := by decide +kernel
theorem dJ6_compare_7cf53_18 : decode cJ6_compare_7cf53 18 = .ok (.iconst 1, 1) := by decide +kernel
theorem dJ6_compare_7cf53_19 : decode cJ6_compare_7cf53 19 = .ok (.ireturn, 1) := by decide +kernel
theorem dJ6_bitCount_0f7a4_0 : decode cJ6_bitCount_0f7a4 0 = .ok (.iload_n 0, 1) := by decide +kernel
theorem dJ6_bitCount_0f7a4_1 : decode cJ6_bitCount_0f7a4 1 = .ok (.iload_n 0, 1) := by decide +kernel
theorem dJ6_bitCount_0f7a4_2 : decode cJ6_bitCount_0f7a4 2 = .ok (.iconst 1, 1) := by decide +kernel
theorem dJ6_bitCount_0f7a4_3 : decode cJ6_bitCount_0f7a4 3 = .ok (.iushr, 1) := by decide +kernel
theorem dJ6_bitCount_0f7a4_4 : decode cJ6_bitCount_0f7a4 4 = .ok (.ldc_w 265, 3) := by decide +kernel
theorem dJ6_bitCount_0f7a4_7 : decode cJ6_bitCount_0f7a4 7 = .ok (.iand, 1) := by decide +kernel
theorem dJ6_bitCount_0f7a4_8 : decode cJ6_bitCount_0f7a4 8 = .ok (.isub, 1) := by decide +kernel
theorem dJ6_bitCount_0f7a4_9 : decode cJ6_bitCount_0f7a4 9 = .ok (.istore_n 0, 1) := by decide +kernel
theorem dJ6_bitCount_0f7a4_10 : decode cJ6_bitCount_0f7a4 10 = .ok (.iload_n 0, 1) := by decide +kernel
theorem dJ6_bitCount_0f7a4_11 : decode cJ6_bitCount_0f7a4 11 = .ok (.ldc_w 266, 3) := by decide +kernel
theorem dJ6_bitCount_0f7a4_14 : decode cJ6_bitCount_0f7a4 14 = .ok (.iand, 1) := by decide +kernel
theorem dJ6_bitCount_0f7a4_15 : decode cJ6_bitCount_0f7a4 15 = .ok (.iload_n 0, 1) := by decide +kernel
theorem dJ6_bitCount_0f7a4_16 : decode cJ6_bitCount_0f7a4 16 = .ok (.iconst 2, 1) := by decide +kernel
theorem dJ6_bitCount_0f7a4_17 : decode cJ6_bitCount_0f7a4 17 = .ok (.iushr, 1) := by decide +kernel
theorem dJ6_bitCount_0f7a4_18 : decode cJ6_bitCount_0f7a4 18 = .ok (.ldc_w 266, 3) := by decide +kernel
theorem dJ6_bitCount_0f7a4_21 : decode cJ6_bitCount_0f7a4 21 = .ok (.iand, 1) := by decide +kernel
theorem dJ6_bitCount_0f7a4_22 : decode cJ6_bitCount_0f7a4 22 = .ok (.iadd, 1) := by decide +kernel
theorem dJ6_bitCount_0f7a4_23 : decode cJ6_bitCount_0f7a4 23 = .ok (.istore_n 0, 1) := by decide +kernel
theorem dJ6_bitCount_0f7a4_24 : decode cJ6_bitCount_0f7a4 24 = .ok (.iload_n 0, 1) := by decide +kernel
theorem dJ6_bitCount_0f7a4_25 : decode cJ6_bitCount_0f7a4 25 = .ok (.iload_n 0, 1) := by decide +kernel
theorem dJ6_bitCount_0f7a4_26 : decode cJ6_bitCount_0f7a4 26 = .ok (.iconst 4, 1) := by decide +kernel
theorem dJ6_bitCount_0f7a4_27 : decode cJ6_bitCount_0f7a4 27 = .ok (.iushr, 1) := by decide +kernel
theorem dJ6_bitCount_0f7a4_28 : decode cJ6_bitCount_0f7a4 28 = .ok (.iadd, 1) := by decide +kernel
theorem dJ6_bitCount_0f7a4_29 : decode cJ6_bitCount_0f7a4 29 = .ok (.ldc_w 267, 3) := by decide +kernel
theorem dJ6_bitCount_0f7a4_32 : decode cJ6_bitCount_0f7a4 32 = .ok (.iand, 1) := by decide +kernel
theorem dJ6_bitCount_0f7a4_33 : decode cJ6_bitCount_0f7a4 33 = .ok (.istore_n 0, 1) := by decide +kernel
theorem dJ6_bitCount_0f7a4_34 : decode cJ6_bitCount_0f7a4 34 = .ok (.iload_n 0, 1) := by decide +kernel
theorem dJ6_bitCount_0f7a4_35 : decode cJ6_bitCount_0f7a4 35 = .ok (.iload_n 0, 1) := by decide +kernel
theorem dJ6_bitCount_0f7a4_36 : decode cJ6_bitCount_0f7a4 36 = .ok (.bipush 8, 2) := by decide +kernel
theorem dJ6_bitCount_0f7a4_38 : decode cJ6_bitCount_0f7a4 38 = .ok (.iushr, 1) := by decide +kernel
theorem dJ6_bitCount_0f7a4_39 : decode cJ6_bitCount_0f7a4 39 = .ok (.iadd, 1) := by decide +kernel
theorem dJ6_bitCount_0f7a4_40 : decode cJ6_bitCount_0f7a4 40 = .ok (.istore_n 0, 1) := by decide +kernel
theorem dJ6_bitCount_0f7a4_41 : decode cJ6_bitCount_0f7a4 41 = .ok (.iload_n 0, 1) := by decide +kernel
theorem dJ6_bitCount_0f7a4_42 : decode cJ6_bitCount_0f7a4 42 = .ok (.iload_n 0, 1) := by decide +kernel
theorem dJ6_bitCount_0f7a4_43 : decode cJ6_bitCount_0f7a4 43 = .ok (.bipush 16, 2) := by decide +kernel
theorem dJ6_bitCount_0f7a4_45 : decode cJ6_bitCount_0f7a4 45 = .ok (.iushr, 1) := by decide +kernel
theorem dJ6_bitCount_0f7a4_46 : decode cJ6_bitCount_0f7a4 46 = .ok (.iadd, 1) := by decide +kernel
theorem dJ6_bitCount_0f7a4_47 : decode cJ6_bitCount_0f7a4 47 = .ok (.istore_n 0, 1) := by decide +kernel
theorem dJ6_bitCount_0f7a4_48 : decode cJ6_bitCount_0f7a4 48 = .ok (.iload_n 0, 1) := by decide +kernel
theorem dJ6_bitCount_0f7a4_49 : decode cJ6_bitCount_0f7a4 49 = .ok (.bipush 63, 2) := by decide +kernel
theorem dJ6_bitCount_0f7a4_51 : decode cJ6_bitCount_0f7a4 51 = .ok (.iand, 1) := by decide +kernel
theorem dJ6_bitCount_0f7a4_52 : decode cJ6_bitCount_0f7a4 52 = .ok (.ireturn, 1) := by decide +kernel
theorem dJ9_floorDiv_7cf53_0 : decode cJ9_floorDiv_7cf53 0 = .ok (.iload_n 0, 1) := by decide +kernel
theorem dJ9_floorDiv_7cf53_1 : decode cJ9_floorDiv_7cf53 1 = .ok (.iload_n 1, 1) := by decide +kernel
theorem dJ9_floorDiv_7cf53_2 : decode cJ9_floorDiv_7cf53 2 = .ok (.idiv, 1) := by decide +kernel
theorem dJ9_floorDiv_7cf53_3 : decode cJ9_floorDiv_7cf53 3 = .ok (.istore_n 2, 1) := by decide +kernel
theorem dJ9_floorDiv_7cf53_4 : decode cJ9_floorDiv_7cf53 4 = .ok (.iload_n 0, 1) := by decide +kernel
theorem dJ9_floorDiv_7cf53_5 : decode cJ9_floorDiv_7cf53 5 = .ok (.iload_n 1, 1) := by decide +kernel
theorem dJ9_floorDiv_7cf53_6 : decode cJ9_floorDiv_7cf53 6 = .ok (.ixor, 1) := by decide +kernel
theorem dJ9_floorDiv_7cf53_7 : decode cJ9_floorDiv_7cf53 7 = .ok (.ifCond .ge 14, 3) := by decide +kernel
theorem dJ9_floorDiv_7cf53_10 : decode cJ9_floorDiv_7cf53 10 = .ok (.iload_n 2, 1) := by decide +kernel
theorem dJ9_floorDiv_7cf53_11 : decode cJ9_floorDiv_7cf53 11 = .ok (.iload_n 1, 1) := by decide +kernel
theorem dJ9_floorDiv_7cf53_12 : decode cJ9_floorDiv_7cf53 12 = .ok (.imul, 1) := by decide +kernel
theorem dJ9_floorDiv_7cf53_13 : decode cJ9_floorDiv_7cf53 13 = .ok (.iload_n 0, 1) := by decide +kernel
theorem dJ9_floorDiv_7cf53_14 : decode cJ9_floorDiv_7cf53 14 = .ok (.if_icmp .eq 7, 3) := by decide +kernel
theorem dJ9_floorDiv_7cf53_17 : decode cJ9_floorDiv_7cf53 17 = .ok (.iload_n 2, 1) := by decide +kernel
theorem dJ9_floorDiv_7cf53_18 : decode cJ9_floorDiv_7cf53 18 = .ok (.iconst 1, 1) := by decide +kernel
theorem dJ9_floorDiv_7cf53_19 : decode cJ9_floorDiv_7cf53 19 = .ok (.isub, 1) := by decide +kernel
theorem dJ9_floorDiv_7cf53_20 : decode cJ9_floorDiv_7cf53 20 = .ok (.ireturn, 1) := by decide +kernel
theorem dJ9_floorDiv_7cf53_21 : decode cJ9_floorDiv_7cf53 21 = .ok (.iload_n 2, 1) := by decide +kernel
theorem dJ9_floorDiv_7cf53_22 : decode cJ9_floorDiv_7cf53 22 = .ok (.ireturn, 1) := by decide +kernel
theorem dJ9_floorMod_7cf53_0 : decode cJ9_floorMod_7cf53 0 = .ok (.iload_n 0, 1) := by decide +kernel
theorem dJ9_floorMod_7cf53_1 : decode cJ9_floorMod_7cf53 1 = .ok (.iload_n 1, 1) := by decide +kernel
theorem dJ9_floorMod_7cf53_2 : decode cJ9_floorMod_7cf53 2 = .ok (.irem, 1) := by decide +kernel
theorem dJ9_floorMod_7cf53_3 : decode cJ9_floorMod_7cf53 3 = .ok (.istore_n 2, 1) := by decide +kernel
theorem dJ9_floorMod_7cf53_4 : decode cJ9_floorMod_7cf53 4 = .ok (.iload_n 0, 1) := by decide +kernel
theorem dJ9_floorMod_7cf53_5 : decode cJ9_floorMod_7cf53 5 = .ok (.iload_n 1, 1) := by decide +kernel
theorem dJ9_floorMod_7cf53_6 : decode cJ9_floorMod_7cf53 6 = .ok (.ixor, 1) := by decide +kernel
theorem dJ9_floorMod_7cf53_7 : decode cJ9_floorMod_7cf53 7 = .ok (.ifCond .ge 11, 3) := by decide +kernel
theorem dJ9_floorMod_7cf53_10 : decode cJ9_floorMod_7cf53 10 = .ok (.iload_n 2, 1) := by decide +kernel
theorem dJ9_floorMod_7cf53_11 : decode cJ9_floorMod_7cf53 11 = .ok (.ifCond .eq 7, 3) := by decide +kernel
theorem dJ9_floorMod_7cf53_14 : decode cJ9_floorMod_7cf53 14 = .ok (.iload_n 2, 1) := by decide +kernel
theorem dJ9_floorMod_7cf53_15 : decode cJ9_floorMod_7cf53 15 = .ok (.iload_n 1, 1) := by decide +kernel
theorem dJ9_floorMod_7cf53_16 : decode cJ9_floorMod_7cf53 16 = .ok (.iadd, 1) := by decide +kernel
theorem dJ9_floorMod_7cf53_17 : decode cJ9_floorMod_7cf53 17 = .ok (.ireturn, 1) := by decide +kernel
theorem dJ9_floorMod_7cf53_18 : decode cJ9_floorMod_7cf53 18 = .ok (.iload_n 2, 1) := by decide +kernel
theorem dJ9_floorMod_7cf53_19 : decode cJ9_floorMod_7cf53 19 = .ok (.ireturn, 1) := by decide +kernel
theorem dJ9_abs_0f7a4_0 : decode cJ9_abs_0f7a4 0 = .ok (.iload_n 0, 1) := by decide +kernel
theorem dJ9_abs_0f7a4_1 : decode cJ9_abs_0f7a4 1 = .ok (.ifCond .ge 8, 3) := by decide +kernel
theorem dJ9_abs_0f7a4_4 : decode cJ9_abs_0f7a4 4 = .ok (.iload_n 0, 1) := by decide +kernel
theorem dJ9_abs_0f7a4_5 : decode cJ9_abs_0f7a4 5 = .ok (.ineg, 1) := by decide +kernel
theorem dJ9_abs_0f7a4_6 : decode cJ9_abs_0f7a4 6 = .ok (.goto 4, 3) := by decide +kernel
theorem dJ9_abs_0f7a4_9 : decode cJ9_abs_0f7a4 9 = .ok (.iload_n 0, 1) := by decide +kernel
theorem dJ9_abs_0f7a4_10 : decode cJ9_abs_0f7a4 10 = .ok (.ireturn, 1) := by decide +kernel
theorem dJ9_max_7cf53_0 : decode cJ9_max_7cf53 0 = .ok (.iload_n 0, 1) := by decide +kernel
theorem dJ9_max_7cf53_1 : decode cJ9_max_7cf53 1 = .ok (.iload_n 1, 1) := by decide +kernel
theorem dJ9_max_7cf53_2 : decode cJ9_max_7cf53 2 = .ok (.if_icmp .lt 7, 3) := by decide +kernel
theorem dJ9_max_7cf53_5 : decode cJ9_max_7cf53 5 = .ok (.iload_n 0, 1) := by decide +kernel
theorem dJ9_max_7cf53_6 : decode cJ9_max_7cf53 6 = .ok (.goto 4, 3) := by decide +kernel
theorem dJ9_max_7cf53_9 : decode cJ9_max_7cf53 9 = .ok (.iload_n 1, 1) := by decide +kernel
theorem dJ9_max_7cf53_10 : decode cJ9_max_7cf53 10 = .ok (.ireturn, 1) := by decide +kernel
theorem dJ9_min_7cf53_0 : decode cJ9_min_7cf53 0 = .ok (.iload_n 0, 1) := by decide +kernel
theorem dJ9_min_7cf53_1 : decode cJ9_min_7cf53 1 = .ok (.iload_n 1, 1) := by decide +kernel
theorem dJ9_min_7cf53_2 : decode cJ9_min_7cf53 2 = .ok (.if_icmp .gt 7, 3) := by decide +kernel
theorem dJ9_min_7cf53_5 : decode cJ9_min_7cf53 5 = .ok (.iload_n 0, 1) := by decide +kernel
theorem dJ9_min_7cf53_6 : decode cJ9_min_7cf53 6 = .ok (.goto 4, 3) := by decide +kernel
theorem dJ9_min_7cf53_9 : decode cJ9_min_7cf53 9 = .ok (.iload_n 1, 1) := by decide +kernel
theorem dJ9_min_7cf53_10 : decode cJ9_min_7cf53 10 = .ok (.ireturn, 1) := by decide +kernel
theorem dJ0_charAt_5068e_0 : decode cJ0_charAt_5068e 0 = .ok (.aload_n 0, 1) := by decide +kernel
theorem dJ0_charAt_5068e_1 : decode cJ0_charAt_5068e 1 = .ok (.invokevirtual 492, 3) := by decide +kernel
theorem dJ0_charAt_5068e_4 : decode cJ0_charAt_5068e 4 = .ok (.ifCond .eq 12, 3) := by decide +kernel
theorem dJ0_charAt_5068e_7 : decode cJ0_charAt_5068e 7 = .ok (.aload_n 0, 1) := by decide +kernel
theorem dJ0_charAt_5068e_8 : decode cJ0_charAt_5068e 8 = .ok (.getfield 9, 3) := by decide +kernel
theorem dJ0_charAt_5068e_11 : decode cJ0_charAt_5068e 11 = .ok (.iload_n 1, 1) := by decide +kernel
theorem dJ0_charAt_5068e_12 : decode cJ0_charAt_5068e 12 = .ok (.invokestatic 495, 3) := by decide +kernel
theorem dJ0_charAt_5068e_15 : decode cJ0_charAt_5068e 15 = .ok (.ireturn, 1) := by decide +kernel
theorem dJ0_charAt_5068e_16 : decode cJ0_charAt_5068e 16 = .ok (.aload_n 0, 1) := by decide +kernel
theorem dJ0_charAt_5068e_17 : decode cJ0_charAt_5068e 17 = .ok (.getfield 9, 3) := by decide +kernel
theorem dJ0_charAt_5068e_20 : decode cJ0_charAt_5068e 20 = .ok (.iload_n 1, 1) := by decide +kernel
theorem dJ0_charAt_5068e_21 : decode cJ0_charAt_5068e 21 = .ok (.invokestatic 498, 3) := by decide +kernel
theorem dJ0_charAt_5068e_24 : decode cJ0_charAt_5068e 24 = .ok (.ireturn, 1) := by decide +kernel
theorem dJ0_isLatin1_aae02_0 : decode cJ0_isLatin1_aae02 0 = .ok (.getstatic 38, 3) := by decide +kernel
theorem dJ0_isLatin1_aae02_3 : decode cJ0_isLatin1_aae02 3 = .ok (.ifCond .eq 14, 3) := by decide +kernel
theorem dJ0_isLatin1_aae02_6 : decode cJ0_isLatin1_aae02 6 = .ok (.aload_n 0, 1) := by decide +kernel
theorem dJ0_isLatin1_aae02_7 : decode cJ0_isLatin1_aae02 7 = .ok (.getfield 15, 3) := by decide +kernel
theorem dJ0_isLatin1_aae02_10 : decode cJ0_isLatin1_aae02 10 = .ok (.ifCond .ne 7, 3) := by decide +kernel
theorem dJ0_isLatin1_aae02_13 : decode cJ0_isLatin1_aae02 13 = .ok (.iconst 1, 1) := by decide +kernel
theorem dJ0_isLatin1_aae02_14 : decode cJ0_isLatin1_aae02 14 = .ok (.goto 4, 3) := by decide +kernel
theorem dJ0_isLatin1_aae02_17 : decode cJ0_isLatin1_aae02 17 = .ok (.iconst 0, 1) := by decide +kernel
theorem dJ0_isLatin1_aae02_18 : decode cJ0_isLatin1_aae02 18 = .ok (.ireturn, 1) := by decide +kernel
theorem dJ0_checkIndex_df160_0 : decode cJ0_checkIndex_df160 0 = .ok (.iload_n 0, 1) := by decide +kernel
theorem dJ0_checkIndex_df160_1 : decode cJ0_checkIndex_df160 1 = .ok (.iload_n 1, 1) := by decide +kernel
theorem dJ0_checkIndex_df160_2 : decode cJ0_checkIndex_df160 2 = .ok (.getstatic 1053, 3) := by decide +kernel
theorem dJ0_checkIndex_df160_5 : decode cJ0_checkIndex_df160 5 = .ok (.invokestatic 1059, 3) := by decide +kernel
theorem dJ0_checkIndex_df160_8 : decode cJ0_checkIndex_df160 8 = .ok (.pop, 1) := by decide +kernel
theorem dJ0_checkIndex_df160_9 : decode cJ0_checkIndex_df160 9 = .ok (.return_, 1) := by decide +kernel
theorem dJ1_charAt_3b067_0 : decode cJ1_charAt_3b067 0 = .ok (.iload_n 1, 1) := by decide +kernel
theorem dJ1_charAt_3b067_1 : decode cJ1_charAt_3b067 1 = .ok (.aload_n 0, 1) := by decide +kernel
theorem dJ1_charAt_3b067_2 : decode cJ1_charAt_3b067 2 = .ok (.arraylength, 1) := by decide +kernel
theorem dJ1_charAt_3b067_3 : decode cJ1_charAt_3b067 3 = .ok (.invokestatic 9, 3) := by decide +kernel
theorem dJ1_charAt_3b067_6 : decode cJ1_charAt_3b067 6 = .ok (.aload_n 0, 1) := by decide +kernel
theorem dJ1_charAt_3b067_7 : decode cJ1_charAt_3b067 7 = .ok (.iload_n 1, 1) := by decide +kernel
theorem dJ1_charAt_3b067_8 : decode cJ1_charAt_3b067 8 = .ok (.baload, 1) := by decide +kernel
theorem dJ1_charAt_3b067_9 : decode cJ1_charAt_3b067 9 = .ok (.sipush 255, 3) := by decide +kernel
theorem dJ1_charAt_3b067_12 : decode cJ1_charAt_3b067 12 = .ok (.iand, 1) := by decide +kernel
theorem dJ1_charAt_3b067_13 : decode cJ1_charAt_3b067 13 = .ok (.i2c, 1) := by decide +kernel
theorem dJ1_charAt_3b067_14 : decode cJ1_charAt_3b067 14 = .ok (.ireturn, 1) := by decide +kernel
theorem dJ2_getChar_3b067_0 : decode cJ2_getChar_3b067 0 = .ok (.getstatic 44, 3) := by decide +kernel
theorem dJ2_getChar_3b067_3 : decode cJ2_getChar_3b067 3 = .ok (.ifCond .ne 25, 3) := by decide +kernel
theorem dJ2_getChar_3b067_6 : decode cJ2_getChar_3b067 6 = .ok (.iload_n 1, 1) := by decide +kernel
theorem dJ2_getChar_3b067_7 : decode cJ2_getChar_3b067 7 = .ok (.ifCond .lt 11, 3) := by decide +kernel
theorem dJ2_getChar_3b067_10 : decode cJ2_getChar_3b067 10 = .ok (.iload_n 1, 1) := by decide +kernel
theorem dJ2_getChar_3b067_11 : decode cJ2_getChar_3b067 11 = .ok (.aload_n 0, 1) := by decide +kernel
theorem dJ2_getChar_3b067_12 : decode cJ2_getChar_3b067 12 = .ok (.invokestatic 48, 3) := by decide +kernel
theorem dJ2_getChar_3b067_15 : decode cJ2_getChar_3b067 15 = .ok (.if_icmp .lt 13, 3) := by decide +kernel
theorem dJ2_getChar_3b067_18 : decode cJ2_getChar_3b067 18 = .ok (.new 52, 3) := by decide +kernel
theorem dJ2_getChar_3b067_21 : decode cJ2_getChar_3b067 21 = .ok (.dup, 1) := by decide +kernel
theorem dJ2_getChar_3b067_22 : decode cJ2_getChar_3b067 22 = .ok (.ldc 54, 2) := by decide +kernel
theorem dJ2_getChar_3b067_24 : decode cJ2_getChar_3b067 24 = .ok (.invokespecial 56, 3) := by decide +kernel
theorem dJ2_getChar_3b067_27 : decode cJ2_getChar_3b067 27 = .ok (.athrow, 1) := by decide +kernel
theorem dJ2_getChar_3b067_28 : decode cJ2_getChar_3b067 28 = .ok (.iload_n 1, 1) := by decide +kernel
theorem dJ2_getChar_3b067_29 : decode cJ2_getChar_3b067 29 = .ok (.iconst 1, 1) := by decide +kernel
theorem dJ2_getChar_3b067_30 : decode cJ2_getChar_3b067 30 = .ok (.ishl, 1) := by decide +kernel
theorem dJ2_getChar_3b067_31 : decode cJ2_getChar_3b067 31 = .ok (.istore_n 1, 1) := by decide +kernel
theorem dJ2_getChar_3b067_32 : decode cJ2_getChar_3b067 32 = .ok (.aload_n 0, 1) := by decide +kernel
theorem dJ2_getChar_3b067_33 : decode cJ2_getChar_3b067 33 = .ok (.iload_n 1, 1) := by decide +kernel
theorem dJ2_getChar_3b067_34 : decode cJ2_getChar_3b067 34 = .ok (.iinc 1 1, 3) := by decide +kernel
theorem dJ2_getChar_3b067_37 : decode cJ2_getChar_3b067 37 = .ok (.baload, 1) := by decide +kernel
theorem dJ2_getChar_3b067_38 : decode cJ2_getChar_3b067 38 = .ok (.sipush 255, 3) := by decide +kernel
theorem dJ2_getChar_3b067_41 : decode cJ2_getChar_3b067 41 = .ok (.iand, 1) := by decide +kernel
theorem dJ2_getChar_3b067_42 : decode cJ2_getChar_3b067 42 = .ok (.getstatic 59, 3) := by decide +kernel
theorem dJ2_getChar_3b067_45 : decode cJ2_getChar_3b067 45 = .ok (.ishl, 1) := by decide +kernel
theorem dJ2_getChar_3b067_46 : decode cJ2_getChar_3b067 46 = .ok (.aload_n 0, 1) := by decide +kernel
theorem dJ2_getChar_3b067_47 : decode cJ2_getChar_3b067 47 = .ok (.iload_n 1, 1) := by decide +kernel
theorem dJ2_getChar_3b067_48 : decode cJ2_getChar_3b067 48 = .ok (.baload, 1) := by decide +kernel
theorem dJ2_getChar_3b067_49 : decode cJ2_getChar_3b067 49 = .ok (.sipush 255, 3) := by decide +kernel
theorem dJ2_getChar_3b067_52 : decode cJ2_getChar_3b067 52 = .ok (.iand, 1) := by decide +kernel
theorem dJ2_getChar_3b067_53 : decode cJ2_getChar_3b067 53 = .ok (.getstatic 63, 3) := by decide +kernel
theorem dJ2_getChar_3b067_56 : decode cJ2_getChar_3b067 56 = .ok (.ishl, 1) := by decide +kernel
theorem dJ2_getChar_3b067_57 : decode cJ2_getChar_3b067 57 = .ok (.ior, 1) := by decide +kernel
theorem dJ2_getChar_3b067_58 : decode cJ2_getChar_3b067 58 = .ok (.i2c, 1) := by decide +kernel
theorem dJ2_getChar_3b067_59 : decode cJ2_getChar_3b067 59 = .ok (.ireturn, 1) := by decide +kernel
theorem dJ2_length_9d52b_0 : decode cJ2_length_9d52b 0 = .ok (.aload_n 0, 1) := by decide +kernel
theorem dJ2_length_9d52b_1 : decode cJ2_length_9d52b 1 = .ok (.arraylength, 1) := by decide +kernel
theorem dJ2_length_9d52b_2 : decode cJ2_length_9d52b 2 = .ok (.iconst 1, 1) := by decide +kernel
theorem dJ2_length_9d52b_3 : decode cJ2_length_9d52b 3 = .ok (.ishr, 1) := by decide +kernel
theorem dJ2_length_9d52b_4 : decode cJ2_length_9d52b 4 = .ok (.ireturn, 1) := by decide +kernel
theorem dJ2_charAt_3b067_0 : decode cJ2_charAt_3b067 0 = .ok (.iload_n 1, 1) := by decide +kernel
theorem dJ2_charAt_3b067_1 : decode cJ2_charAt_3b067 1 = .ok (.aload_n 0, 1) := by decide +kernel
theorem dJ2_charAt_3b067_2 : decode cJ2_charAt_3b067 2 = .ok (.invokestatic 67, 3) := by decide +kernel
theorem dJ2_charAt_3b067_5 : decode cJ2_charAt_3b067 5 = .ok (.aload_n 0, 1) := by decide +kernel
theorem dJ2_charAt_3b067_6 : decode cJ2_charAt_3b067 6 = .ok (.iload_n 1, 1) := by decide +kernel
theorem dJ2_charAt_3b067_7 : decode cJ2_charAt_3b067 7 = .ok (.invokestatic 71, 3) := by decide +kernel
theorem dJ2_charAt_3b067_10 : decode cJ2_charAt_3b067 10 = .ok (.ireturn, 1) := by decide +kernel
theorem dJ2_checkIndex_2214a_0 : decode cJ2_checkIndex_2214a 0 = .ok (.iload_n 0, 1) := by decide +kernel
theorem dJ2_checkIndex_2214a_1 : decode cJ2_checkIndex_2214a 1 = .ok (.aload_n 1, 1) := by decide +kernel
theorem dJ2_checkIndex_2214a_2 : decode cJ2_checkIndex_2214a 2 = .ok (.invokestatic 48, 3) := by decide +kernel
theorem dJ2_checkIndex_2214a_5 : decode cJ2_checkIndex_2214a 5 = .ok (.invokestatic 414, 3) := by decide +kernel
theorem dJ2_checkIndex_2214a_8 : decode cJ2_checkIndex_2214a 8 = .ok (.return_, 1) := by decide +kernel
theorem dJ3_checkIndex_8e157_0 : decode cJ3_checkIndex_8e157 0 = .ok (.iload_n 0, 1) := by decide +kernel
theorem dJ3_checkIndex_8e157_1 : decode cJ3_checkIndex_8e157 1 = .ok (.ifCond .lt 8, 3) := by decide +kernel
theorem dJ3_checkIndex_8e157_4 : decode cJ3_checkIndex_8e157 4 = .ok (.iload_n 0, 1) := by decide +kernel
theorem dJ3_checkIndex_8e157_5 : decode cJ3_checkIndex_8e157 5 = .ok (.iload_n 1, 1) := by decide +kernel
theorem dJ3_checkIndex_8e157_6 : decode cJ3_checkIndex_8e157 6 = .ok (.if_icmp .lt 10, 3) := by decide +kernel
theorem dJ3_checkIndex_8e157_9 : decode cJ3_checkIndex_8e157 9 = .ok (.aload_n 2, 1) := by decide +kernel
theorem dJ3_checkIndex_8e157_10 : decode cJ3_checkIndex_8e157 10 = .ok (.iload_n 0, 1) := by decide +kernel
theorem dJ3_checkIndex_8e157_11 : decode cJ3_checkIndex_8e157 11 = .ok (.iload_n 1, 1) := by decide +kernel
theorem dJ3_checkIndex_8e157_12 : decode cJ3_checkIndex_8e157 12 = .ok (.invokestatic 95, 3) := by decide +kernel
theorem dJ3_checkIndex_8e157_15 : decode cJ3_checkIndex_8e157 15 = .ok (.athrow, 1) := by decide +kernel
theorem dJ3_checkIndex_8e157_16 : decode cJ3_checkIndex_8e157 16 = .ok (.iload_n 0, 1) := by decide +kernel
theorem dJ3_checkIndex_8e157_17 : decode cJ3_checkIndex_8e157 17 = .ok (.ireturn, 1) := by decide +kernel
end
section
theorem dX8_init_0 : decode cX8_init 0 = .ok (.aload_n 0, 1) := by decide +kernel
theorem dX8_init_1 : decode cX8_init 1 = .ok (.invokespecial 1, 3) := by decide +kernel
theorem dX8_init_4 : decode cX8_init 4 = .ok (.aload_n 0, 1) := by decide +kernel
theorem dX8_init_5 : decode cX8_init 5 = .ok (.sipush 200, 3) := by decide +kernel
theorem dX8_init_8 : decode cX8_init 8 = .ok (.newarray .int, 2) := by decide +kernel
theorem dX8_init_10 : decode cX8_init 10 = .ok (.putfield 7, 3) := by decide +kernel
theorem dX8_init_13 : decode cX8_init 13 = .ok (.aload_n 0, 1) := by decide +kernel
theorem dX8_init_14 : decode cX8_init 14 = .ok (.bipush 14, 2) := by decide +kernel
theorem dX8_init_16 : decode cX8_init 16 = .ok (.newarray .int, 2) := by decide +kernel
theorem dX8_init_18 : decode cX8_init 18 = .ok (.dup, 1) := by decide +kernel
theorem dX8_init_19 : decode cX8_init 19 = .ok (.iconst 0, 1) := by decide +kernel
theorem dX8_init_20 : decode cX8_init 20 = .ok (.iconst 0, 1) := by decide +kernel
theorem dX8_init_21 : decode cX8_init 21 = .ok (.iastore, 1) := by decide +kernel
theorem dX8_init_22 : decode cX8_init 22 = .ok (.dup, 1) := by decide +kernel
theorem dX8_init_23 : decode cX8_init 23 = .ok (.iconst 1, 1) := by decide +kernel
theorem dX8_init_24 : decode cX8_init 24 = .ok (.bipush 6, 2) := by decide +kernel
theorem dX8_init_26 : decode cX8_init 26 = .ok (.iastore, 1) := by decide +kernel
theorem dX8_init_27 : decode cX8_init 27 = .ok (.dup, 1) := by decide +kernel
theorem dX8_init_28 : decode cX8_init 28 = .ok (.iconst 2, 1) := by decide +kernel
theorem dX8_init_29 : decode cX8_init 29 = .ok (.bipush 10, 2) := by decide +kernel
theorem dX8_init_31 : decode cX8_init 31 = .ok (.iastore, 1) := by decide +kernel
theorem dX8_init_32 : decode cX8_init 32 = .ok (.dup, 1) := by decide +kernel
theorem dX8_init_33 : decode cX8_init 33 = .ok (.iconst 3, 1) := by decide +kernel
theorem dX8_init_34 : decode cX8_init 34 = .ok (.bipush 14, 2) := by decide +kernel
theorem dX8_init_36 : decode cX8_init 36 = .ok (.iastore, 1) := by decide +kernel
theorem dX8_init_37 : decode cX8_init 37 = .ok (.dup, 1) := by decide +kernel
theorem dX8_init_38 : decode cX8_init 38 = .ok (.iconst 4, 1) := by decide +kernel
theorem dX8_init_39 : decode cX8_init 39 = .ok (.bipush 17, 2) := by decide +kernel
theorem dX8_init_41 : decode cX8_init 41 = .ok (.iastore, 1) := by decide +kernel
theorem dX8_init_42 : decode cX8_init 42 = .ok (.dup, 1) := by decide +kernel
theorem dX8_init_43 : decode cX8_init 43 = .ok (.iconst 5, 1) := by decide +kernel
theorem dX8_init_44 : decode cX8_init 44 = .ok (.bipush 21, 2) := by decide +kernel
theorem dX8_init_46 : decode cX8_init 46 = .ok (.iastore, 1) := by decide +kernel
theorem dX8_init_47 : decode cX8_init 47 = .ok (.dup, 1) := by decide +kernel
theorem dX8_init_48 : decode cX8_init 48 = .ok (.bipush 6, 2) := by decide +kernel
theorem dX8_init_50 : decode cX8_init 50 = .ok (.bipush 25, 2) := by decide +kernel
theorem dX8_init_52 : decode cX8_init 52 = .ok (.iastore, 1) := by decide +kernel
theorem dX8_init_53 : decode cX8_init 53 = .ok (.dup, 1) := by decide +kernel
theorem dX8_init_54 : decode cX8_init 54 = .ok (.bipush 7, 2) := by decide +kernel
theorem dX8_init_56 : decode cX8_init 56 = .ok (.bipush 30, 2) := by decide +kernel
theorem dX8_init_58 : decode cX8_init 58 = .ok (.iastore, 1) := by decide +kernel
theorem dX8_init_59 : decode cX8_init 59 = .ok (.dup, 1) := by decide +kernel
theorem dX8_init_60 : decode cX8_init 60 = .ok (.bipush 8, 2) := by decide +kernel
theorem dX8_init_62 : decode cX8_init 62 = .ok (.bipush 34, 2) := by decide +kernel
theorem dX8_init_64 : decode cX8_init 64 = .ok (.iastore, 1) := by decide +kernel
theorem dX8_init_65 : decode cX8_init 65 = .ok (.dup, 1) := by decide +kernel
theorem dX8_init_66 : decode cX8_init 66 = .ok (.bipush 9, 2) := by decide +kernel
theorem dX8_init_68 : decode cX8_init 68 = .ok (.bipush 39, 2) := by decide +kernel
theorem dX8_init_70 : decode cX8_init 70 = .ok (.iastore, 1) := by decide +kernel
theorem dX8_init_71 : decode cX8_init 71 = .ok (.dup, 1) := by decide +kernel
theorem dX8_init_72 : decode cX8_init 72 = .ok (.bipush 10, 2) := by decide +kernel
theorem dX8_init_74 : decode cX8_init 74 = .ok (.bipush 43, 2) := by decide +kernel
theorem dX8_init_76 : decode cX8_init 76 = .ok (.iastore, 1) := by decide +kernel
theorem dX8_init_77 : decode cX8_init 77 = .ok (.dup, 1) := by decide +kernel
theorem dX8_init_78 : decode cX8_init 78 = .ok (.bipush 11, 2) := by decide +kernel
theorem dX8_init_80 : decode cX8_init 80 = .ok (.bipush 46, 2) := by decide +kernel
theorem dX8_init_82 : decode cX8_init 82 = .ok (.iastore, 1) := by decide +kernel
theorem dX8_init_83 : decode cX8_init 83 = .ok (.dup, 1) := by decide +kernel
theorem dX8_init_84 : decode cX8_init 84 = .ok (.bipush 12, 2) := by decide +kernel
theorem dX8_init_86 : decode cX8_init 86 = .ok (.bipush 51, 2) := by decide +kernel
theorem dX8_init_88 : decode cX8_init 88 = .ok (.iastore, 1) := by decide +kernel
theorem dX8_init_89 : decode cX8_init 89 = .ok (.dup, 1) := by decide +kernel
theorem dX8_init_90 : decode cX8_init 90 = .ok (.bipush 13, 2) := by decide +kernel
theorem dX8_init_92 : decode cX8_init 92 = .ok (.bipush 55, 2) := by decide +kernel
theorem dX8_init_94 : decode cX8_init 94 = .ok (.iastore, 1) := by decide +kernel
theorem dX8_init_95 : decode cX8_init 95 = .ok (.putfield 13, 3) := by decide +kernel
theorem dX8_init_98 : decode cX8_init 98 = .ok (.aload_n 0, 1) := by decide +kernel
theorem dX8_init_99 : decode cX8_init 99 = .ok (.bipush 55, 2) := by decide +kernel
theorem dX8_init_101 : decode cX8_init 101 = .ok (.newarray .int, 2) := by decide +kernel
theorem dX8_init_103 : decode cX8_init 103 = .ok (.dup, 1) := by decide +kernel
theorem dX8_init_104 : decode cX8_init 104 = .ok (.iconst 0, 1) := by decide +kernel
theorem dX8_init_105 : decode cX8_init 105 = .ok (.bipush 119, 2) := by decide +kernel
theorem dX8_init_107 : decode cX8_init 107 = .ok (.iastore, 1) := by decide +kernel
theorem dX8_init_108 : decode cX8_init 108 = .ok (.dup, 1) := by decide +kernel
theorem dX8_init_109 : decode cX8_init 109 = .ok (.iconst 1, 1) := by decide +kernel
theorem dX8_init_110 : decode cX8_init 110 = .ok (.bipush 101, 2) := by decide +kernel
theorem dX8_init_112 : decode cX8_init 112 = .ok (.iastore, 1) := by decide +kernel
theorem dX8_init_113 : decode cX8_init 113 = .ok (.dup, 1) := by decide +kernel
theorem dX8_init_114 : decode cX8_init 114 = .ok (.iconst 2, 1) := by decide +kernel
theorem dX8_init_115 : decode cX8_init 115 = .ok (.bipush 105, 2) := by decide +kernel
theorem dX8_init_117 : decode cX8_init 117 = .ok (.iastore, 1) := by decide +kernel
theorem dX8_init_118 : decode cX8_init 118 = .ok (.dup, 1) := by decide +kernel
theorem dX8_init_119 : decode cX8_init 119 = .ok (.iconst 3, 1) := by decide +kernel
theorem dX8_init_120 : decode cX8_init 120 = .ok (.bipush 103, 2) := by decide +kernel
theorem dX8_init_122 : decode cX8_init 122 = .ok (.iastore, 1) := by decide +kernel
theorem dX8_init_123 : decode cX8_init 123 = .ok (.dup, 1) := by decide +kernel
theorem dX8_init_124 : decode cX8_init 124 = .ok (.iconst 4, 1) := by decide +kernel
theorem dX8_init_125 : decode cX8_init 125 = .ok (.bipush 104, 2) := by decide +kernel
theorem dX8_init_127 : decode cX8_init 127 = .ok (.iastore, 1) := by decide +kernel
theorem dX8_init_128 : decode cX8_init 128 = .ok (.dup, 1) := by decide +kernel
theorem dX8_init_129 : decode cX8_init 129 = .ok (.iconst 5, 1) := by decide +kernel
theorem dX8_init_130 : decode cX8_init 130 = .ok (.bipush 116, 2) := by decide +kernel
theorem dX8_init_132 : decode cX8_init 132 = .ok (.iastore, 1) := by decide +kernel
theorem dX8_init_133 : decode cX8_init 133 = .ok (.dup, 1) := by decide +kernel
theorem dX8_init_134 : decode cX8_init 134 = .ok (.bipush 6, 2) := by decide +kernel
theorem dX8_init_136 : decode cX8_init 136 = .ok (.bipush 98, 2) := by decide +kernel
theorem dX8_init_138 : decode cX8_init 138 = .ok (.iastore, 1) := by decide +kernel
theorem dX8_init_139 : decode cX8_init 139 = .ok (.dup, 1) := by decide +kernel
theorem dX8_init_140 : decode cX8_init 140 = .ok (.bipush 7, 2) := by decide +kernel
theorem dX8_init_142 : decode cX8_init 142 = .ok (.bipush 101, 2) := by decide +kernel
theorem dX8_init_144 : decode cX8_init 144 = .ok (.iastore, 1) := by decide +kernel
theorem dX8_init_145 : decode cX8_init 145 = .ok (.dup, 1) := by decide +kernel
theorem dX8_init_146 : decode cX8_init 146 = .ok (.bipush 8, 2) := by decide +kernel
theorem dX8_init_148 : decode cX8_init 148 = .ok (.bipush 110, 2) := by decide +kernel
theorem dX8_init_150 : decode cX8_init 150 = .ok (.iastore, 1) := by decide +kernel
theorem dX8_init_151 : decode cX8_init 151 = .ok (.dup, 1) := by decide +kernel
theorem dX8_init_152 : decode cX8_init 152 = .ok (.bipush 9, 2) := by decide +kernel
theorem dX8_init_154 : decode cX8_init 154 = .ok (.bipush 100, 2) := by decide +kernel
theorem dX8_init_156 : decode cX8_init 156 = .ok (.iastore, 1) := by decide +kernel
theorem dX8_init_157 : decode cX8_init 157 = .ok (.dup, 1) := by decide +kernel
theorem dX8_init_158 : decode cX8_init 158 = .ok (.bipush 10, 2) := by decide +kernel
theorem dX8_init_160 : decode cX8_init 160 = .ok (.bipush 114, 2) := by decide +kernel
theorem dX8_init_162 : decode cX8_init 162 = .ok (.iastore, 1) := by decide +kernel
theorem dX8_init_163 : decode cX8_init 163 = .ok (.dup, 1) := by decide +kernel
theorem dX8_init_164 : decode cX8_init 164 = .ok (.bipush 11, 2) := by decide +kernel
theorem dX8_init_166 : decode cX8_init 166 = .ok (.bipush 105, 2) := by decide +kernel
theorem dX8_init_168 : decode cX8_init 168 = .ok (.iastore, 1) := by decide +kernel
theorem dX8_init_169 : decode cX8_init 169 = .ok (.dup, 1) := by decide +kernel
theorem dX8_init_170 : decode cX8_init 170 = .ok (.bipush 12, 2) := by decide +kernel
theorem dX8_init_172 : decode cX8_init 172 = .ok (.bipush 115, 2) := by decide +kernel
theorem dX8_init_174 : decode cX8_init 174 = .ok (.iastore, 1) := by decide +kernel
theorem dX8_init_175 : decode cX8_init 175 = .ok (.dup, 1) := by decide +kernel
theorem dX8_init_176 : decode cX8_init 176 = .ok (.bipush 13, 2) := by decide +kernel
theorem dX8_init_178 : decode cX8_init 178 = .ok (.bipush 101, 2) := by decide +kernel
theorem dX8_init_180 : decode cX8_init 180 = .ok (.iastore, 1) := by decide +kernel
theorem dX8_init_181 : decode cX8_init 181 = .ok (.dup, 1) := by decide +kernel
theorem dX8_init_182 : decode cX8_init 182 = .ok (.bipush 14, 2) := by decide +kernel
theorem dX8_init_184 : decode cX8_init 184 = .ok (.bipush 114, 2) := by decide +kernel
theorem dX8_init_186 : decode cX8_init 186 = .ok (.iastore, 1) := by decide +kernel
theorem dX8_init_187 : decode cX8_init 187 = .ok (.dup, 1) := by decide +kernel
theorem dX8_init_188 : decode cX8_init 188 = .ok (.bipush 15, 2) := by decide +kernel
theorem dX8_init_190 : decode cX8_init 190 = .ok (.bipush 117, 2) := by decide +kernel
theorem dX8_init_192 : decode cX8_init 192 = .ok (.iastore, 1) := by decide +kernel
theorem dX8_init_193 : decode cX8_init 193 = .ok (.dup, 1) := by decide +kernel
theorem dX8_init_194 : decode cX8_init 194 = .ok (.bipush 16, 2) := by decide +kernel
theorem dX8_init_196 : decode cX8_init 196 = .ok (.bipush 110, 2) := by decide +kernel
theorem dX8_init_198 : decode cX8_init 198 = .ok (.iastore, 1) := by decide +kernel
theorem dX8_init_199 : decode cX8_init 199 = .ok (.dup, 1) := by decide +kernel
theorem dX8_init_200 : decode cX8_init 200 = .ok (.bipush 17, 2) := by decide +kernel
theorem dX8_init_202 : decode cX8_init 202 = .ok (.bipush 102, 2) := by decide +kernel
theorem dX8_init_204 : decode cX8_init 204 = .ok (.iastore, 1) := by decide +kernel
theorem dX8_init_205 : decode cX8_init 205 = .ok (.dup, 1) := by decide +kernel
theorem dX8_init_206 : decode cX8_init 206 = .ok (.bipush 18, 2) := by decide +kernel
theorem dX8_init_208 : decode cX8_init 208 = .ok (.bipush 97, 2) := by decide +kernel
theorem dX8_init_210 : decode cX8_init 210 = .ok (.iastore, 1) := by decide +kernel
theorem dX8_init_211 : decode cX8_init 211 = .ok (.dup, 1) := by decide +kernel
theorem dX8_init_212 : decode cX8_init 212 = .ok (.bipush 19, 2) := by decide +kernel
theorem dX8_init_214 : decode cX8_init 214 = .ok (.bipush 108, 2) := by decide +kernel
theorem dX8_init_216 : decode cX8_init 216 = .ok (.iastore, 1) := by decide +kernel
theorem dX8_init_217 : decode cX8_init 217 = .ok (.dup, 1) := by decide +kernel
theorem dX8_init_218 : decode cX8_init 218 = .ok (.bipush 20, 2) := by decide +kernel
theorem dX8_init_220 : decode cX8_init 220 = .ok (.bipush 108, 2) := by decide +kernel
theorem dX8_init_222 : decode cX8_init 222 = .ok (.iastore, 1) := by decide +kernel
theorem dX8_init_223 : decode cX8_init 223 = .ok (.dup, 1) := by decide +kernel
theorem dX8_init_224 : decode cX8_init 224 = .ok (.bipush 21, 2) := by decide +kernel
theorem dX8_init_226 : decode cX8_init 226 = .ok (.bipush 109, 2) := by decide +kernel
theorem dX8_init_228 : decode cX8_init 228 = .ok (.iastore, 1) := by decide +kernel
theorem dX8_init_229 : decode cX8_init 229 = .ok (.dup, 1) := by decide +kernel
theorem dX8_init_230 : decode cX8_init 230 = .ok (.bipush 22, 2) := by decide +kernel
theorem dX8_init_232 : decode cX8_init 232 = .ok (.bipush 97, 2) := by decide +kernel
theorem dX8_init_234 : decode cX8_init 234 = .ok (.iastore, 1) := by decide +kernel
theorem dX8_init_235 : decode cX8_init 235 = .ok (.dup, 1) := by decide +kernel
theorem dX8_init_236 : decode cX8_init 236 = .ok (.bipush 23, 2) := by decide +kernel
theorem dX8_init_238 : decode cX8_init 238 = .ok (.bipush 114, 2) := by decide +kernel
theorem dX8_init_240 : decode cX8_init 240 = .ok (.iastore, 1) := by decide +kernel
theorem dX8_init_241 : decode cX8_init 241 = .ok (.dup, 1) := by decide +kernel
theorem dX8_init_242 : decode cX8_init 242 = .ok (.bipush 24, 2) := by decide +kernel
theorem dX8_init_244 : decode cX8_init 244 = .ok (.bipush 107, 2) := by decide +kernel
theorem dX8_init_246 : decode cX8_init 246 = .ok (.iastore, 1) := by decide +kernel
theorem dX8_init_247 : decode cX8_init 247 = .ok (.dup, 1) := by decide +kernel
theorem dX8_init_248 : decode cX8_init 248 = .ok (.bipush 25, 2) := by decide +kernel
theorem dX8_init_250 : decode cX8_init 250 = .ok (.bipush 115, 2) := by decide +kernel
theorem dX8_init_252 : decode cX8_init 252 = .ok (.iastore, 1) := by decide +kernel
theorem dX8_init_253 : decode cX8_init 253 = .ok (.dup, 1) := by decide +kernel
theorem dX8_init_254 : decode cX8_init 254 = .ok (.bipush 26, 2) := by decide +kernel
theorem dX8_init_256 : decode cX8_init 256 = .ok (.bipush 116, 2) := by decide +kernel
theorem dX8_init_258 : decode cX8_init 258 = .ok (.iastore, 1) := by decide +kernel
theorem dX8_init_259 : decode cX8_init 259 = .ok (.dup, 1) := by decide +kernel
theorem dX8_init_260 : decode cX8_init 260 = .ok (.bipush 27, 2) := by decide +kernel
theorem dX8_init_262 : decode cX8_init 262 = .ok (.bipush 97, 2) := by decide +kernel
theorem dX8_init_264 : decode cX8_init 264 = .ok (.iastore, 1) := by decide +kernel
theorem dX8_init_265 : decode cX8_init 265 = .ok (.dup, 1) := by decide +kernel
theorem dX8_init_266 : decode cX8_init 266 = .ok (.bipush 28, 2) := by decide +kernel
theorem dX8_init_268 : decode cX8_init 268 = .ok (.bipush 110, 2) := by decide +kernel
theorem dX8_init_270 : decode cX8_init 270 = .ok (.iastore, 1) := by decide +kernel
theorem dX8_init_271 : decode cX8_init 271 = .ok (.dup, 1) := by decide +kernel
theorem dX8_init_272 : decode cX8_init 272 = .ok (.bipush 29, 2) := by decide +kernel
theorem dX8_init_274 : decode cX8_init 274 = .ok (.bipush 100, 2) := by decide +kernel
theorem dX8_init_276 : decode cX8_init 276 = .ok (.iastore, 1) := by decide +kernel
theorem dX8_init_277 : decode cX8_init 277 = .ok (.dup, 1) := by decide +kernel
theorem dX8_init_278 : decode cX8_init 278 = .ok (.bipush 30, 2) := by decide +kernel
theorem dX8_init_280 : decode cX8_init 280 = .ok (.bipush 110, 2) := by decide +kernel
theorem dX8_init_282 : decode cX8_init 282 = .ok (.iastore, 1) := by decide +kernel
theorem dX8_init_283 : decode cX8_init 283 = .ok (.dup, 1) := by decide +kernel
theorem dX8_init_284 : decode cX8_init 284 = .ok (.bipush 31, 2) := by decide +kernel
theorem dX8_init_286 : decode cX8_init 286 = .ok (.bipush 101, 2) := by decide +kernel
theorem dX8_init_288 : decode cX8_init 288 = .ok (.iastore, 1) := by decide +kernel
theorem dX8_init_289 : decode cX8_init 289 = .ok (.dup, 1) := by decide +kernel
theorem dX8_init_290 : decode cX8_init 290 = .ok (.bipush 32, 2) := by decide +kernel
theorem dX8_init_292 : decode cX8_init 292 = .ok (.bipush 97, 2) := by decide +kernel
theorem dX8_init_294 : decode cX8_init 294 = .ok (.iastore, 1) := by decide +kernel
theorem dX8_init_295 : decode cX8_init 295 = .ok (.dup, 1) := by decide +kernel
theorem dX8_init_296 : decode cX8_init 296 = .ok (.bipush 33, 2) := by decide +kernel
theorem dX8_init_298 : decode cX8_init 298 = .ok (.bipush 114, 2) := by decide +kernel
theorem dX8_init_300 : decode cX8_init 300 = .ok (.iastore, 1) := by decide +kernel
theorem dX8_init_301 : decode cX8_init 301 = .ok (.dup, 1) := by decide +kernel
theorem dX8_init_302 : decode cX8_init 302 = .ok (.bipush 34, 2) := by decide +kernel
theorem dX8_init_304 : decode cX8_init 304 = .ok (.bipush 113, 2) := by decide +kernel
theorem dX8_init_306 : decode cX8_init 306 = .ok (.iastore, 1) := by decide +kernel
theorem dX8_init_307 : decode cX8_init 307 = .ok (.dup, 1) := by decide +kernel
theorem dX8_init_308 : decode cX8_init 308 = .ok (.bipush 35, 2) := by decide +kernel
theorem dX8_init_310 : decode cX8_init 310 = .ok (.bipush 117, 2) := by decide +kernel
theorem dX8_init_312 : decode cX8_init 312 = .ok (.iastore, 1) := by decide +kernel
theorem dX8_init_313 : decode cX8_init 313 = .ok (.dup, 1) := by decide +kernel
theorem dX8_init_314 : decode cX8_init 314 = .ok (.bipush 36, 2) := by decide +kernel
theorem dX8_init_316 : decode cX8_init 316 = .ok (.bipush 105, 2) := by decide +kernel
theorem dX8_init_318 : decode cX8_init 318 = .ok (.iastore, 1) := by decide +kernel
theorem dX8_init_319 : decode cX8_init 319 = .ok (.dup, 1) := by decide +kernel
theorem dX8_init_320 : decode cX8_init 320 = .ok (.bipush 37, 2) := by decide +kernel
theorem dX8_init_322 : decode cX8_init 322 = .ok (.bipush 99, 2) := by decide +kernel
theorem dX8_init_324 : decode cX8_init 324 = .ok (.iastore, 1) := by decide +kernel
theorem dX8_init_325 : decode cX8_init 325 = .ok (.dup, 1) := by decide +kernel
theorem dX8_init_326 : decode cX8_init 326 = .ok (.bipush 38, 2) := by decide +kernel
theorem dX8_init_328 : decode cX8_init 328 = .ok (.bipush 107, 2) := by decide +kernel
theorem dX8_init_330 : decode cX8_init 330 = .ok (.iastore, 1) := by decide +kernel
theorem dX8_init_331 : decode cX8_init 331 = .ok (.dup, 1) := by decide +kernel
theorem dX8_init_332 : decode cX8_init 332 = .ok (.bipush 39, 2) := by decide +kernel
theorem dX8_init_334 : decode cX8_init 334 = .ok (.bipush 102, 2) := by decide +kernel
theorem dX8_init_336 : decode cX8_init 336 = .ok (.iastore, 1) := by decide +kernel
theorem dX8_init_337 : decode cX8_init 337 = .ok (.dup, 1) := by decide +kernel
theorem dX8_init_338 : decode cX8_init 338 = .ok (.bipush 40, 2) := by decide +kernel
theorem dX8_init_340 : decode cX8_init 340 = .ok (.bipush 101, 2) := by decide +kernel
theorem dX8_init_342 : decode cX8_init 342 = .ok (.iastore, 1) := by decide +kernel
theorem dX8_init_343 : decode cX8_init 343 = .ok (.dup, 1) := by decide +kernel
theorem dX8_init_344 : decode cX8_init 344 = .ok (.bipush 41, 2) := by decide +kernel
theorem dX8_init_346 : decode cX8_init 346 = .ok (.bipush 101, 2) := by decide +kernel
theorem dX8_init_348 : decode cX8_init 348 = .ok (.iastore, 1) := by decide +kernel
theorem dX8_init_349 : decode cX8_init 349 = .ok (.dup, 1) := by decide +kernel
theorem dX8_init_350 : decode cX8_init 350 = .ok (.bipush 42, 2) := by decide +kernel
theorem dX8_init_352 : decode cX8_init 352 = .ok (.bipush 116, 2) := by decide +kernel
theorem dX8_init_354 : decode cX8_init 354 = .ok (.iastore, 1) := by decide +kernel
theorem dX8_init_355 : decode cX8_init 355 = .ok (.dup, 1) := by decide +kernel
theorem dX8_init_356 : decode cX8_init 356 = .ok (.bipush 43, 2) := by decide +kernel
theorem dX8_init_358 : decode cX8_init 358 = .ok (.bipush 112, 2) := by decide +kernel
theorem dX8_init_360 : decode cX8_init 360 = .ok (.iastore, 1) := by decide +kernel
theorem dX8_init_361 : decode cX8_init 361 = .ok (.dup, 1) := by decide +kernel
theorem dX8_init_362 : decode cX8_init 362 = .ok (.bipush 44, 2) := by decide +kernel
theorem dX8_init_364 : decode cX8_init 364 = .ok (.bipush 105, 2) := by decide +kernel
theorem dX8_init_366 : decode cX8_init 366 = .ok (.iastore, 1) := by decide +kernel
theorem dX8_init_367 : decode cX8_init 367 = .ok (.dup, 1) := by decide +kernel
theorem dX8_init_368 : decode cX8_init 368 = .ok (.bipush 45, 2) := by decide +kernel
theorem dX8_init_370 : decode cX8_init 370 = .ok (.bipush 116, 2) := by decide +kernel
theorem dX8_init_372 : decode cX8_init 372 = .ok (.iastore, 1) := by decide +kernel
theorem dX8_init_373 : decode cX8_init 373 = .ok (.dup, 1) := by decide +kernel
theorem dX8_init_374 : decode cX8_init 374 = .ok (.bipush 46, 2) := by decide +kernel
theorem dX8_init_376 : decode cX8_init 376 = .ok (.bipush 104, 2) := by decide +kernel
theorem dX8_init_378 : decode cX8_init 378 = .ok (.iastore, 1) := by decide +kernel
theorem dX8_init_379 : decode cX8_init 379 = .ok (.dup, 1) := by decide +kernel
theorem dX8_init_380 : decode cX8_init 380 = .ok (.bipush 47, 2) := by decide +kernel
theorem dX8_init_382 : decode cX8_init 382 = .ok (.bipush 97, 2) := by decide +kernel
theorem dX8_init_384 : decode cX8_init 384 = .ok (.iastore, 1) := by decide +kernel
theorem dX8_init_385 : decode cX8_init 385 = .ok (.dup, 1) := by decide +kernel
theorem dX8_init_386 : decode cX8_init 386 = .ok (.bipush 48, 2) := by decide +kernel
theorem dX8_init_388 : decode cX8_init 388 = .ok (.bipush 98, 2) := by decide +kernel
theorem dX8_init_390 : decode cX8_init 390 = .ok (.iastore, 1) := by decide +kernel
theorem dX8_init_391 : decode cX8_init 391 = .ok (.dup, 1) := by decide +kernel
theorem dX8_init_392 : decode cX8_init 392 = .ok (.bipush 49, 2) := by decide +kernel
theorem dX8_init_394 : decode cX8_init 394 = .ok (.bipush 105, 2) := by decide +kernel
theorem dX8_init_396 : decode cX8_init 396 = .ok (.iastore, 1) := by decide +kernel
theorem dX8_init_397 : decode cX8_init 397 = .ok (.dup, 1) := by decide +kernel
theorem dX8_init_398 : decode cX8_init 398 = .ok (.bipush 50, 2) := by decide +kernel
theorem dX8_init_400 : decode cX8_init 400 = .ok (.bipush 116, 2) := by decide +kernel
theorem dX8_init_402 : decode cX8_init 402 = .ok (.iastore, 1) := by decide +kernel
theorem dX8_init_403 : decode cX8_init 403 = .ok (.dup, 1) := by decide +kernel
theorem dX8_init_404 : decode cX8_init 404 = .ok (.bipush 51, 2) := by decide +kernel
theorem dX8_init_406 : decode cX8_init 406 = .ok (.bipush 115, 2) := by decide +kernel
theorem dX8_init_408 : decode cX8_init 408 = .ok (.iastore, 1) := by decide +kernel
theorem dX8_init_409 : decode cX8_init 409 = .ok (.dup, 1) := by decide +kernel
theorem dX8_init_410 : decode cX8_init 410 = .ok (.bipush 52, 2) := by decide +kernel
theorem dX8_init_412 : decode cX8_init 412 = .ok (.bipush 101, 2) := by decide +kernel
theorem dX8_init_414 : decode cX8_init 414 = .ok (.iastore, 1) := by decide +kernel
theorem dX8_init_415 : decode cX8_init 415 = .ok (.dup, 1) := by decide +kernel
theorem dX8_init_416 : decode cX8_init 416 = .ok (.bipush 53, 2) := by decide +kernel
theorem dX8_init_418 : decode cX8_init 418 = .ok (.bipush 101, 2) := by decide +kernel
theorem dX8_init_420 : decode cX8_init 420 = .ok (.iastore, 1) := by decide +kernel
theorem dX8_init_421 : decode cX8_init 421 = .ok (.dup, 1) := by decide +kernel
theorem dX8_init_422 : decode cX8_init 422 = .ok (.bipush 54, 2) := by decide +kernel
theorem dX8_init_424 : decode cX8_init 424 = .ok (.bipush 110, 2) := by decide +kernel
theorem dX8_init_426 : decode cX8_init 426 = .ok (.iastore, 1) := by decide +kernel
theorem dX8_init_427 : decode cX8_init 427 = .ok (.putfield 16, 3) := by decide +kernel
theorem dX8_init_430 : decode cX8_init 430 = .ok (.aload_n 0, 1) := by decide +kernel
theorem dX8_init_431 : decode cX8_init 431 = .ok (.bipush 18, 2) := by decide +kernel
theorem dX8_init_433 : decode cX8_init 433 = .ok (.newarray .int, 2) := by decide +kernel
theorem dX8_init_435 : decode cX8_init 435 = .ok (.dup, 1) := by decide +kernel
theorem dX8_init_436 : decode cX8_init 436 = .ok (.iconst 0, 1) := by decide +kernel
theorem dX8_init_437 : decode cX8_init 437 = .ok (.iconst 5, 1) := by decide +kernel
theorem dX8_init_438 : decode cX8_init 438 = .ok (.iastore, 1) := by decide +kernel
theorem dX8_init_439 : decode cX8_init 439 = .ok (.dup, 1) := by decide +kernel
theorem dX8_init_440 : decode cX8_init 440 = .ok (.iconst 1, 1) := by decide +kernel
theorem dX8_init_441 : decode cX8_init 441 = .ok (.iconst 5, 1) := by decide +kernel
theorem dX8_init_442 : decode cX8_init 442 = .ok (.iastore, 1) := by decide +kernel
theorem dX8_init_443 : decode cX8_init 443 = .ok (.dup, 1) := by decide +kernel
theorem dX8_init_444 : decode cX8_init 444 = .ok (.iconst 2, 1) := by decide +kernel
theorem dX8_init_445 : decode cX8_init 445 = .ok (.iconst 5, 1) := by decide +kernel
theorem dX8_init_446 : decode cX8_init 446 = .ok (.iastore, 1) := by decide +kernel
theorem dX8_init_447 : decode cX8_init 447 = .ok (.dup, 1) := by decide +kernel
theorem dX8_init_448 : decode cX8_init 448 = .ok (.iconst 3, 1) := by decide +kernel
theorem dX8_init_449 : decode cX8_init 449 = .ok (.iconst 5, 1) := by decide +kernel
theorem dX8_init_450 : decode cX8_init 450 = .ok (.iastore, 1) := by decide +kernel
theorem dX8_init_451 : decode cX8_init 451 = .ok (.dup, 1) := by decide +kernel
theorem dX8_init_452 : decode cX8_init 452 = .ok (.iconst 4, 1) := by decide +kernel
theorem dX8_init_453 : decode cX8_init 453 = .ok (.bipush 9, 2) := by decide +kernel
theorem dX8_init_455 : decode cX8_init 455 = .ok (.iastore, 1) := by decide +kernel
theorem dX8_init_456 : decode cX8_init 456 = .ok (.dup, 1) := by decide +kernel
theorem dX8_init_457 : decode cX8_init 457 = .ok (.iconst 5, 1) := by decide +kernel
theorem dX8_init_458 : decode cX8_init 458 = .ok (.bipush 9, 2) := by decide +kernel
theorem dX8_init_460 : decode cX8_init 460 = .ok (.iastore, 1) := by decide +kernel
theorem dX8_init_461 : decode cX8_init 461 = .ok (.dup, 1) := by decide +kernel
theorem dX8_init_462 : decode cX8_init 462 = .ok (.bipush 6, 2) := by decide +kernel
theorem dX8_init_464 : decode cX8_init 464 = .ok (.bipush 9, 2) := by decide +kernel
theorem dX8_init_466 : decode cX8_init 466 = .ok (.iastore, 1) := by decide +kernel
theorem dX8_init_467 : decode cX8_init 467 = .ok (.dup, 1) := by decide +kernel
theorem dX8_init_468 : decode cX8_init 468 = .ok (.bipush 7, 2) := by decide +kernel
theorem dX8_init_470 : decode cX8_init 470 = .ok (.bipush 20, 2) := by decide +kernel
theorem dX8_init_472 : decode cX8_init 472 = .ok (.iastore, 1) := by decide +kernel
theorem dX8_init_473 : decode cX8_init 473 = .ok (.dup, 1) := by decide +kernel
theorem dX8_init_474 : decode cX8_init 474 = .ok (.bipush 8, 2) := by decide +kernel
theorem dX8_init_476 : decode cX8_init 476 = .ok (.iconst 5, 1) := by decide +kernel
theorem dX8_init_477 : decode cX8_init 477 = .ok (.iastore, 1) := by decide +kernel
theorem dX8_init_478 : decode cX8_init 478 = .ok (.dup, 1) := by decide +kernel
theorem dX8_init_479 : decode cX8_init 479 = .ok (.bipush 9, 2) := by decide +kernel
theorem dX8_init_481 : decode cX8_init 481 = .ok (.iconst 2, 1) := by decide +kernel
theorem dX8_init_482 : decode cX8_init 482 = .ok (.iastore, 1) := by decide +kernel
theorem dX8_init_483 : decode cX8_init 483 = .ok (.dup, 1) := by decide +kernel
theorem dX8_init_484 : decode cX8_init 484 = .ok (.bipush 10, 2) := by decide +kernel
theorem dX8_init_486 : decode cX8_init 486 = .ok (.bipush 15, 2) := by decide +kernel
theorem dX8_init_488 : decode cX8_init 488 = .ok (.iastore, 1) := by decide +kernel
theorem dX8_init_489 : decode cX8_init 489 = .ok (.dup, 1) := by decide +kernel
theorem dX8_init_490 : decode cX8_init 490 = .ok (.bipush 11, 2) := by decide +kernel
theorem dX8_init_492 : decode cX8_init 492 = .ok (.bipush 10, 2) := by decide +kernel
theorem dX8_init_494 : decode cX8_init 494 = .ok (.iastore, 1) := by decide +kernel
theorem dX8_init_495 : decode cX8_init 495 = .ok (.dup, 1) := by decide +kernel
theorem dX8_init_496 : decode cX8_init 496 = .ok (.bipush 12, 2) := by decide +kernel
theorem dX8_init_498 : decode cX8_init 498 = .ok (.iconst 2, 1) := by decide +kernel
theorem dX8_init_499 : decode cX8_init 499 = .ok (.iastore, 1) := by decide +kernel
theorem dX8_init_500 : decode cX8_init 500 = .ok (.dup, 1) := by decide +kernel
theorem dX8_init_501 : decode cX8_init 501 = .ok (.bipush 13, 2) := by decide +kernel
theorem dX8_init_503 : decode cX8_init 503 = .ok (.bipush 6, 2) := by decide +kernel
theorem dX8_init_505 : decode cX8_init 505 = .ok (.iastore, 1) := by decide +kernel
theorem dX8_init_506 : decode cX8_init 506 = .ok (.dup, 1) := by decide +kernel
theorem dX8_init_507 : decode cX8_init 507 = .ok (.bipush 14, 2) := by decide +kernel
theorem dX8_init_509 : decode cX8_init 509 = .ok (.iconst 1, 1) := by decide +kernel
theorem dX8_init_510 : decode cX8_init 510 = .ok (.iastore, 1) := by decide +kernel
theorem dX8_init_511 : decode cX8_init 511 = .ok (.dup, 1) := by decide +kernel
theorem dX8_init_512 : decode cX8_init 512 = .ok (.bipush 15, 2) := by decide +kernel
theorem dX8_init_514 : decode cX8_init 514 = .ok (.iconst 0, 1) := by decide +kernel
theorem dX8_init_515 : decode cX8_init 515 = .ok (.iastore, 1) := by decide +kernel
theorem dX8_init_516 : decode cX8_init 516 = .ok (.dup, 1) := by decide +kernel
theorem dX8_init_517 : decode cX8_init 517 = .ok (.bipush 16, 2) := by decide +kernel
theorem dX8_init_519 : decode cX8_init 519 = .ok (.iconst 0, 1) := by decide +kernel
theorem dX8_init_520 : decode cX8_init 520 = .ok (.iastore, 1) := by decide +kernel
theorem dX8_init_521 : decode cX8_init 521 = .ok (.dup, 1) := by decide +kernel
theorem dX8_init_522 : decode cX8_init 522 = .ok (.bipush 17, 2) := by decide +kernel
theorem dX8_init_524 : decode cX8_init 524 = .ok (.iconst 1, 1) := by decide +kernel
theorem dX8_init_525 : decode cX8_init 525 = .ok (.iastore, 1) := by decide +kernel
theorem dX8_init_526 : decode cX8_init 526 = .ok (.putfield 19, 3) := by decide +kernel
theorem dX8_init_529 : decode cX8_init 529 = .ok (.aload_n 0, 1) := by decide +kernel
theorem dX8_init_530 : decode cX8_init 530 = .ok (.bipush 18, 2) := by decide +kernel
theorem dX8_init_532 : decode cX8_init 532 = .ok (.newarray .int, 2) := by decide +kernel
theorem dX8_init_534 : decode cX8_init 534 = .ok (.dup, 1) := by decide +kernel
theorem dX8_init_535 : decode cX8_init 535 = .ok (.iconst 0, 1) := by decide +kernel
theorem dX8_init_536 : decode cX8_init 536 = .ok (.iconst 1, 1) := by decide +kernel
theorem dX8_init_537 : decode cX8_init 537 = .ok (.iastore, 1) := by decide +kernel
theorem dX8_init_538 : decode cX8_init 538 = .ok (.dup, 1) := by decide +kernel
theorem dX8_init_539 : decode cX8_init 539 = .ok (.iconst 1, 1) := by decide +kernel
theorem dX8_init_540 : decode cX8_init 540 = .ok (.iconst 1, 1) := by decide +kernel
theorem dX8_init_541 : decode cX8_init 541 = .ok (.iastore, 1) := by decide +kernel
theorem dX8_init_542 : decode cX8_init 542 = .ok (.dup, 1) := by decide +kernel
theorem dX8_init_543 : decode cX8_init 543 = .ok (.iconst 2, 1) := by decide +kernel
theorem dX8_init_544 : decode cX8_init 544 = .ok (.iconst 1, 1) := by decide +kernel
theorem dX8_init_545 : decode cX8_init 545 = .ok (.iastore, 1) := by decide +kernel
theorem dX8_init_546 : decode cX8_init 546 = .ok (.dup, 1) := by decide +kernel
theorem dX8_init_547 : decode cX8_init 547 = .ok (.iconst 3, 1) := by decide +kernel
theorem dX8_init_548 : decode cX8_init 548 = .ok (.iconst 1, 1) := by decide +kernel
theorem dX8_init_549 : decode cX8_init 549 = .ok (.iastore, 1) := by decide +kernel
theorem dX8_init_550 : decode cX8_init 550 = .ok (.dup, 1) := by decide +kernel
theorem dX8_init_551 : decode cX8_init 551 = .ok (.iconst 4, 1) := by decide +kernel
theorem dX8_init_552 : decode cX8_init 552 = .ok (.iconst 1, 1) := by decide +kernel
theorem dX8_init_553 : decode cX8_init 553 = .ok (.iastore, 1) := by decide +kernel
theorem dX8_init_554 : decode cX8_init 554 = .ok (.dup, 1) := by decide +kernel
theorem dX8_init_555 : decode cX8_init 555 = .ok (.iconst 5, 1) := by decide +kernel
theorem dX8_init_556 : decode cX8_init 556 = .ok (.iconst 1, 1) := by decide +kernel
theorem dX8_init_557 : decode cX8_init 557 = .ok (.iastore, 1) := by decide +kernel
theorem dX8_init_558 : decode cX8_init 558 = .ok (.dup, 1) := by decide +kernel
theorem dX8_init_559 : decode cX8_init 559 = .ok (.bipush 6, 2) := by decide +kernel
theorem dX8_init_561 : decode cX8_init 561 = .ok (.iconst 1, 1) := by decide +kernel
theorem dX8_init_562 : decode cX8_init 562 = .ok (.iastore, 1) := by decide +kernel
theorem dX8_init_563 : decode cX8_init 563 = .ok (.dup, 1) := by decide +kernel
theorem dX8_init_564 : decode cX8_init 564 = .ok (.bipush 7, 2) := by decide +kernel
theorem dX8_init_566 : decode cX8_init 566 = .ok (.iconst 0, 1) := by decide +kernel
theorem dX8_init_567 : decode cX8_init 567 = .ok (.iastore, 1) := by decide +kernel
theorem dX8_init_568 : decode cX8_init 568 = .ok (.dup, 1) := by decide +kernel
theorem dX8_init_569 : decode cX8_init 569 = .ok (.bipush 8, 2) := by decide +kernel
theorem dX8_init_571 : decode cX8_init 571 = .ok (.iconst 1, 1) := by decide +kernel
theorem dX8_init_572 : decode cX8_init 572 = .ok (.iastore, 1) := by decide +kernel
theorem dX8_init_573 : decode cX8_init 573 = .ok (.dup, 1) := by decide +kernel
theorem dX8_init_574 : decode cX8_init 574 = .ok (.bipush 9, 2) := by decide +kernel
theorem dX8_init_576 : decode cX8_init 576 = .ok (.iconst 1, 1) := by decide +kernel
theorem dX8_init_577 : decode cX8_init 577 = .ok (.iastore, 1) := by decide +kernel
theorem dX8_init_578 : decode cX8_init 578 = .ok (.dup, 1) := by decide +kernel
theorem dX8_init_579 : decode cX8_init 579 = .ok (.bipush 10, 2) := by decide +kernel
theorem dX8_init_581 : decode cX8_init 581 = .ok (.iconst 0, 1) := by decide +kernel
theorem dX8_init_582 : decode cX8_init 582 = .ok (.iastore, 1) := by decide +kernel
theorem dX8_init_583 : decode cX8_init 583 = .ok (.dup, 1) := by decide +kernel
theorem dX8_init_584 : decode cX8_init 584 = .ok (.bipush 11, 2) := by decide +kernel
theorem dX8_init_586 : decode cX8_init 586 = .ok (.iconst 0, 1) := by decide +kernel
theorem dX8_init_587 : decode cX8_init 587 = .ok (.iastore, 1) := by decide +kernel
theorem dX8_init_588 : decode cX8_init 588 = .ok (.dup, 1) := by decide +kernel
theorem dX8_init_589 : decode cX8_init 589 = .ok (.bipush 12, 2) := by decide +kernel
theorem dX8_init_591 : decode cX8_init 591 = .ok (.iconst 0, 1) := by decide +kernel
theorem dX8_init_592 : decode cX8_init 592 = .ok (.iastore, 1) := by decide +kernel
theorem dX8_init_593 : decode cX8_init 593 = .ok (.dup, 1) := by decide +kernel
theorem dX8_init_594 : decode cX8_init 594 = .ok (.bipush 13, 2) := by decide +kernel
theorem dX8_init_596 : decode cX8_init 596 = .ok (.iconst 1, 1) := by decide +kernel
theorem dX8_init_597 : decode cX8_init 597 = .ok (.iastore, 1) := by decide +kernel
theorem dX8_init_598 : decode cX8_init 598 = .ok (.dup, 1) := by decide +kernel
theorem dX8_init_599 : decode cX8_init 599 = .ok (.bipush 14, 2) := by decide +kernel
theorem dX8_init_601 : decode cX8_init 601 = .ok (.iconst 1, 1) := by decide +kernel
theorem dX8_init_602 : decode cX8_init 602 = .ok (.iastore, 1) := by decide +kernel
theorem dX8_init_603 : decode cX8_init 603 = .ok (.dup, 1) := by decide +kernel
theorem dX8_init_604 : decode cX8_init 604 = .ok (.bipush 15, 2) := by decide +kernel
theorem dX8_init_606 : decode cX8_init 606 = .ok (.iconst 0, 1) := by decide +kernel
theorem dX8_init_607 : decode cX8_init 607 = .ok (.iastore, 1) := by decide +kernel
theorem dX8_init_608 : decode cX8_init 608 = .ok (.dup, 1) := by decide +kernel
theorem dX8_init_609 : decode cX8_init 609 = .ok (.bipush 16, 2) := by decide +kernel
theorem dX8_init_611 : decode cX8_init 611 = .ok (.iconst 0, 1) := by decide +kernel
theorem dX8_init_612 : decode cX8_init 612 = .ok (.iastore, 1) := by decide +kernel
theorem dX8_init_613 : decode cX8_init 613 = .ok (.dup, 1) := by decide +kernel
theorem dX8_init_614 : decode cX8_init 614 = .ok (.bipush 17, 2) := by decide +kernel
theorem dX8_init_616 : decode cX8_init 616 = .ok (.iconst 1, 1) := by decide +kernel
theorem dX8_init_617 : decode cX8_init 617 = .ok (.iastore, 1) := by decide +kernel
theorem dX8_init_618 : decode cX8_init 618 = .ok (.putfield 22, 3) := by decide +kernel
theorem dX8_init_621 : decode cX8_init 621 = .ok (.aload_n 0, 1) := by decide +kernel
theorem dX8_init_622 : decode cX8_init 622 = .ok (.bipush 18, 2) := by decide +kernel
theorem dX8_init_624 : decode cX8_init 624 = .ok (.newarray .int, 2) := by decide +kernel
theorem dX8_init_626 : decode cX8_init 626 = .ok (.dup, 1) := by decide +kernel
theorem dX8_init_627 : decode cX8_init 627 = .ok (.iconst 0, 1) := by decide +kernel
theorem dX8_init_628 : decode cX8_init 628 = .ok (.bipush 20, 2) := by decide +kernel
theorem dX8_init_630 : decode cX8_init 630 = .ok (.iastore, 1) := by decide +kernel
theorem dX8_init_631 : decode cX8_init 631 = .ok (.dup, 1) := by decide +kernel
theorem dX8_init_632 : decode cX8_init 632 = .ok (.iconst 1, 1) := by decide +kernel
theorem dX8_init_633 : decode cX8_init 633 = .ok (.bipush 20, 2) := by decide +kernel
theorem dX8_init_635 : decode cX8_init 635 = .ok (.iastore, 1) := by decide +kernel
theorem dX8_init_636 : decode cX8_init 636 = .ok (.dup, 1) := by decide +kernel
theorem dX8_init_637 : decode cX8_init 637 = .ok (.iconst 2, 1) := by decide +kernel
theorem dX8_init_638 : decode cX8_init 638 = .ok (.bipush 20, 2) := by decide +kernel
theorem dX8_init_640 : decode cX8_init 640 = .ok (.iastore, 1) := by decide +kernel
theorem dX8_init_641 : decode cX8_init 641 = .ok (.dup, 1) := by decide +kernel
theorem dX8_init_642 : decode cX8_init 642 = .ok (.iconst 3, 1) := by decide +kernel
theorem dX8_init_643 : decode cX8_init 643 = .ok (.bipush 20, 2) := by decide +kernel
theorem dX8_init_645 : decode cX8_init 645 = .ok (.iastore, 1) := by decide +kernel
theorem dX8_init_646 : decode cX8_init 646 = .ok (.dup, 1) := by decide +kernel
theorem dX8_init_647 : decode cX8_init 647 = .ok (.iconst 4, 1) := by decide +kernel
theorem dX8_init_648 : decode cX8_init 648 = .ok (.bipush 18, 2) := by decide +kernel
theorem dX8_init_650 : decode cX8_init 650 = .ok (.iastore, 1) := by decide +kernel
theorem dX8_init_651 : decode cX8_init 651 = .ok (.dup, 1) := by decide +kernel
theorem dX8_init_652 : decode cX8_init 652 = .ok (.iconst 5, 1) := by decide +kernel
theorem dX8_init_653 : decode cX8_init 653 = .ok (.bipush 18, 2) := by decide +kernel
theorem dX8_init_655 : decode cX8_init 655 = .ok (.iastore, 1) := by decide +kernel
theorem dX8_init_656 : decode cX8_init 656 = .ok (.dup, 1) := by decide +kernel
theorem dX8_init_657 : decode cX8_init 657 = .ok (.bipush 6, 2) := by decide +kernel
theorem dX8_init_659 : decode cX8_init 659 = .ok (.bipush 18, 2) := by decide +kernel
theorem dX8_init_661 : decode cX8_init 661 = .ok (.iastore, 1) := by decide +kernel
theorem dX8_init_662 : decode cX8_init 662 = .ok (.dup, 1) := by decide +kernel
theorem dX8_init_663 : decode cX8_init 663 = .ok (.bipush 7, 2) := by decide +kernel
theorem dX8_init_665 : decode cX8_init 665 = .ok (.bipush 60, 2) := by decide +kernel
theorem dX8_init_667 : decode cX8_init 667 = .ok (.iastore, 1) := by decide +kernel
theorem dX8_init_668 : decode cX8_init 668 = .ok (.dup, 1) := by decide +kernel
theorem dX8_init_669 : decode cX8_init 669 = .ok (.bipush 8, 2) := by decide +kernel
theorem dX8_init_671 : decode cX8_init 671 = .ok (.bipush 20, 2) := by decide +kernel
theorem dX8_init_673 : decode cX8_init 673 = .ok (.iastore, 1) := by decide +kernel
theorem dX8_init_674 : decode cX8_init 674 = .ok (.dup, 1) := by decide +kernel
theorem dX8_init_675 : decode cX8_init 675 = .ok (.bipush 9, 2) := by decide +kernel
theorem dX8_init_677 : decode cX8_init 677 = .ok (.bipush 9, 2) := by decide +kernel
theorem dX8_init_679 : decode cX8_init 679 = .ok (.iastore, 1) := by decide +kernel
theorem dX8_init_680 : decode cX8_init 680 = .ok (.dup, 1) := by decide +kernel
theorem dX8_init_681 : decode cX8_init 681 = .ok (.bipush 10, 2) := by decide +kernel
theorem dX8_init_683 : decode cX8_init 683 = .ok (.bipush 99, 2) := by decide +kernel
theorem dX8_init_685 : decode cX8_init 685 = .ok (.iastore, 1) := by decide +kernel
theorem dX8_init_686 : decode cX8_init 686 = .ok (.dup, 1) := by decide +kernel
theorem dX8_init_687 : decode cX8_init 687 = .ok (.bipush 11, 2) := by decide +kernel
theorem dX8_init_689 : decode cX8_init 689 = .ok (.bipush 30, 2) := by decide +kernel
theorem dX8_init_691 : decode cX8_init 691 = .ok (.iastore, 1) := by decide +kernel
theorem dX8_init_692 : decode cX8_init 692 = .ok (.dup, 1) := by decide +kernel
theorem dX8_init_693 : decode cX8_init 693 = .ok (.bipush 12, 2) := by decide +kernel
theorem dX8_init_695 : decode cX8_init 695 = .ok (.bipush 9, 2) := by decide +kernel
theorem dX8_init_697 : decode cX8_init 697 = .ok (.iastore, 1) := by decide +kernel
theorem dX8_init_698 : decode cX8_init 698 = .ok (.dup, 1) := by decide +kernel
theorem dX8_init_699 : decode cX8_init 699 = .ok (.bipush 13, 2) := by decide +kernel
theorem dX8_init_701 : decode cX8_init 701 = .ok (.bipush 18, 2) := by decide +kernel
theorem dX8_init_703 : decode cX8_init 703 = .ok (.iastore, 1) := by decide +kernel
theorem dX8_init_704 : decode cX8_init 704 = .ok (.dup, 1) := by decide +kernel
theorem dX8_init_705 : decode cX8_init 705 = .ok (.bipush 14, 2) := by decide +kernel
theorem dX8_init_707 : decode cX8_init 707 = .ok (.iconst 2, 1) := by decide +kernel
theorem dX8_init_708 : decode cX8_init 708 = .ok (.iastore, 1) := by decide +kernel
theorem dX8_init_709 : decode cX8_init 709 = .ok (.dup, 1) := by decide +kernel
theorem dX8_init_710 : decode cX8_init 710 = .ok (.bipush 15, 2) := by decide +kernel
theorem dX8_init_712 : decode cX8_init 712 = .ok (.iconst 2, 1) := by decide +kernel
theorem dX8_init_713 : decode cX8_init 713 = .ok (.iastore, 1) := by decide +kernel
theorem dX8_init_714 : decode cX8_init 714 = .ok (.dup, 1) := by decide +kernel
theorem dX8_init_715 : decode cX8_init 715 = .ok (.bipush 16, 2) := by decide +kernel
theorem dX8_init_717 : decode cX8_init 717 = .ok (.bipush 20, 2) := by decide +kernel
theorem dX8_init_719 : decode cX8_init 719 = .ok (.iastore, 1) := by decide +kernel
theorem dX8_init_720 : decode cX8_init 720 = .ok (.dup, 1) := by decide +kernel
theorem dX8_init_721 : decode cX8_init 721 = .ok (.bipush 17, 2) := by decide +kernel
theorem dX8_init_723 : decode cX8_init 723 = .ok (.iconst 5, 1) := by decide +kernel
theorem dX8_init_724 : decode cX8_init 724 = .ok (.iastore, 1) := by decide +kernel
theorem dX8_init_725 : decode cX8_init 725 = .ok (.putfield 25, 3) := by decide +kernel
theorem dX8_init_728 : decode cX8_init 728 = .ok (.aload_n 0, 1) := by decide +kernel
theorem dX8_init_729 : decode cX8_init 729 = .ok (.bipush 18, 2) := by decide +kernel
theorem dX8_init_731 : decode cX8_init 731 = .ok (.newarray .int, 2) := by decide +kernel
theorem dX8_init_733 : decode cX8_init 733 = .ok (.dup, 1) := by decide +kernel
theorem dX8_init_734 : decode cX8_init 734 = .ok (.iconst 0, 1) := by decide +kernel
theorem dX8_init_735 : decode cX8_init 735 = .ok (.iconst 5, 1) := by decide +kernel
theorem dX8_init_736 : decode cX8_init 736 = .ok (.iastore, 1) := by decide +kernel
theorem dX8_init_737 : decode cX8_init 737 = .ok (.dup, 1) := by decide +kernel
theorem dX8_init_738 : decode cX8_init 738 = .ok (.iconst 1, 1) := by decide +kernel
theorem dX8_init_739 : decode cX8_init 739 = .ok (.iconst 5, 1) := by decide +kernel
theorem dX8_init_740 : decode cX8_init 740 = .ok (.iastore, 1) := by decide +kernel
theorem dX8_init_741 : decode cX8_init 741 = .ok (.dup, 1) := by decide +kernel
theorem dX8_init_742 : decode cX8_init 742 = .ok (.iconst 2, 1) := by decide +kernel
theorem dX8_init_743 : decode cX8_init 743 = .ok (.iconst 5, 1) := by decide +kernel
theorem dX8_init_744 : decode cX8_init 744 = .ok (.iastore, 1) := by decide +kernel
theorem dX8_init_745 : decode cX8_init 745 = .ok (.dup, 1) := by decide +kernel
theorem dX8_init_746 : decode cX8_init 746 = .ok (.iconst 3, 1) := by decide +kernel
theorem dX8_init_747 : decode cX8_init 747 = .ok (.iconst 5, 1) := by decide +kernel
theorem dX8_init_748 : decode cX8_init 748 = .ok (.iastore, 1) := by decide +kernel
theorem dX8_init_749 : decode cX8_init 749 = .ok (.dup, 1) := by decide +kernel
theorem dX8_init_750 : decode cX8_init 750 = .ok (.iconst 4, 1) := by decide +kernel
theorem dX8_init_751 : decode cX8_init 751 = .ok (.bipush 9, 2) := by decide +kernel
theorem dX8_init_753 : decode cX8_init 753 = .ok (.iastore, 1) := by decide +kernel
theorem dX8_init_754 : decode cX8_init 754 = .ok (.dup, 1) := by decide +kernel
theorem dX8_init_755 : decode cX8_init 755 = .ok (.iconst 5, 1) := by decide +kernel
theorem dX8_init_756 : decode cX8_init 756 = .ok (.bipush 9, 2) := by decide +kernel
theorem dX8_init_758 : decode cX8_init 758 = .ok (.iastore, 1) := by decide +kernel
theorem dX8_init_759 : decode cX8_init 759 = .ok (.dup, 1) := by decide +kernel
theorem dX8_init_760 : decode cX8_init 760 = .ok (.bipush 6, 2) := by decide +kernel
theorem dX8_init_762 : decode cX8_init 762 = .ok (.bipush 9, 2) := by decide +kernel
theorem dX8_init_764 : decode cX8_init 764 = .ok (.iastore, 1) := by decide +kernel
theorem dX8_init_765 : decode cX8_init 765 = .ok (.dup, 1) := by decide +kernel
theorem dX8_init_766 : decode cX8_init 766 = .ok (.bipush 7, 2) := by decide +kernel
theorem dX8_init_768 : decode cX8_init 768 = .ok (.bipush 20, 2) := by decide +kernel
theorem dX8_init_770 : decode cX8_init 770 = .ok (.iastore, 1) := by decide +kernel
theorem dX8_init_771 : decode cX8_init 771 = .ok (.dup, 1) := by decide +kernel
theorem dX8_init_772 : decode cX8_init 772 = .ok (.bipush 8, 2) := by decide +kernel
theorem dX8_init_774 : decode cX8_init 774 = .ok (.iconst 5, 1) := by decide +kernel
theorem dX8_init_775 : decode cX8_init 775 = .ok (.iastore, 1) := by decide +kernel
theorem dX8_init_776 : decode cX8_init 776 = .ok (.dup, 1) := by decide +kernel
theorem dX8_init_777 : decode cX8_init 777 = .ok (.bipush 9, 2) := by decide +kernel
theorem dX8_init_779 : decode cX8_init 779 = .ok (.iconst 2, 1) := by decide +kernel
theorem dX8_init_780 : decode cX8_init 780 = .ok (.iastore, 1) := by decide +kernel
theorem dX8_init_781 : decode cX8_init 781 = .ok (.dup, 1) := by decide +kernel
theorem dX8_init_782 : decode cX8_init 782 = .ok (.bipush 10, 2) := by decide +kernel
theorem dX8_init_784 : decode cX8_init 784 = .ok (.bipush 15, 2) := by decide +kernel
theorem dX8_init_786 : decode cX8_init 786 = .ok (.iastore, 1) := by decide +kernel
theorem dX8_init_787 : decode cX8_init 787 = .ok (.dup, 1) := by decide +kernel
theorem dX8_init_788 : decode cX8_init 788 = .ok (.bipush 11, 2) := by decide +kernel
theorem dX8_init_790 : decode cX8_init 790 = .ok (.bipush 10, 2) := by decide +kernel
theorem dX8_init_792 : decode cX8_init 792 = .ok (.iastore, 1) := by decide +kernel
theorem dX8_init_793 : decode cX8_init 793 = .ok (.dup, 1) := by decide +kernel
theorem dX8_init_794 : decode cX8_init 794 = .ok (.bipush 12, 2) := by decide +kernel
theorem dX8_init_796 : decode cX8_init 796 = .ok (.iconst 2, 1) := by decide +kernel
theorem dX8_init_797 : decode cX8_init 797 = .ok (.iastore, 1) := by decide +kernel
theorem dX8_init_798 : decode cX8_init 798 = .ok (.dup, 1) := by decide +kernel
theorem dX8_init_799 : decode cX8_init 799 = .ok (.bipush 13, 2) := by decide +kernel
theorem dX8_init_801 : decode cX8_init 801 = .ok (.bipush 6, 2) := by decide +kernel
theorem dX8_init_803 : decode cX8_init 803 = .ok (.iastore, 1) := by decide +kernel
theorem dX8_init_804 : decode cX8_init 804 = .ok (.dup, 1) := by decide +kernel
theorem dX8_init_805 : decode cX8_init 805 = .ok (.bipush 14, 2) := by decide +kernel
theorem dX8_init_807 : decode cX8_init 807 = .ok (.iconst 1, 1) := by decide +kernel
theorem dX8_init_808 : decode cX8_init 808 = .ok (.iastore, 1) := by decide +kernel
theorem dX8_init_809 : decode cX8_init 809 = .ok (.dup, 1) := by decide +kernel
theorem dX8_init_810 : decode cX8_init 810 = .ok (.bipush 15, 2) := by decide +kernel
theorem dX8_init_812 : decode cX8_init 812 = .ok (.iconst 0, 1) := by decide +kernel
theorem dX8_init_813 : decode cX8_init 813 = .ok (.iastore, 1) := by decide +kernel
theorem dX8_init_814 : decode cX8_init 814 = .ok (.dup, 1) := by decide +kernel
theorem dX8_init_815 : decode cX8_init 815 = .ok (.bipush 16, 2) := by decide +kernel
theorem dX8_init_817 : decode cX8_init 817 = .ok (.iconst 0, 1) := by decide +kernel
theorem dX8_init_818 : decode cX8_init 818 = .ok (.iastore, 1) := by decide +kernel
theorem dX8_init_819 : decode cX8_init 819 = .ok (.dup, 1) := by decide +kernel
theorem dX8_init_820 : decode cX8_init 820 = .ok (.bipush 17, 2) := by decide +kernel
theorem dX8_init_822 : decode cX8_init 822 = .ok (.iconst 1, 1) := by decide +kernel
theorem dX8_init_823 : decode cX8_init 823 = .ok (.iastore, 1) := by decide +kernel
theorem dX8_init_824 : decode cX8_init 824 = .ok (.putfield 28, 3) := by decide +kernel
theorem dX8_init_827 : decode cX8_init 827 = .ok (.aload_n 0, 1) := by decide +kernel
theorem dX8_init_828 : decode cX8_init 828 = .ok (.bipush 18, 2) := by decide +kernel
theorem dX8_init_830 : decode cX8_init 830 = .ok (.newarray .int, 2) := by decide +kernel
theorem dX8_init_832 : decode cX8_init 832 = .ok (.putfield 31, 3) := by decide +kernel
theorem dX8_init_835 : decode cX8_init 835 = .ok (.aload_n 0, 1) := by decide +kernel
theorem dX8_init_836 : decode cX8_init 836 = .ok (.sipush 384, 3) := by decide +kernel
theorem dX8_init_839 : decode cX8_init 839 = .ok (.newarray .int, 2) := by decide +kernel
theorem dX8_init_841 : decode cX8_init 841 = .ok (.putfield 34, 3) := by decide +kernel
theorem dX8_init_844 : decode cX8_init 844 = .ok (.aload_n 0, 1) := by decide +kernel
theorem dX8_init_845 : decode cX8_init 845 = .ok (.bipush 6, 2) := by decide +kernel
theorem dX8_init_847 : decode cX8_init 847 = .ok (.newarray .int, 2) := by decide +kernel
theorem dX8_init_849 : decode cX8_init 849 = .ok (.putfield 37, 3) := by decide +kernel
theorem dX8_init_852 : decode cX8_init 852 = .ok (.aload_n 0, 1) := by decide +kernel
theorem dX8_init_853 : decode cX8_init 853 = .ok (.bipush 6, 2) := by decide +kernel
theorem dX8_init_855 : decode cX8_init 855 = .ok (.newarray .int, 2) := by decide +kernel
theorem dX8_init_857 : decode cX8_init 857 = .ok (.putfield 40, 3) := by decide +kernel
theorem dX8_init_860 : decode cX8_init 860 = .ok (.aload_n 0, 1) := by decide +kernel
theorem dX8_init_861 : decode cX8_init 861 = .ok (.bipush 64, 2) := by decide +kernel
theorem dX8_init_863 : decode cX8_init 863 = .ok (.newarray .int, 2) := by decide +kernel
theorem dX8_init_865 : decode cX8_init 865 = .ok (.putfield 43, 3) := by decide +kernel
theorem dX8_init_868 : decode cX8_init 868 = .ok (.aload_n 0, 1) := by decide +kernel
theorem dX8_init_869 : decode cX8_init 869 = .ok (.bipush 12, 2) := by decide +kernel
theorem dX8_init_871 : decode cX8_init 871 = .ok (.newarray .int, 2) := by decide +kernel
theorem dX8_init_873 : decode cX8_init 873 = .ok (.putfield 46, 3) := by decide +kernel
theorem dX8_init_876 : decode cX8_init 876 = .ok (.aload_n 0, 1) := by decide +kernel
theorem dX8_init_877 : decode cX8_init 877 = .ok (.bipush 12, 2) := by decide +kernel
theorem dX8_init_879 : decode cX8_init 879 = .ok (.newarray .int, 2) := by decide +kernel
theorem dX8_init_881 : decode cX8_init 881 = .ok (.putfield 49, 3) := by decide +kernel
theorem dX8_init_884 : decode cX8_init 884 = .ok (.aload_n 0, 1) := by decide +kernel
theorem dX8_init_885 : decode cX8_init 885 = .ok (.bipush 12, 2) := by decide +kernel
theorem dX8_init_887 : decode cX8_init 887 = .ok (.newarray .int, 2) := by decide +kernel
theorem dX8_init_889 : decode cX8_init 889 = .ok (.putfield 52, 3) := by decide +kernel
theorem dX8_init_892 : decode cX8_init 892 = .ok (.aload_n 0, 1) := by decide +kernel
theorem dX8_init_893 : decode cX8_init 893 = .ok (.bipush 6, 2) := by decide +kernel
theorem dX8_init_895 : decode cX8_init 895 = .ok (.newarray .int, 2) := by decide +kernel
theorem dX8_init_897 : decode cX8_init 897 = .ok (.putfield 55, 3) := by decide +kernel
theorem dX8_init_900 : decode cX8_init 900 = .ok (.aload_n 0, 1) := by decide +kernel
theorem dX8_init_901 : decode cX8_init 901 = .ok (.iconst 4, 1) := by decide +kernel
theorem dX8_init_902 : decode cX8_init 902 = .ok (.newarray .int, 2) := by decide +kernel
theorem dX8_init_904 : decode cX8_init 904 = .ok (.dup, 1) := by decide +kernel
theorem dX8_init_905 : decode cX8_init 905 = .ok (.iconst 0, 1) := by decide +kernel
theorem dX8_init_906 : decode cX8_init 906 = .ok (.bipush (-4), 2) := by decide +kernel
theorem dX8_init_908 : decode cX8_init 908 = .ok (.iastore, 1) := by decide +kernel
theorem dX8_init_909 : decode cX8_init 909 = .ok (.dup, 1) := by decide +kernel
theorem dX8_init_910 : decode cX8_init 910 = .ok (.iconst 1, 1) := by decide +kernel
theorem dX8_init_911 : decode cX8_init 911 = .ok (.bipush (-4), 2) := by decide +kernel
theorem dX8_init_913 : decode cX8_init 913 = .ok (.iastore, 1) := by decide +kernel
theorem dX8_init_914 : decode cX8_init 914 = .ok (.dup, 1) := by decide +kernel
theorem dX8_init_915 : decode cX8_init 915 = .ok (.iconst 2, 1) := by decide +kernel
theorem dX8_init_916 : decode cX8_init 916 = .ok (.bipush (-4), 2) := by decide +kernel
theorem dX8_init_918 : decode cX8_init 918 = .ok (.iastore, 1) := by decide +kernel
theorem dX8_init_919 : decode cX8_init 919 = .ok (.dup, 1) := by decide +kernel
theorem dX8_init_920 : decode cX8_init 920 = .ok (.iconst 3, 1) := by decide +kernel
theorem dX8_init_921 : decode cX8_init 921 = .ok (.bipush (-4), 2) := by decide +kernel
theorem dX8_init_923 : decode cX8_init 923 = .ok (.iastore, 1) := by decide +kernel
theorem dX8_init_924 : decode cX8_init 924 = .ok (.putfield 58, 3) := by decide +kernel
theorem dX8_init_927 : decode cX8_init 927 = .ok (.aload_n 0, 1) := by decide +kernel
theorem dX8_init_928 : decode cX8_init 928 = .ok (.iconst 4, 1) := by decide +kernel
theorem dX8_init_929 : decode cX8_init 929 = .ok (.newarray .int, 2) := by decide +kernel
theorem dX8_init_931 : decode cX8_init 931 = .ok (.putfield 61, 3) := by decide +kernel
theorem dX8_init_934 : decode cX8_init 934 = .ok (.aload_n 0, 1) := by decide +kernel
theorem dX8_init_935 : decode cX8_init 935 = .ok (.sipush 256, 3) := by decide +kernel
theorem dX8_init_938 : decode cX8_init 938 = .ok (.newarray .int, 2) := by decide +kernel
theorem dX8_init_940 : decode cX8_init 940 = .ok (.putfield 64, 3) := by decide +kernel
theorem dX8_init_943 : decode cX8_init 943 = .ok (.return_, 1) := by decide +kernel
theorem dX8_in_0 : decode cX8_in 0 = .ok (.lload_n 0, 1) := by decide +kernel
theorem dX8_in_1 : decode cX8_in 1 = .ok (.lload_n 2, 1) := by decide +kernel
theorem dX8_in_2 : decode cX8_in 2 = .ok (.lcmp, 1) := by decide +kernel
theorem dX8_in_3 : decode cX8_in 3 = .ok (.ifCond .lt 14, 3) := by decide +kernel
theorem dX8_in_6 : decode cX8_in 6 = .ok (.lload_n 0, 1) := by decide +kernel
theorem dX8_in_7 : decode cX8_in 7 = .ok (.lload 4, 2) := by decide +kernel
theorem dX8_in_9 : decode cX8_in 9 = .ok (.lcmp, 1) := by decide +kernel
theorem dX8_in_10 : decode cX8_in 10 = .ok (.ifCond .gt 7, 3) := by decide +kernel
theorem dX8_in_13 : decode cX8_in 13 = .ok (.iconst 1, 1) := by decide +kernel
theorem dX8_in_14 : decode cX8_in 14 = .ok (.goto 4, 3) := by decide +kernel
theorem dX8_in_17 : decode cX8_in 17 = .ok (.iconst 0, 1) := by decide +kernel
theorem dX8_in_18 : decode cX8_in 18 = .ok (.ireturn, 1) := by decide +kernel
theorem dX8_feed_0 : decode cX8_feed 0 = .ok (.aload_n 0, 1) := by decide +kernel
theorem dX8_feed_1 : decode cX8_feed 1 = .ok (.getfield 67, 3) := by decide +kernel
theorem dX8_feed_4 : decode cX8_feed 4 = .ok (.bipush 8, 2) := by decide +kernel
theorem dX8_feed_6 : decode cX8_feed 6 = .ok (.iadd, 1) := by decide +kernel
theorem dX8_feed_7 : decode cX8_feed 7 = .ok (.sipush 200, 3) := by decide +kernel
theorem dX8_feed_10 : decode cX8_feed 10 = .ok (.if_icmp .le 6, 3) := by decide +kernel
theorem dX8_feed_13 : decode cX8_feed 13 = .ok (.bipush (-3), 2) := by decide +kernel
theorem dX8_feed_15 : decode cX8_feed 15 = .ok (.ireturn, 1) := by decide +kernel
theorem dX8_feed_16 : decode cX8_feed 16 = .ok (.bipush 56, 2) := by decide +kernel
theorem dX8_feed_18 : decode cX8_feed 18 = .ok (.istore_n 3, 1) := by decide +kernel
theorem dX8_feed_19 : decode cX8_feed 19 = .ok (.iload_n 3, 1) := by decide +kernel
theorem dX8_feed_20 : decode cX8_feed 20 = .ok (.ifCond .lt 36, 3) := by decide +kernel
theorem dX8_feed_23 : decode cX8_feed 23 = .ok (.aload_n 0, 1) := by decide +kernel
theorem dX8_feed_24 : decode cX8_feed 24 = .ok (.getfield 7, 3) := by decide +kernel
theorem dX8_feed_27 : decode cX8_feed 27 = .ok (.aload_n 0, 1) := by decide +kernel
theorem dX8_feed_28 : decode cX8_feed 28 = .ok (.getfield 67, 3) := by decide +kernel
theorem dX8_feed_31 : decode cX8_feed 31 = .ok (.lload_n 1, 1) := by decide +kernel
theorem dX8_feed_32 : decode cX8_feed 32 = .ok (.iload_n 3, 1) := by decide +kernel
theorem dX8_feed_33 : decode cX8_feed 33 = .ok (.lshr, 1) := by decide +kernel
theorem dX8_feed_34 : decode cX8_feed 34 = .ok (.l2i, 1) := by decide +kernel
theorem dX8_feed_35 : decode cX8_feed 35 = .ok (.sipush 255, 3) := by decide +kernel
theorem dX8_feed_38 : decode cX8_feed 38 = .ok (.iand, 1) := by decide +kernel
theorem dX8_feed_39 : decode cX8_feed 39 = .ok (.iastore, 1) := by decide +kernel
theorem dX8_feed_40 : decode cX8_feed 40 = .ok (.aload_n 0, 1) := by decide +kernel
theorem dX8_feed_41 : decode cX8_feed 41 = .ok (.dup, 1) := by decide +kernel
theorem dX8_feed_42 : decode cX8_feed 42 = .ok (.getfield 67, 3) := by decide +kernel
theorem dX8_feed_45 : decode cX8_feed 45 = .ok (.iconst 1, 1) := by decide +kernel
theorem dX8_feed_46 : decode cX8_feed 46 = .ok (.iadd, 1) := by decide +kernel
theorem dX8_feed_47 : decode cX8_feed 47 = .ok (.putfield 67, 3) := by decide +kernel
theorem dX8_feed_50 : decode cX8_feed 50 = .ok (.iinc 3 (-8), 3) := by decide +kernel
theorem dX8_feed_53 : decode cX8_feed 53 = .ok (.goto (-34), 3) := by decide +kernel
theorem dX8_feed_56 : decode cX8_feed 56 = .ok (.aload_n 0, 1) := by decide +kernel
theorem dX8_feed_57 : decode cX8_feed 57 = .ok (.getfield 67, 3) := by decide +kernel
theorem dX8_feed_60 : decode cX8_feed 60 = .ok (.ireturn, 1) := by decide +kernel
theorem dX8_end_0 : decode cX8_end 0 = .ok (.iload_n 1, 1) := by decide +kernel
theorem dX8_end_1 : decode cX8_end 1 = .ok (.i2l, 1) := by decide +kernel
theorem dX8_end_2 : decode cX8_end 2 = .ok (.lconst 0, 1) := by decide +kernel
theorem dX8_end_3 : decode cX8_end 3 = .ok (.aload_n 0, 1) := by decide +kernel
theorem dX8_end_4 : decode cX8_end 4 = .ok (.getfield 67, 3) := by decide +kernel
theorem dX8_end_7 : decode cX8_end 7 = .ok (.i2l, 1) := by decide +kernel
theorem dX8_end_8 : decode cX8_end 8 = .ok (.invokestatic 71, 3) := by decide +kernel
theorem dX8_end_11 : decode cX8_end 11 = .ok (.ifCond .ne 5, 3) := by decide +kernel
theorem dX8_end_14 : decode cX8_end 14 = .ok (.iconst (-1), 1) := by decide +kernel
theorem dX8_end_15 : decode cX8_end 15 = .ok (.ireturn, 1) := by decide +kernel
theorem dX8_end_16 : decode cX8_end 16 = .ok (.aload_n 0, 1) := by decide +kernel
theorem dX8_end_17 : decode cX8_end 17 = .ok (.getfield 67, 3) := by decide +kernel
theorem dX8_end_20 : decode cX8_end 20 = .ok (.istore_n 2, 1) := by decide +kernel
theorem dX8_end_21 : decode cX8_end 21 = .ok (.aload_n 0, 1) := by decide +kernel
theorem dX8_end_22 : decode cX8_end 22 = .ok (.iload_n 1, 1) := by decide +kernel
theorem dX8_end_23 : decode cX8_end 23 = .ok (.putfield 67, 3) := by decide +kernel
theorem dX8_end_26 : decode cX8_end 26 = .ok (.iload_n 2, 1) := by decide +kernel
theorem dX8_end_27 : decode cX8_end 27 = .ok (.ireturn, 1) := by decide +kernel
theorem dX8_byteAt_0 : decode cX8_byteAt 0 = .ok (.iload_n 1, 1) := by decide +kernel
theorem dX8_byteAt_1 : decode cX8_byteAt 1 = .ok (.aload_n 0, 1) := by decide +kernel
theorem dX8_byteAt_2 : decode cX8_byteAt 2 = .ok (.getfield 67, 3) := by decide +kernel
theorem dX8_byteAt_5 : decode cX8_byteAt 5 = .ok (.if_icmp .ge 12, 3) := by decide +kernel
theorem dX8_byteAt_8 : decode cX8_byteAt 8 = .ok (.aload_n 0, 1) := by decide +kernel
theorem dX8_byteAt_9 : decode cX8_byteAt 9 = .ok (.getfield 7, 3) := by decide +kernel
theorem dX8_byteAt_12 : decode cX8_byteAt 12 = .ok (.iload_n 1, 1) := by decide +kernel
theorem dX8_byteAt_13 : decode cX8_byteAt 13 = .ok (.iaload, 1) := by decide +kernel
theorem dX8_byteAt_14 : decode cX8_byteAt 14 = .ok (.goto 5, 3) := by decide +kernel
theorem dX8_byteAt_17 : decode cX8_byteAt 17 = .ok (.bipush (-4), 2) := by decide +kernel
theorem dX8_byteAt_19 : decode cX8_byteAt 19 = .ok (.ireturn, 1) := by decide +kernel
theorem dX8_fails_0 : decode cX8_fails 0 = .ok (.aload_n 0, 1) := by decide +kernel
theorem dX8_fails_1 : decode cX8_fails 1 = .ok (.getfield 75, 3) := by decide +kernel
theorem dX8_fails_4 : decode cX8_fails 4 = .ok (.ifCond .ne 16, 3) := by decide +kernel
theorem dX8_fails_7 : decode cX8_fails 7 = .ok (.aload_n 0, 1) := by decide +kernel
theorem dX8_fails_8 : decode cX8_fails 8 = .ok (.iload_n 1, 1) := by decide +kernel
theorem dX8_fails_9 : decode cX8_fails 9 = .ok (.putfield 75, 3) := by decide +kernel
theorem dX8_fails_12 : decode cX8_fails 12 = .ok (.aload_n 0, 1) := by decide +kernel
theorem dX8_fails_13 : decode cX8_fails 13 = .ok (.aload_n 0, 1) := by decide +kernel
theorem dX8_fails_14 : decode cX8_fails 14 = .ok (.getfield 78, 3) := by decide +kernel
theorem dX8_fails_17 : decode cX8_fails 17 = .ok (.putfield 81, 3) := by decide +kernel
theorem dX8_fails_20 : decode cX8_fails 20 = .ok (.return_, 1) := by decide +kernel
theorem dX8_nameAt_0 : decode cX8_nameAt 0 = .ok (.iconst 0, 1) := by decide +kernel
theorem dX8_nameAt_1 : decode cX8_nameAt 1 = .ok (.istore_n 3, 1) := by decide +kernel
theorem dX8_nameAt_2 : decode cX8_nameAt 2 = .ok (.iload_n 3, 1) := by decide +kernel
theorem dX8_nameAt_3 : decode cX8_nameAt 3 = .ok (.bipush 13, 2) := by decide +kernel
theorem dX8_nameAt_5 : decode cX8_nameAt 5 = .ok (.if_icmp .ge 98, 3) := by decide +kernel
theorem dX8_nameAt_8 : decode cX8_nameAt 8 = .ok (.iload_n 2, 1) := by decide +kernel
theorem dX8_nameAt_9 : decode cX8_nameAt 9 = .ok (.iload_n 1, 1) := by decide +kernel
theorem dX8_nameAt_10 : decode cX8_nameAt 10 = .ok (.isub, 1) := by decide +kernel
theorem dX8_nameAt_11 : decode cX8_nameAt 11 = .ok (.aload_n 0, 1) := by decide +kernel
theorem dX8_nameAt_12 : decode cX8_nameAt 12 = .ok (.getfield 13, 3) := by decide +kernel
theorem dX8_nameAt_15 : decode cX8_nameAt 15 = .ok (.iload_n 3, 1) := by decide +kernel
theorem dX8_nameAt_16 : decode cX8_nameAt 16 = .ok (.iconst 1, 1) := by decide +kernel
theorem dX8_nameAt_17 : decode cX8_nameAt 17 = .ok (.iadd, 1) := by decide +kernel
theorem dX8_nameAt_18 : decode cX8_nameAt 18 = .ok (.iaload, 1) := by decide +kernel
theorem dX8_nameAt_19 : decode cX8_nameAt 19 = .ok (.aload_n 0, 1) := by decide +kernel
theorem dX8_nameAt_20 : decode cX8_nameAt 20 = .ok (.getfield 13, 3) := by decide +kernel
theorem dX8_nameAt_23 : decode cX8_nameAt 23 = .ok (.iload_n 3, 1) := by decide +kernel
theorem dX8_nameAt_24 : decode cX8_nameAt 24 = .ok (.iaload, 1) := by decide +kernel
theorem dX8_nameAt_25 : decode cX8_nameAt 25 = .ok (.isub, 1) := by decide +kernel
theorem dX8_nameAt_26 : decode cX8_nameAt 26 = .ok (.if_icmp .ne 7, 3) := by decide +kernel
theorem dX8_nameAt_29 : decode cX8_nameAt 29 = .ok (.iconst 1, 1) := by decide +kernel
theorem dX8_nameAt_30 : decode cX8_nameAt 30 = .ok (.goto 4, 3) := by decide +kernel
theorem dX8_nameAt_33 : decode cX8_nameAt 33 = .ok (.iconst 0, 1) := by decide +kernel
theorem dX8_nameAt_34 : decode cX8_nameAt 34 = .ok (.istore 4, 2) := by decide +kernel
theorem dX8_nameAt_36 : decode cX8_nameAt 36 = .ok (.iconst 0, 1) := by decide +kernel
theorem dX8_nameAt_37 : decode cX8_nameAt 37 = .ok (.istore 5, 2) := by decide +kernel
theorem dX8_nameAt_39 : decode cX8_nameAt 39 = .ok (.iload 4, 2) := by decide +kernel
theorem dX8_nameAt_41 : decode cX8_nameAt 41 = .ok (.ifCond .eq 49, 3) := by decide +kernel
theorem dX8_nameAt_44 : decode cX8_nameAt 44 = .ok (.iload 5, 2) := by decide +kernel
theorem dX8_nameAt_46 : decode cX8_nameAt 46 = .ok (.iload_n 2, 1) := by decide +kernel
theorem dX8_nameAt_47 : decode cX8_nameAt 47 = .ok (.iload_n 1, 1) := by decide +kernel
theorem dX8_nameAt_48 : decode cX8_nameAt 48 = .ok (.isub, 1) := by decide +kernel
theorem dX8_nameAt_49 : decode cX8_nameAt 49 = .ok (.if_icmp .ge 41, 3) := by decide +kernel
theorem dX8_nameAt_52 : decode cX8_nameAt 52 = .ok (.aload_n 0, 1) := by decide +kernel
theorem dX8_nameAt_53 : decode cX8_nameAt 53 = .ok (.iload_n 1, 1) := by decide +kernel
theorem dX8_nameAt_54 : decode cX8_nameAt 54 = .ok (.iload 5, 2) := by decide +kernel
theorem dX8_nameAt_56 : decode cX8_nameAt 56 = .ok (.iadd, 1) := by decide +kernel
theorem dX8_nameAt_57 : decode cX8_nameAt 57 = .ok (.invokevirtual 84, 3) := by decide +kernel
theorem dX8_nameAt_60 : decode cX8_nameAt 60 = .ok (.aload_n 0, 1) := by decide +kernel
theorem dX8_nameAt_61 : decode cX8_nameAt 61 = .ok (.getfield 16, 3) := by decide +kernel
theorem dX8_nameAt_64 : decode cX8_nameAt 64 = .ok (.aload_n 0, 1) := by decide +kernel
theorem dX8_nameAt_65 : decode cX8_nameAt 65 = .ok (.getfield 13, 3) := by decide +kernel
theorem dX8_nameAt_68 : decode cX8_nameAt 68 = .ok (.iload_n 3, 1) := by decide +kernel
theorem dX8_nameAt_69 : decode cX8_nameAt 69 = .ok (.iaload, 1) := by decide +kernel
theorem dX8_nameAt_70 : decode cX8_nameAt 70 = .ok (.iload 5, 2) := by decide +kernel
theorem dX8_nameAt_72 : decode cX8_nameAt 72 = .ok (.iadd, 1) := by decide +kernel
theorem dX8_nameAt_73 : decode cX8_nameAt 73 = .ok (.iaload, 1) := by decide +kernel
theorem dX8_nameAt_74 : decode cX8_nameAt 74 = .ok (.if_icmp .ne 7, 3) := by decide +kernel
theorem dX8_nameAt_77 : decode cX8_nameAt 77 = .ok (.iconst 1, 1) := by decide +kernel
theorem dX8_nameAt_78 : decode cX8_nameAt 78 = .ok (.goto 4, 3) := by decide +kernel
theorem dX8_nameAt_81 : decode cX8_nameAt 81 = .ok (.iconst 0, 1) := by decide +kernel
theorem dX8_nameAt_82 : decode cX8_nameAt 82 = .ok (.istore 4, 2) := by decide +kernel
theorem dX8_nameAt_84 : decode cX8_nameAt 84 = .ok (.iinc 5 1, 3) := by decide +kernel
theorem dX8_nameAt_87 : decode cX8_nameAt 87 = .ok (.goto (-48), 3) := by decide +kernel
theorem dX8_nameAt_90 : decode cX8_nameAt 90 = .ok (.iload 4, 2) := by decide +kernel
theorem dX8_nameAt_92 : decode cX8_nameAt 92 = .ok (.ifCond .eq 5, 3) := by decide +kernel
theorem dX8_nameAt_95 : decode cX8_nameAt 95 = .ok (.iload_n 3, 1) := by decide +kernel
theorem dX8_nameAt_96 : decode cX8_nameAt 96 = .ok (.ireturn, 1) := by decide +kernel
theorem dX8_nameAt_97 : decode cX8_nameAt 97 = .ok (.iinc 3 1, 3) := by decide +kernel
theorem dX8_nameAt_100 : decode cX8_nameAt 100 = .ok (.goto (-98), 3) := by decide +kernel
theorem dX8_nameAt_103 : decode cX8_nameAt 103 = .ok (.bipush (-4), 2) := by decide +kernel
theorem dX8_nameAt_105 : decode cX8_nameAt 105 = .ok (.ireturn, 1) := by decide +kernel
theorem dX8_next_0 : decode cX8_next 0 = .ok (.aload_n 0, 1) := by decide +kernel
theorem dX8_next_1 : decode cX8_next 1 = .ok (.getfield 75, 3) := by decide +kernel
theorem dX8_next_4 : decode cX8_next 4 = .ok (.ifCond .le 4, 3) := by decide +kernel
theorem dX8_next_7 : decode cX8_next 7 = .ok (.return_, 1) := by decide +kernel
theorem dX8_next_8 : decode cX8_next 8 = .ok (.aload_n 0, 1) := by decide +kernel
theorem dX8_next_9 : decode cX8_next 9 = .ok (.aload_n 0, 1) := by decide +kernel
theorem dX8_next_10 : decode cX8_next 10 = .ok (.getfield 88, 3) := by decide +kernel
theorem dX8_next_13 : decode cX8_next 13 = .ok (.invokevirtual 84, 3) := by decide +kernel
theorem dX8_next_16 : decode cX8_next 16 = .ok (.bipush 32, 2) := by decide +kernel
theorem dX8_next_18 : decode cX8_next 18 = .ok (.if_icmp .ne 16, 3) := by decide +kernel
theorem dX8_next_21 : decode cX8_next 21 = .ok (.aload_n 0, 1) := by decide +kernel
theorem dX8_next_22 : decode cX8_next 22 = .ok (.dup, 1) := by decide +kernel
theorem dX8_next_23 : decode cX8_next 23 = .ok (.getfield 88, 3) := by decide +kernel
theorem dX8_next_26 : decode cX8_next 26 = .ok (.iconst 1, 1) := by decide +kernel
theorem dX8_next_27 : decode cX8_next 27 = .ok (.iadd, 1) := by decide +kernel
theorem dX8_next_28 : decode cX8_next 28 = .ok (.putfield 88, 3) := by decide +kernel
theorem dX8_next_31 : decode cX8_next 31 = .ok (.goto (-23), 3) := by decide +kernel
theorem dX8_next_34 : decode cX8_next 34 = .ok (.aload_n 0, 1) := by decide +kernel
theorem dX8_next_35 : decode cX8_next 35 = .ok (.aload_n 0, 1) := by decide +kernel
theorem dX8_next_36 : decode cX8_next 36 = .ok (.getfield 88, 3) := by decide +kernel
theorem dX8_next_39 : decode cX8_next 39 = .ok (.putfield 78, 3) := by decide +kernel
theorem dX8_next_42 : decode cX8_next 42 = .ok (.aload_n 0, 1) := by decide +kernel
theorem dX8_next_43 : decode cX8_next 43 = .ok (.aload_n 0, 1) := by decide +kernel
theorem dX8_next_44 : decode cX8_next 44 = .ok (.getfield 88, 3) := by decide +kernel
theorem dX8_next_47 : decode cX8_next 47 = .ok (.invokevirtual 84, 3) := by decide +kernel
theorem dX8_next_50 : decode cX8_next 50 = .ok (.istore_n 1, 1) := by decide +kernel
theorem dX8_next_51 : decode cX8_next 51 = .ok (.aload_n 0, 1) := by decide +kernel
theorem dX8_next_52 : decode cX8_next 52 = .ok (.iconst 0, 1) := by decide +kernel
theorem dX8_next_53 : decode cX8_next 53 = .ok (.putfield 91, 3) := by decide +kernel
theorem dX8_next_56 : decode cX8_next 56 = .ok (.iload_n 1, 1) := by decide +kernel
theorem dX8_next_57 : decode cX8_next 57 = .ok (.bipush (-4), 2) := by decide +kernel
theorem dX8_next_59 : decode cX8_next 59 = .ok (.if_icmp .ne 11, 3) := by decide +kernel
theorem dX8_next_62 : decode cX8_next 62 = .ok (.aload_n 0, 1) := by decide +kernel
theorem dX8_next_63 : decode cX8_next 63 = .ok (.iconst 0, 1) := by decide +kernel
theorem dX8_next_64 : decode cX8_next 64 = .ok (.putfield 94, 3) := by decide +kernel
theorem dX8_next_67 : decode cX8_next 67 = .ok (.goto 232, 3) := by decide +kernel
theorem dX8_next_70 : decode cX8_next 70 = .ok (.iload_n 1, 1) := by decide +kernel
theorem dX8_next_71 : decode cX8_next 71 = .ok (.i2l, 1) := by decide +kernel
theorem dX8_next_72 : decode cX8_next 72 = .ok (.ldc2_w 97, 3) := by decide +kernel
theorem dX8_next_75 : decode cX8_next 75 = .ok (.ldc2_w 99, 3) := by decide +kernel
theorem dX8_next_78 : decode cX8_next 78 = .ok (.invokestatic 71, 3) := by decide +kernel
theorem dX8_next_81 : decode cX8_next 81 = .ok (.ifCond .eq 75, 3) := by decide +kernel
theorem dX8_next_84 : decode cX8_next 84 = .ok (.aload_n 0, 1) := by decide +kernel
theorem dX8_next_85 : decode cX8_next 85 = .ok (.aload_n 0, 1) := by decide +kernel
theorem dX8_next_86 : decode cX8_next 86 = .ok (.getfield 88, 3) := by decide +kernel
theorem dX8_next_89 : decode cX8_next 89 = .ok (.invokevirtual 84, 3) := by decide +kernel
theorem dX8_next_92 : decode cX8_next 92 = .ok (.i2l, 1) := by decide +kernel
theorem dX8_next_93 : decode cX8_next 93 = .ok (.ldc2_w 97, 3) := by decide +kernel
theorem dX8_next_96 : decode cX8_next 96 = .ok (.ldc2_w 99, 3) := by decide +kernel
theorem dX8_next_99 : decode cX8_next 99 = .ok (.invokestatic 71, 3) := by decide +kernel
theorem dX8_next_102 : decode cX8_next 102 = .ok (.ifCond .eq 16, 3) := by decide +kernel
theorem dX8_next_105 : decode cX8_next 105 = .ok (.aload_n 0, 1) := by decide +kernel
theorem dX8_next_106 : decode cX8_next 106 = .ok (.dup, 1) := by decide +kernel
theorem dX8_next_107 : decode cX8_next 107 = .ok (.getfield 88, 3) := by decide +kernel
theorem dX8_next_110 : decode cX8_next 110 = .ok (.iconst 1, 1) := by decide +kernel
theorem dX8_next_111 : decode cX8_next 111 = .ok (.iadd, 1) := by decide +kernel
theorem dX8_next_112 : decode cX8_next 112 = .ok (.putfield 88, 3) := by decide +kernel
theorem dX8_next_115 : decode cX8_next 115 = .ok (.goto (-31), 3) := by decide +kernel
theorem dX8_next_118 : decode cX8_next 118 = .ok (.aload_n 0, 1) := by decide +kernel
theorem dX8_next_119 : decode cX8_next 119 = .ok (.iconst 1, 1) := by decide +kernel
theorem dX8_next_120 : decode cX8_next 120 = .ok (.putfield 94, 3) := by decide +kernel
theorem dX8_next_123 : decode cX8_next 123 = .ok (.aload_n 0, 1) := by decide +kernel
theorem dX8_next_124 : decode cX8_next 124 = .ok (.aload_n 0, 1) := by decide +kernel
theorem dX8_next_125 : decode cX8_next 125 = .ok (.aload_n 0, 1) := by decide +kernel
theorem dX8_next_126 : decode cX8_next 126 = .ok (.getfield 78, 3) := by decide +kernel
theorem dX8_next_129 : decode cX8_next 129 = .ok (.aload_n 0, 1) := by decide +kernel
theorem dX8_next_130 : decode cX8_next 130 = .ok (.getfield 88, 3) := by decide +kernel
theorem dX8_next_133 : decode cX8_next 133 = .ok (.invokevirtual 101, 3) := by decide +kernel
theorem dX8_next_136 : decode cX8_next 136 = .ok (.putfield 91, 3) := by decide +kernel
theorem dX8_next_139 : decode cX8_next 139 = .ok (.aload_n 0, 1) := by decide +kernel
theorem dX8_next_140 : decode cX8_next 140 = .ok (.getfield 91, 3) := by decide +kernel
theorem dX8_next_143 : decode cX8_next 143 = .ok (.bipush (-4), 2) := by decide +kernel
theorem dX8_next_145 : decode cX8_next 145 = .ok (.if_icmp .ne 154, 3) := by decide +kernel
theorem dX8_next_148 : decode cX8_next 148 = .ok (.aload_n 0, 1) := by decide +kernel
theorem dX8_next_149 : decode cX8_next 149 = .ok (.iconst 1, 1) := by decide +kernel
theorem dX8_next_150 : decode cX8_next 150 = .ok (.invokevirtual 105, 3) := by decide +kernel
theorem dX8_next_153 : decode cX8_next 153 = .ok (.goto 146, 3) := by decide +kernel
theorem dX8_next_156 : decode cX8_next 156 = .ok (.iload_n 1, 1) := by decide +kernel
theorem dX8_next_157 : decode cX8_next 157 = .ok (.i2l, 1) := by decide +kernel
theorem dX8_next_158 : decode cX8_next 158 = .ok (.ldc2_w 109, 3) := by decide +kernel
theorem dX8_next_161 : decode cX8_next 161 = .ok (.ldc2_w 111, 3) := by decide +kernel
theorem dX8_next_164 : decode cX8_next 164 = .ok (.invokestatic 71, 3) := by decide +kernel
theorem dX8_next_167 : decode cX8_next 167 = .ok (.ifCond .eq 106, 3) := by decide +kernel
theorem dX8_next_170 : decode cX8_next 170 = .ok (.aload_n 0, 1) := by decide +kernel
theorem dX8_next_171 : decode cX8_next 171 = .ok (.aload_n 0, 1) := by decide +kernel
theorem dX8_next_172 : decode cX8_next 172 = .ok (.getfield 88, 3) := by decide +kernel
theorem dX8_next_175 : decode cX8_next 175 = .ok (.invokevirtual 84, 3) := by decide +kernel
theorem dX8_next_178 : decode cX8_next 178 = .ok (.i2l, 1) := by decide +kernel
theorem dX8_next_179 : decode cX8_next 179 = .ok (.ldc2_w 109, 3) := by decide +kernel
theorem dX8_next_182 : decode cX8_next 182 = .ok (.ldc2_w 111, 3) := by decide +kernel
theorem dX8_next_185 : decode cX8_next 185 = .ok (.invokestatic 71, 3) := by decide +kernel
theorem dX8_next_188 : decode cX8_next 188 = .ok (.ifCond .eq 59, 3) := by decide +kernel
theorem dX8_next_191 : decode cX8_next 191 = .ok (.aload_n 0, 1) := by decide +kernel
theorem dX8_next_192 : decode cX8_next 192 = .ok (.aload_n 0, 1) := by decide +kernel
theorem dX8_next_193 : decode cX8_next 193 = .ok (.getfield 88, 3) := by decide +kernel
theorem dX8_next_196 : decode cX8_next 196 = .ok (.aload_n 0, 1) := by decide +kernel
theorem dX8_next_197 : decode cX8_next 197 = .ok (.getfield 78, 3) := by decide +kernel
theorem dX8_next_200 : decode cX8_next 200 = .ok (.isub, 1) := by decide +kernel
theorem dX8_next_201 : decode cX8_next 201 = .ok (.iconst 2, 1) := by decide +kernel
theorem dX8_next_202 : decode cX8_next 202 = .ok (.if_icmp .ge 25, 3) := by decide +kernel
theorem dX8_next_205 : decode cX8_next 205 = .ok (.bipush 10, 2) := by decide +kernel
theorem dX8_next_207 : decode cX8_next 207 = .ok (.aload_n 0, 1) := by decide +kernel
theorem dX8_next_208 : decode cX8_next 208 = .ok (.getfield 91, 3) := by decide +kernel
theorem dX8_next_211 : decode cX8_next 211 = .ok (.imul, 1) := by decide +kernel
theorem dX8_next_212 : decode cX8_next 212 = .ok (.aload_n 0, 1) := by decide +kernel
theorem dX8_next_213 : decode cX8_next 213 = .ok (.aload_n 0, 1) := by decide +kernel
theorem dX8_next_214 : decode cX8_next 214 = .ok (.getfield 88, 3) := by decide +kernel
theorem dX8_next_217 : decode cX8_next 217 = .ok (.invokevirtual 84, 3) := by decide +kernel
theorem dX8_next_220 : decode cX8_next 220 = .ok (.iadd, 1) := by decide +kernel
theorem dX8_next_221 : decode cX8_next 221 = .ok (.bipush 48, 2) := by decide +kernel
theorem dX8_next_223 : decode cX8_next 223 = .ok (.isub, 1) := by decide +kernel
theorem dX8_next_224 : decode cX8_next 224 = .ok (.goto 7, 3) := by decide +kernel
theorem dX8_next_227 : decode cX8_next 227 = .ok (.aload_n 0, 1) := by decide +kernel
theorem dX8_next_228 : decode cX8_next 228 = .ok (.getfield 91, 3) := by decide +kernel
theorem dX8_next_231 : decode cX8_next 231 = .ok (.putfield 91, 3) := by decide +kernel
theorem dX8_next_234 : decode cX8_next 234 = .ok (.aload_n 0, 1) := by decide +kernel
theorem dX8_next_235 : decode cX8_next 235 = .ok (.dup, 1) := by decide +kernel
theorem dX8_next_236 : decode cX8_next 236 = .ok (.getfield 88, 3) := by decide +kernel
theorem dX8_next_239 : decode cX8_next 239 = .ok (.iconst 1, 1) := by decide +kernel
theorem dX8_next_240 : decode cX8_next 240 = .ok (.iadd, 1) := by decide +kernel
theorem dX8_next_241 : decode cX8_next 241 = .ok (.putfield 88, 3) := by decide +kernel
theorem dX8_next_244 : decode cX8_next 244 = .ok (.goto (-74), 3) := by decide +kernel
theorem dX8_next_247 : decode cX8_next 247 = .ok (.aload_n 0, 1) := by decide +kernel
theorem dX8_next_248 : decode cX8_next 248 = .ok (.iconst 2, 1) := by decide +kernel
theorem dX8_next_249 : decode cX8_next 249 = .ok (.putfield 94, 3) := by decide +kernel
theorem dX8_next_252 : decode cX8_next 252 = .ok (.aload_n 0, 1) := by decide +kernel
theorem dX8_next_253 : decode cX8_next 253 = .ok (.getfield 88, 3) := by decide +kernel
theorem dX8_next_256 : decode cX8_next 256 = .ok (.aload_n 0, 1) := by decide +kernel
theorem dX8_next_257 : decode cX8_next 257 = .ok (.getfield 78, 3) := by decide +kernel
theorem dX8_next_260 : decode cX8_next 260 = .ok (.isub, 1) := by decide +kernel
theorem dX8_next_261 : decode cX8_next 261 = .ok (.iconst 2, 1) := by decide +kernel
theorem dX8_next_262 : decode cX8_next 262 = .ok (.if_icmp .le 37, 3) := by decide +kernel
theorem dX8_next_265 : decode cX8_next 265 = .ok (.aload_n 0, 1) := by decide +kernel
theorem dX8_next_266 : decode cX8_next 266 = .ok (.iconst 1, 1) := by decide +kernel
theorem dX8_next_267 : decode cX8_next 267 = .ok (.invokevirtual 105, 3) := by decide +kernel
theorem dX8_next_270 : decode cX8_next 270 = .ok (.goto 29, 3) := by decide +kernel
theorem dX8_next_273 : decode cX8_next 273 = .ok (.aload_n 0, 1) := by decide +kernel
theorem dX8_next_274 : decode cX8_next 274 = .ok (.iconst 3, 1) := by decide +kernel
theorem dX8_next_275 : decode cX8_next 275 = .ok (.putfield 94, 3) := by decide +kernel
theorem dX8_next_278 : decode cX8_next 278 = .ok (.aload_n 0, 1) := by decide +kernel
theorem dX8_next_279 : decode cX8_next 279 = .ok (.dup, 1) := by decide +kernel
theorem dX8_next_280 : decode cX8_next 280 = .ok (.getfield 88, 3) := by decide +kernel
theorem dX8_next_283 : decode cX8_next 283 = .ok (.iconst 1, 1) := by decide +kernel
theorem dX8_next_284 : decode cX8_next 284 = .ok (.iadd, 1) := by decide +kernel
theorem dX8_next_285 : decode cX8_next 285 = .ok (.putfield 88, 3) := by decide +kernel
theorem dX8_next_288 : decode cX8_next 288 = .ok (.iload_n 1, 1) := by decide +kernel
theorem dX8_next_289 : decode cX8_next 289 = .ok (.bipush 59, 2) := by decide +kernel
theorem dX8_next_291 : decode cX8_next 291 = .ok (.if_icmp .eq 8, 3) := by decide +kernel
theorem dX8_next_294 : decode cX8_next 294 = .ok (.aload_n 0, 1) := by decide +kernel
theorem dX8_next_295 : decode cX8_next 295 = .ok (.iconst 1, 1) := by decide +kernel
theorem dX8_next_296 : decode cX8_next 296 = .ok (.invokevirtual 105, 3) := by decide +kernel
theorem dX8_next_299 : decode cX8_next 299 = .ok (.return_, 1) := by decide +kernel
theorem dX8_number_0 : decode cX8_number 0 = .ok (.aload_n 0, 1) := by decide +kernel
theorem dX8_number_1 : decode cX8_number 1 = .ok (.getfield 75, 3) := by decide +kernel
theorem dX8_number_4 : decode cX8_number 4 = .ok (.ifCond .ne 16, 3) := by decide +kernel
theorem dX8_number_7 : decode cX8_number 7 = .ok (.aload_n 0, 1) := by decide +kernel
theorem dX8_number_8 : decode cX8_number 8 = .ok (.getfield 94, 3) := by decide +kernel
theorem dX8_number_11 : decode cX8_number 11 = .ok (.iconst 2, 1) := by decide +kernel
theorem dX8_number_12 : decode cX8_number 12 = .ok (.if_icmp .eq 8, 3) := by decide +kernel
theorem dX8_number_15 : decode cX8_number 15 = .ok (.aload_n 0, 1) := by decide +kernel
theorem dX8_number_16 : decode cX8_number 16 = .ok (.iconst 2, 1) := by decide +kernel
theorem dX8_number_17 : decode cX8_number 17 = .ok (.invokevirtual 105, 3) := by decide +kernel
theorem dX8_number_20 : decode cX8_number 20 = .ok (.aload_n 0, 1) := by decide +kernel
theorem dX8_number_21 : decode cX8_number 21 = .ok (.getfield 75, 3) := by decide +kernel
theorem dX8_number_24 : decode cX8_number 24 = .ok (.ifCond .ne 23, 3) := by decide +kernel
theorem dX8_number_27 : decode cX8_number 27 = .ok (.aload_n 0, 1) := by decide +kernel
theorem dX8_number_28 : decode cX8_number 28 = .ok (.getfield 91, 3) := by decide +kernel
theorem dX8_number_31 : decode cX8_number 31 = .ok (.i2l, 1) := by decide +kernel
theorem dX8_number_32 : decode cX8_number 32 = .ok (.iload_n 1, 1) := by decide +kernel
theorem dX8_number_33 : decode cX8_number 33 = .ok (.i2l, 1) := by decide +kernel
theorem dX8_number_34 : decode cX8_number 34 = .ok (.iload_n 2, 1) := by decide +kernel
theorem dX8_number_35 : decode cX8_number 35 = .ok (.i2l, 1) := by decide +kernel
theorem dX8_number_36 : decode cX8_number 36 = .ok (.invokestatic 71, 3) := by decide +kernel
theorem dX8_number_39 : decode cX8_number 39 = .ok (.ifCond .ne 8, 3) := by decide +kernel
theorem dX8_number_42 : decode cX8_number 42 = .ok (.aload_n 0, 1) := by decide +kernel
theorem dX8_number_43 : decode cX8_number 43 = .ok (.iconst 3, 1) := by decide +kernel
theorem dX8_number_44 : decode cX8_number 44 = .ok (.invokevirtual 105, 3) := by decide +kernel
theorem dX8_number_47 : decode cX8_number 47 = .ok (.aload_n 0, 1) := by decide +kernel
theorem dX8_number_48 : decode cX8_number 48 = .ok (.getfield 75, 3) := by decide +kernel
theorem dX8_number_51 : decode cX8_number 51 = .ok (.ifCond .ne 10, 3) := by decide +kernel
theorem dX8_number_54 : decode cX8_number 54 = .ok (.aload_n 0, 1) := by decide +kernel
theorem dX8_number_55 : decode cX8_number 55 = .ok (.getfield 91, 3) := by decide +kernel
theorem dX8_number_58 : decode cX8_number 58 = .ok (.goto 4, 3) := by decide +kernel
theorem dX8_number_61 : decode cX8_number 61 = .ok (.iload_n 1, 1) := by decide +kernel
theorem dX8_number_62 : decode cX8_number 62 = .ok (.ireturn, 1) := by decide +kernel
theorem dX8_told_0 : decode cX8_told 0 = .ok (.aload_n 0, 1) := by decide +kernel
theorem dX8_told_1 : decode cX8_told 1 = .ok (.getfield 75, 3) := by decide +kernel
theorem dX8_told_4 : decode cX8_told 4 = .ok (.ifCond .ne 20, 3) := by decide +kernel
theorem dX8_told_7 : decode cX8_told 7 = .ok (.aload_n 0, 1) := by decide +kernel
theorem dX8_told_8 : decode cX8_told 8 = .ok (.getfield 113, 3) := by decide +kernel
theorem dX8_told_11 : decode cX8_told 11 = .ok (.iload_n 1, 1) := by decide +kernel
theorem dX8_told_12 : decode cX8_told 12 = .ok (.ishr, 1) := by decide +kernel
theorem dX8_told_13 : decode cX8_told 13 = .ok (.iconst 1, 1) := by decide +kernel
theorem dX8_told_14 : decode cX8_told 14 = .ok (.iand, 1) := by decide +kernel
theorem dX8_told_15 : decode cX8_told 15 = .ok (.iconst 1, 1) := by decide +kernel
theorem dX8_told_16 : decode cX8_told 16 = .ok (.if_icmp .ne 8, 3) := by decide +kernel
theorem dX8_told_19 : decode cX8_told 19 = .ok (.aload_n 0, 1) := by decide +kernel
theorem dX8_told_20 : decode cX8_told 20 = .ok (.iconst 4, 1) := by decide +kernel
theorem dX8_told_21 : decode cX8_told 21 = .ok (.invokevirtual 105, 3) := by decide +kernel
theorem dX8_told_24 : decode cX8_told 24 = .ok (.aload_n 0, 1) := by decide +kernel
theorem dX8_told_25 : decode cX8_told 25 = .ok (.dup, 1) := by decide +kernel
theorem dX8_told_26 : decode cX8_told 26 = .ok (.getfield 113, 3) := by decide +kernel
theorem dX8_told_29 : decode cX8_told 29 = .ok (.aload_n 0, 1) := by decide +kernel
theorem dX8_told_30 : decode cX8_told 30 = .ok (.getfield 75, 3) := by decide +kernel
theorem dX8_told_33 : decode cX8_told 33 = .ok (.ifCond .ne 9, 3) := by decide +kernel
theorem dX8_told_36 : decode cX8_told 36 = .ok (.iconst 1, 1) := by decide +kernel
theorem dX8_told_37 : decode cX8_told 37 = .ok (.iload_n 1, 1) := by decide +kernel
theorem dX8_told_38 : decode cX8_told 38 = .ok (.ishl, 1) := by decide +kernel
theorem dX8_told_39 : decode cX8_told 39 = .ok (.goto 4, 3) := by decide +kernel
theorem dX8_told_42 : decode cX8_told 42 = .ok (.iconst 0, 1) := by decide +kernel
theorem dX8_told_43 : decode cX8_told 43 = .ok (.ior, 1) := by decide +kernel
theorem dX8_told_44 : decode cX8_told 44 = .ok (.putfield 113, 3) := by decide +kernel
theorem dX8_told_47 : decode cX8_told 47 = .ok (.return_, 1) := by decide +kernel
theorem dX8_readLine_0 : decode cX8_readLine 0 = .ok (.aload_n 0, 1) := by decide +kernel
theorem dX8_readLine_1 : decode cX8_readLine 1 = .ok (.getfield 91, 3) := by decide +kernel
theorem dX8_readLine_4 : decode cX8_readLine 4 = .ok (.istore_n 1, 1) := by decide +kernel
theorem dX8_readLine_5 : decode cX8_readLine 5 = .ok (.aload_n 0, 1) := by decide +kernel
theorem dX8_readLine_6 : decode cX8_readLine 6 = .ok (.getfield 94, 3) := by decide +kernel
theorem dX8_readLine_9 : decode cX8_readLine 9 = .ok (.iconst 1, 1) := by decide +kernel
theorem dX8_readLine_10 : decode cX8_readLine 10 = .ok (.if_icmp .eq 9, 3) := by decide +kernel
theorem dX8_readLine_13 : decode cX8_readLine 13 = .ok (.aload_n 0, 1) := by decide +kernel
theorem dX8_readLine_14 : decode cX8_readLine 14 = .ok (.iconst 2, 1) := by decide +kernel
theorem dX8_readLine_15 : decode cX8_readLine 15 = .ok (.invokevirtual 105, 3) := by decide +kernel
theorem dX8_readLine_18 : decode cX8_readLine 18 = .ok (.return_, 1) := by decide +kernel
theorem dX8_readLine_19 : decode cX8_readLine 19 = .ok (.iload_n 1, 1) := by decide +kernel
theorem dX8_readLine_20 : decode cX8_readLine 20 = .ok (.iconst 2, 1) := by decide +kernel
theorem dX8_readLine_21 : decode cX8_readLine 21 = .ok (.if_icmp .ge 9, 3) := by decide +kernel
theorem dX8_readLine_24 : decode cX8_readLine 24 = .ok (.iconst 4, 1) := by decide +kernel
theorem dX8_readLine_25 : decode cX8_readLine 25 = .ok (.iload_n 1, 1) := by decide +kernel
theorem dX8_readLine_26 : decode cX8_readLine 26 = .ok (.imul, 1) := by decide +kernel
theorem dX8_readLine_27 : decode cX8_readLine 27 = .ok (.goto 6, 3) := by decide +kernel
theorem dX8_readLine_30 : decode cX8_readLine 30 = .ok (.iload_n 1, 1) := by decide +kernel
theorem dX8_readLine_31 : decode cX8_readLine 31 = .ok (.iconst 5, 1) := by decide +kernel
theorem dX8_readLine_32 : decode cX8_readLine 32 = .ok (.iadd, 1) := by decide +kernel
theorem dX8_readLine_33 : decode cX8_readLine 33 = .ok (.istore_n 2, 1) := by decide +kernel
theorem dX8_readLine_34 : decode cX8_readLine 34 = .ok (.iload_n 1, 1) := by decide +kernel
theorem dX8_readLine_35 : decode cX8_readLine 35 = .ok (.iconst 1, 1) := by decide +kernel
theorem dX8_readLine_36 : decode cX8_readLine 36 = .ok (.if_icmp .le 8, 3) := by decide +kernel
theorem dX8_readLine_39 : decode cX8_readLine 39 = .ok (.aload_n 0, 1) := by decide +kernel
theorem dX8_readLine_40 : decode cX8_readLine 40 = .ok (.iload_n 2, 1) := by decide +kernel
theorem dX8_readLine_41 : decode cX8_readLine 41 = .ok (.invokevirtual 116, 3) := by decide +kernel
theorem dX8_readLine_44 : decode cX8_readLine 44 = .ok (.aload_n 0, 1) := by decide +kernel
theorem dX8_readLine_45 : decode cX8_readLine 45 = .ok (.invokevirtual 119, 3) := by decide +kernel
theorem dX8_readLine_48 : decode cX8_readLine 48 = .ok (.iload_n 1, 1) := by decide +kernel
theorem dX8_readLine_49 : decode cX8_readLine 49 = .ok (.iconst 2, 1) := by decide +kernel
theorem dX8_readLine_50 : decode cX8_readLine 50 = .ok (.if_icmp .ge 29, 3) := by decide +kernel
theorem dX8_readLine_53 : decode cX8_readLine 53 = .ok (.iload_n 2, 1) := by decide +kernel
theorem dX8_readLine_54 : decode cX8_readLine 54 = .ok (.aload_n 0, 1) := by decide +kernel
theorem dX8_readLine_55 : decode cX8_readLine 55 = .ok (.iconst 0, 1) := by decide +kernel
theorem dX8_readLine_56 : decode cX8_readLine 56 = .ok (.iload_n 1, 1) := by decide +kernel
theorem dX8_readLine_57 : decode cX8_readLine 57 = .ok (.ifCond .ne 7, 3) := by decide +kernel
theorem dX8_readLine_60 : decode cX8_readLine 60 = .ok (.iconst 3, 1) := by decide +kernel
theorem dX8_readLine_61 : decode cX8_readLine 61 = .ok (.goto 4, 3) := by decide +kernel
theorem dX8_readLine_64 : decode cX8_readLine 64 = .ok (.iconst 2, 1) := by decide +kernel
theorem dX8_readLine_65 : decode cX8_readLine 65 = .ok (.invokevirtual 122, 3) := by decide +kernel
theorem dX8_readLine_68 : decode cX8_readLine 68 = .ok (.iadd, 1) := by decide +kernel
theorem dX8_readLine_69 : decode cX8_readLine 69 = .ok (.istore_n 2, 1) := by decide +kernel
theorem dX8_readLine_70 : decode cX8_readLine 70 = .ok (.aload_n 0, 1) := by decide +kernel
theorem dX8_readLine_71 : decode cX8_readLine 71 = .ok (.iload_n 2, 1) := by decide +kernel
theorem dX8_readLine_72 : decode cX8_readLine 72 = .ok (.invokevirtual 116, 3) := by decide +kernel
theorem dX8_readLine_75 : decode cX8_readLine 75 = .ok (.aload_n 0, 1) := by decide +kernel
theorem dX8_readLine_76 : decode cX8_readLine 76 = .ok (.invokevirtual 119, 3) := by decide +kernel
theorem dX8_readLine_79 : decode cX8_readLine 79 = .ok (.aload_n 0, 1) := by decide +kernel
theorem dX8_readLine_80 : decode cX8_readLine 80 = .ok (.getfield 31, 3) := by decide +kernel
theorem dX8_readLine_83 : decode cX8_readLine 83 = .ok (.iload_n 2, 1) := by decide +kernel
theorem dX8_readLine_84 : decode cX8_readLine 84 = .ok (.aload_n 0, 1) := by decide +kernel
theorem dX8_readLine_85 : decode cX8_readLine 85 = .ok (.aload_n 0, 1) := by decide +kernel
theorem dX8_readLine_86 : decode cX8_readLine 86 = .ok (.getfield 22, 3) := by decide +kernel
theorem dX8_readLine_89 : decode cX8_readLine 89 = .ok (.iload_n 2, 1) := by decide +kernel
theorem dX8_readLine_90 : decode cX8_readLine 90 = .ok (.iaload, 1) := by decide +kernel
theorem dX8_readLine_91 : decode cX8_readLine 91 = .ok (.aload_n 0, 1) := by decide +kernel
theorem dX8_readLine_92 : decode cX8_readLine 92 = .ok (.getfield 25, 3) := by decide +kernel
theorem dX8_readLine_95 : decode cX8_readLine 95 = .ok (.iload_n 2, 1) := by decide +kernel
theorem dX8_readLine_96 : decode cX8_readLine 96 = .ok (.iaload, 1) := by decide +kernel
theorem dX8_readLine_97 : decode cX8_readLine 97 = .ok (.invokevirtual 122, 3) := by decide +kernel
theorem dX8_readLine_100 : decode cX8_readLine 100 = .ok (.iastore, 1) := by decide +kernel
theorem dX8_readLine_101 : decode cX8_readLine 101 = .ok (.aload_n 0, 1) := by decide +kernel
theorem dX8_readLine_102 : decode cX8_readLine 102 = .ok (.invokevirtual 119, 3) := by decide +kernel
theorem dX8_readLine_105 : decode cX8_readLine 105 = .ok (.aload_n 0, 1) := by decide +kernel
theorem dX8_readLine_106 : decode cX8_readLine 106 = .ok (.getfield 75, 3) := by decide +kernel
theorem dX8_readLine_109 : decode cX8_readLine 109 = .ok (.ifCond .ne 16, 3) := by decide +kernel
theorem dX8_readLine_112 : decode cX8_readLine 112 = .ok (.aload_n 0, 1) := by decide +kernel
theorem dX8_readLine_113 : decode cX8_readLine 113 = .ok (.getfield 94, 3) := by decide +kernel
theorem dX8_readLine_116 : decode cX8_readLine 116 = .ok (.iconst 3, 1) := by decide +kernel
theorem dX8_readLine_117 : decode cX8_readLine 117 = .ok (.if_icmp .eq 8, 3) := by decide +kernel
theorem dX8_readLine_120 : decode cX8_readLine 120 = .ok (.aload_n 0, 1) := by decide +kernel
theorem dX8_readLine_121 : decode cX8_readLine 121 = .ok (.iconst 2, 1) := by decide +kernel
theorem dX8_readLine_122 : decode cX8_readLine 122 = .ok (.invokevirtual 105, 3) := by decide +kernel
theorem dX8_readLine_125 : decode cX8_readLine 125 = .ok (.aload_n 0, 1) := by decide +kernel
theorem dX8_readLine_126 : decode cX8_readLine 126 = .ok (.invokevirtual 119, 3) := by decide +kernel
theorem dX8_readLine_129 : decode cX8_readLine 129 = .ok (.return_, 1) := by decide +kernel
theorem dX8_text_0 : decode cX8_text 0 = .ok (.aload_n 0, 1) := by decide +kernel
theorem dX8_text_1 : decode cX8_text 1 = .ok (.iconst 0, 1) := by decide +kernel
theorem dX8_text_2 : decode cX8_text 2 = .ok (.putfield 75, 3) := by decide +kernel
theorem dX8_text_5 : decode cX8_text 5 = .ok (.aload_n 0, 1) := by decide +kernel
theorem dX8_text_6 : decode cX8_text 6 = .ok (.iconst 0, 1) := by decide +kernel
theorem dX8_text_7 : decode cX8_text 7 = .ok (.putfield 88, 3) := by decide +kernel
theorem dX8_text_10 : decode cX8_text 10 = .ok (.aload_n 0, 1) := by decide +kernel
theorem dX8_text_11 : decode cX8_text 11 = .ok (.iconst 0, 1) := by decide +kernel
theorem dX8_text_12 : decode cX8_text 12 = .ok (.putfield 113, 3) := by decide +kernel
theorem dX8_text_15 : decode cX8_text 15 = .ok (.iconst 0, 1) := by decide +kernel
theorem dX8_text_16 : decode cX8_text 16 = .ok (.istore_n 1, 1) := by decide +kernel
theorem dX8_text_17 : decode cX8_text 17 = .ok (.iconst 0, 1) := by decide +kernel
theorem dX8_text_18 : decode cX8_text 18 = .ok (.istore_n 2, 1) := by decide +kernel
theorem dX8_text_19 : decode cX8_text 19 = .ok (.iload_n 2, 1) := by decide +kernel
theorem dX8_text_20 : decode cX8_text 20 = .ok (.bipush 18, 2) := by decide +kernel
theorem dX8_text_22 : decode cX8_text 22 = .ok (.if_icmp .ge 21, 3) := by decide +kernel
theorem dX8_text_25 : decode cX8_text 25 = .ok (.aload_n 0, 1) := by decide +kernel
theorem dX8_text_26 : decode cX8_text 26 = .ok (.getfield 31, 3) := by decide +kernel
theorem dX8_text_29 : decode cX8_text 29 = .ok (.iload_n 2, 1) := by decide +kernel
theorem dX8_text_30 : decode cX8_text 30 = .ok (.aload_n 0, 1) := by decide +kernel
theorem dX8_text_31 : decode cX8_text 31 = .ok (.getfield 19, 3) := by decide +kernel
theorem dX8_text_34 : decode cX8_text 34 = .ok (.iload_n 2, 1) := by decide +kernel
theorem dX8_text_35 : decode cX8_text 35 = .ok (.iaload, 1) := by decide +kernel
theorem dX8_text_36 : decode cX8_text 36 = .ok (.iastore, 1) := by decide +kernel
theorem dX8_text_37 : decode cX8_text 37 = .ok (.iinc 2 1, 3) := by decide +kernel
theorem dX8_text_40 : decode cX8_text 40 = .ok (.goto (-21), 3) := by decide +kernel
theorem dX8_text_43 : decode cX8_text 43 = .ok (.aload_n 0, 1) := by decide +kernel
theorem dX8_text_44 : decode cX8_text 44 = .ok (.invokevirtual 119, 3) := by decide +kernel
theorem dX8_text_47 : decode cX8_text 47 = .ok (.aload_n 0, 1) := by decide +kernel
theorem dX8_text_48 : decode cX8_text 48 = .ok (.getfield 75, 3) := by decide +kernel
theorem dX8_text_51 : decode cX8_text 51 = .ok (.ifCond .ne 20, 3) := by decide +kernel
theorem dX8_text_54 : decode cX8_text 54 = .ok (.aload_n 0, 1) := by decide +kernel
theorem dX8_text_55 : decode cX8_text 55 = .ok (.getfield 94, 3) := by decide +kernel
theorem dX8_text_58 : decode cX8_text 58 = .ok (.ifCond .eq 13, 3) := by decide +kernel
theorem dX8_text_61 : decode cX8_text 61 = .ok (.aload_n 0, 1) := by decide +kernel
theorem dX8_text_62 : decode cX8_text 62 = .ok (.invokevirtual 125, 3) := by decide +kernel
theorem dX8_text_65 : decode cX8_text 65 = .ok (.iinc 1 1, 3) := by decide +kernel
theorem dX8_text_68 : decode cX8_text 68 = .ok (.goto (-21), 3) := by decide +kernel
theorem dX8_text_71 : decode cX8_text 71 = .ok (.aload_n 0, 1) := by decide +kernel
theorem dX8_text_72 : decode cX8_text 72 = .ok (.iconst 0, 1) := by decide +kernel
theorem dX8_text_73 : decode cX8_text 73 = .ok (.putfield 67, 3) := by decide +kernel
theorem dX8_text_76 : decode cX8_text 76 = .ok (.aload_n 0, 1) := by decide +kernel
theorem dX8_text_77 : decode cX8_text 77 = .ok (.aload_n 0, 1) := by decide +kernel
theorem dX8_text_78 : decode cX8_text 78 = .ok (.getfield 75, 3) := by decide +kernel
theorem dX8_text_81 : decode cX8_text 81 = .ok (.putfield 128, 3) := by decide +kernel
theorem dX8_text_84 : decode cX8_text 84 = .ok (.aload_n 0, 1) := by decide +kernel
theorem dX8_text_85 : decode cX8_text 85 = .ok (.getfield 75, 3) := by decide +kernel
theorem dX8_text_88 : decode cX8_text 88 = .ok (.ifCond .le 11, 3) := by decide +kernel
theorem dX8_text_91 : decode cX8_text 91 = .ok (.bipush (-10), 2) := by decide +kernel
theorem dX8_text_93 : decode cX8_text 93 = .ok (.aload_n 0, 1) := by decide +kernel
theorem dX8_text_94 : decode cX8_text 94 = .ok (.getfield 81, 3) := by decide +kernel
theorem dX8_text_97 : decode cX8_text 97 = .ok (.isub, 1) := by decide +kernel
theorem dX8_text_98 : decode cX8_text 98 = .ok (.ireturn, 1) := by decide +kernel
theorem dX8_text_99 : decode cX8_text 99 = .ok (.iconst 0, 1) := by decide +kernel
theorem dX8_text_100 : decode cX8_text 100 = .ok (.istore_n 2, 1) := by decide +kernel
theorem dX8_text_101 : decode cX8_text 101 = .ok (.iload_n 2, 1) := by decide +kernel
theorem dX8_text_102 : decode cX8_text 102 = .ok (.bipush 18, 2) := by decide +kernel
theorem dX8_text_104 : decode cX8_text 104 = .ok (.if_icmp .ge 21, 3) := by decide +kernel
theorem dX8_text_107 : decode cX8_text 107 = .ok (.aload_n 0, 1) := by decide +kernel
theorem dX8_text_108 : decode cX8_text 108 = .ok (.getfield 28, 3) := by decide +kernel
theorem dX8_text_111 : decode cX8_text 111 = .ok (.iload_n 2, 1) := by decide +kernel
theorem dX8_text_112 : decode cX8_text 112 = .ok (.aload_n 0, 1) := by decide +kernel
theorem dX8_text_113 : decode cX8_text 113 = .ok (.getfield 31, 3) := by decide +kernel
theorem dX8_text_116 : decode cX8_text 116 = .ok (.iload_n 2, 1) := by decide +kernel
theorem dX8_text_117 : decode cX8_text 117 = .ok (.iaload, 1) := by decide +kernel
theorem dX8_text_118 : decode cX8_text 118 = .ok (.iastore, 1) := by decide +kernel
theorem dX8_text_119 : decode cX8_text 119 = .ok (.iinc 2 1, 3) := by decide +kernel
theorem dX8_text_122 : decode cX8_text 122 = .ok (.goto (-21), 3) := by decide +kernel
theorem dX8_text_125 : decode cX8_text 125 = .ok (.iload_n 1, 1) := by decide +kernel
theorem dX8_text_126 : decode cX8_text 126 = .ok (.ireturn, 1) := by decide +kernel
theorem dX8_fault_0 : decode cX8_fault 0 = .ok (.aload_n 0, 1) := by decide +kernel
theorem dX8_fault_1 : decode cX8_fault 1 = .ok (.getfield 128, 3) := by decide +kernel
theorem dX8_fault_4 : decode cX8_fault 4 = .ok (.ireturn, 1) := by decide +kernel
theorem dX8_rule_0 : decode cX8_rule 0 = .ok (.iload_n 1, 1) := by decide +kernel
theorem dX8_rule_1 : decode cX8_rule 1 = .ok (.i2l, 1) := by decide +kernel
theorem dX8_rule_2 : decode cX8_rule 2 = .ok (.lconst 0, 1) := by decide +kernel
theorem dX8_rule_3 : decode cX8_rule 3 = .ok (.ldc2_w 131, 3) := by decide +kernel
theorem dX8_rule_6 : decode cX8_rule 6 = .ok (.invokestatic 71, 3) := by decide +kernel
theorem dX8_rule_9 : decode cX8_rule 9 = .ok (.ifCond .eq 12, 3) := by decide +kernel
theorem dX8_rule_12 : decode cX8_rule 12 = .ok (.aload_n 0, 1) := by decide +kernel
theorem dX8_rule_13 : decode cX8_rule 13 = .ok (.getfield 28, 3) := by decide +kernel
theorem dX8_rule_16 : decode cX8_rule 16 = .ok (.iload_n 1, 1) := by decide +kernel
theorem dX8_rule_17 : decode cX8_rule 17 = .ok (.iaload, 1) := by decide +kernel
theorem dX8_rule_18 : decode cX8_rule 18 = .ok (.goto 4, 3) := by decide +kernel
theorem dX8_rule_21 : decode cX8_rule 21 = .ok (.iconst (-1), 1) := by decide +kernel
theorem dX8_rule_22 : decode cX8_rule 22 = .ok (.ireturn, 1) := by decide +kernel
theorem dX8_isNumber_0 : decode cX8_isNumber 0 = .ok (.iload_n 0, 1) := by decide +kernel
theorem dX8_isNumber_1 : decode cX8_isNumber 1 = .ok (.i2l, 1) := by decide +kernel
theorem dX8_isNumber_2 : decode cX8_isNumber 2 = .ok (.lconst 0, 1) := by decide +kernel
theorem dX8_isNumber_3 : decode cX8_isNumber 3 = .ok (.ldc2_w 133, 3) := by decide +kernel
theorem dX8_isNumber_6 : decode cX8_isNumber 6 = .ok (.invokestatic 71, 3) := by decide +kernel
theorem dX8_isNumber_9 : decode cX8_isNumber 9 = .ok (.ireturn, 1) := by decide +kernel
theorem dX8_isWay_0 : decode cX8_isWay 0 = .ok (.iload_n 1, 1) := by decide +kernel
theorem dX8_isWay_1 : decode cX8_isWay 1 = .ok (.invokestatic 135, 3) := by decide +kernel
theorem dX8_isWay_4 : decode cX8_isWay 4 = .ok (.ifCond .eq 16, 3) := by decide +kernel
theorem dX8_isWay_7 : decode cX8_isWay 7 = .ok (.aload_n 0, 1) := by decide +kernel
theorem dX8_isWay_8 : decode cX8_isWay 8 = .ok (.getfield 37, 3) := by decide +kernel
theorem dX8_isWay_11 : decode cX8_isWay 11 = .ok (.iload_n 1, 1) := by decide +kernel
theorem dX8_isWay_12 : decode cX8_isWay 12 = .ok (.iaload, 1) := by decide +kernel
theorem dX8_isWay_13 : decode cX8_isWay 13 = .ok (.ifCond .le 7, 3) := by decide +kernel
theorem dX8_isWay_16 : decode cX8_isWay 16 = .ok (.iconst 1, 1) := by decide +kernel
theorem dX8_isWay_17 : decode cX8_isWay 17 = .ok (.goto 4, 3) := by decide +kernel
theorem dX8_isWay_20 : decode cX8_isWay 20 = .ok (.iconst 0, 1) := by decide +kernel
theorem dX8_isWay_21 : decode cX8_isWay 21 = .ok (.ireturn, 1) := by decide +kernel
theorem dX8_isTenth_0 : decode cX8_isTenth 0 = .ok (.aload_n 0, 1) := by decide +kernel
theorem dX8_isTenth_1 : decode cX8_isTenth 1 = .ok (.iload_n 1, 1) := by decide +kernel
theorem dX8_isTenth_2 : decode cX8_isTenth 2 = .ok (.invokevirtual 139, 3) := by decide +kernel
theorem dX8_isTenth_5 : decode cX8_isTenth 5 = .ok (.ifCond .eq 25, 3) := by decide +kernel
theorem dX8_isTenth_8 : decode cX8_isTenth 8 = .ok (.iload_n 2, 1) := by decide +kernel
theorem dX8_isTenth_9 : decode cX8_isTenth 9 = .ok (.i2l, 1) := by decide +kernel
theorem dX8_isTenth_10 : decode cX8_isTenth 10 = .ok (.lconst 0, 1) := by decide +kernel
theorem dX8_isTenth_11 : decode cX8_isTenth 11 = .ok (.aload_n 0, 1) := by decide +kernel
theorem dX8_isTenth_12 : decode cX8_isTenth 12 = .ok (.getfield 37, 3) := by decide +kernel
theorem dX8_isTenth_15 : decode cX8_isTenth 15 = .ok (.iload_n 1, 1) := by decide +kernel
theorem dX8_isTenth_16 : decode cX8_isTenth 16 = .ok (.iaload, 1) := by decide +kernel
theorem dX8_isTenth_17 : decode cX8_isTenth 17 = .ok (.iconst 1, 1) := by decide +kernel
theorem dX8_isTenth_18 : decode cX8_isTenth 18 = .ok (.isub, 1) := by decide +kernel
theorem dX8_isTenth_19 : decode cX8_isTenth 19 = .ok (.i2l, 1) := by decide +kernel
theorem dX8_isTenth_20 : decode cX8_isTenth 20 = .ok (.invokestatic 71, 3) := by decide +kernel
theorem dX8_isTenth_23 : decode cX8_isTenth 23 = .ok (.ifCond .eq 7, 3) := by decide +kernel
theorem dX8_isTenth_26 : decode cX8_isTenth 26 = .ok (.iconst 1, 1) := by decide +kernel
theorem dX8_isTenth_27 : decode cX8_isTenth 27 = .ok (.goto 4, 3) := by decide +kernel
theorem dX8_isTenth_30 : decode cX8_isTenth 30 = .ok (.iconst 0, 1) := by decide +kernel
theorem dX8_isTenth_31 : decode cX8_isTenth 31 = .ok (.ireturn, 1) := by decide +kernel
theorem dX8_isPart_0 : decode cX8_isPart 0 = .ok (.iload_n 0, 1) := by decide +kernel
theorem dX8_isPart_1 : decode cX8_isPart 1 = .ok (.i2l, 1) := by decide +kernel
theorem dX8_isPart_2 : decode cX8_isPart 2 = .ok (.lconst 0, 1) := by decide +kernel
theorem dX8_isPart_3 : decode cX8_isPart 3 = .ok (.ldc2_w 142, 3) := by decide +kernel
theorem dX8_isPart_6 : decode cX8_isPart 6 = .ok (.invokestatic 71, 3) := by decide +kernel
theorem dX8_isPart_9 : decode cX8_isPart 9 = .ok (.ireturn, 1) := by decide +kernel
theorem dX8_clear_0 : decode cX8_clear 0 = .ok (.iconst 0, 1) := by decide +kernel
theorem dX8_clear_1 : decode cX8_clear 1 = .ok (.istore_n 2, 1) := by decide +kernel
theorem dX8_clear_2 : decode cX8_clear 2 = .ok (.iload_n 2, 1) := by decide +kernel
theorem dX8_clear_3 : decode cX8_clear 3 = .ok (.bipush 64, 2) := by decide +kernel
theorem dX8_clear_5 : decode cX8_clear 5 = .ok (.if_icmp .ge 21, 3) := by decide +kernel
theorem dX8_clear_8 : decode cX8_clear 8 = .ok (.aload_n 0, 1) := by decide +kernel
theorem dX8_clear_9 : decode cX8_clear 9 = .ok (.getfield 34, 3) := by decide +kernel
theorem dX8_clear_12 : decode cX8_clear 12 = .ok (.bipush 64, 2) := by decide +kernel
theorem dX8_clear_14 : decode cX8_clear 14 = .ok (.iload_n 1, 1) := by decide +kernel
theorem dX8_clear_15 : decode cX8_clear 15 = .ok (.imul, 1) := by decide +kernel
theorem dX8_clear_16 : decode cX8_clear 16 = .ok (.iload_n 2, 1) := by decide +kernel
theorem dX8_clear_17 : decode cX8_clear 17 = .ok (.iadd, 1) := by decide +kernel
theorem dX8_clear_18 : decode cX8_clear 18 = .ok (.iconst 0, 1) := by decide +kernel
theorem dX8_clear_19 : decode cX8_clear 19 = .ok (.iastore, 1) := by decide +kernel
theorem dX8_clear_20 : decode cX8_clear 20 = .ok (.iinc 2 1, 3) := by decide +kernel
theorem dX8_clear_23 : decode cX8_clear 23 = .ok (.goto (-21), 3) := by decide +kernel
theorem dX8_clear_26 : decode cX8_clear 26 = .ok (.return_, 1) := by decide +kernel
theorem dX8_way_0 : decode cX8_way 0 = .ok (.iload_n 1, 1) := by decide +kernel
theorem dX8_way_1 : decode cX8_way 1 = .ok (.invokestatic 135, 3) := by decide +kernel
theorem dX8_way_4 : decode cX8_way 4 = .ok (.ifCond .eq 29, 3) := by decide +kernel
theorem dX8_way_7 : decode cX8_way 7 = .ok (.iload_n 2, 1) := by decide +kernel
theorem dX8_way_8 : decode cX8_way 8 = .ok (.i2l, 1) := by decide +kernel
theorem dX8_way_9 : decode cX8_way 9 = .ok (.ldc2_w 144, 3) := by decide +kernel
theorem dX8_way_12 : decode cX8_way 12 = .ok (.ldc2_w 146, 3) := by decide +kernel
theorem dX8_way_15 : decode cX8_way 15 = .ok (.invokestatic 71, 3) := by decide +kernel
theorem dX8_way_18 : decode cX8_way 18 = .ok (.ifCond .eq 15, 3) := by decide +kernel
theorem dX8_way_21 : decode cX8_way 21 = .ok (.iload_n 3, 1) := by decide +kernel
theorem dX8_way_22 : decode cX8_way 22 = .ok (.i2l, 1) := by decide +kernel
theorem dX8_way_23 : decode cX8_way 23 = .ok (.lconst 1, 1) := by decide +kernel
theorem dX8_way_24 : decode cX8_way 24 = .ok (.ldc2_w 144, 3) := by decide +kernel
theorem dX8_way_27 : decode cX8_way 27 = .ok (.invokestatic 71, 3) := by decide +kernel
theorem dX8_way_30 : decode cX8_way 30 = .ok (.ifCond .ne 5, 3) := by decide +kernel
theorem dX8_way_33 : decode cX8_way 33 = .ok (.iconst (-1), 1) := by decide +kernel
theorem dX8_way_34 : decode cX8_way 34 = .ok (.ireturn, 1) := by decide +kernel
theorem dX8_way_35 : decode cX8_way 35 = .ok (.aload_n 0, 1) := by decide +kernel
theorem dX8_way_36 : decode cX8_way 36 = .ok (.getfield 37, 3) := by decide +kernel
theorem dX8_way_39 : decode cX8_way 39 = .ok (.iload_n 1, 1) := by decide +kernel
theorem dX8_way_40 : decode cX8_way 40 = .ok (.iaload, 1) := by decide +kernel
theorem dX8_way_41 : decode cX8_way 41 = .ok (.istore 4, 2) := by decide +kernel
theorem dX8_way_43 : decode cX8_way 43 = .ok (.aload_n 0, 1) := by decide +kernel
theorem dX8_way_44 : decode cX8_way 44 = .ok (.iload_n 1, 1) := by decide +kernel
theorem dX8_way_45 : decode cX8_way 45 = .ok (.invokevirtual 148, 3) := by decide +kernel
theorem dX8_way_48 : decode cX8_way 48 = .ok (.aload_n 0, 1) := by decide +kernel
theorem dX8_way_49 : decode cX8_way 49 = .ok (.getfield 37, 3) := by decide +kernel
theorem dX8_way_52 : decode cX8_way 52 = .ok (.iload_n 1, 1) := by decide +kernel
theorem dX8_way_53 : decode cX8_way 53 = .ok (.iload_n 2, 1) := by decide +kernel
theorem dX8_way_54 : decode cX8_way 54 = .ok (.iastore, 1) := by decide +kernel
theorem dX8_way_55 : decode cX8_way 55 = .ok (.aload_n 0, 1) := by decide +kernel
theorem dX8_way_56 : decode cX8_way 56 = .ok (.getfield 40, 3) := by decide +kernel
theorem dX8_way_59 : decode cX8_way 59 = .ok (.iload_n 1, 1) := by decide +kernel
theorem dX8_way_60 : decode cX8_way 60 = .ok (.iload_n 3, 1) := by decide +kernel
theorem dX8_way_61 : decode cX8_way 61 = .ok (.iastore, 1) := by decide +kernel
theorem dX8_way_62 : decode cX8_way 62 = .ok (.iload 4, 2) := by decide +kernel
theorem dX8_way_64 : decode cX8_way 64 = .ok (.ireturn, 1) := by decide +kernel
theorem dX8_put_0 : decode cX8_put 0 = .ok (.aload_n 0, 1) := by decide +kernel
theorem dX8_put_1 : decode cX8_put 1 = .ok (.iload_n 1, 1) := by decide +kernel
theorem dX8_put_2 : decode cX8_put 2 = .ok (.iload_n 2, 1) := by decide +kernel
theorem dX8_put_3 : decode cX8_put 3 = .ok (.invokevirtual 151, 3) := by decide +kernel
theorem dX8_put_6 : decode cX8_put 6 = .ok (.ifCond .eq 40, 3) := by decide +kernel
theorem dX8_put_9 : decode cX8_put 9 = .ok (.iload_n 3, 1) := by decide +kernel
theorem dX8_put_10 : decode cX8_put 10 = .ok (.invokestatic 155, 3) := by decide +kernel
theorem dX8_put_13 : decode cX8_put 13 = .ok (.ifCond .eq 33, 3) := by decide +kernel
theorem dX8_put_16 : decode cX8_put 16 = .ok (.iload 4, 2) := by decide +kernel
theorem dX8_put_18 : decode cX8_put 18 = .ok (.i2l, 1) := by decide +kernel
theorem dX8_put_19 : decode cX8_put 19 = .ok (.ldc2_w 158, 3) := by decide +kernel
theorem dX8_put_22 : decode cX8_put 22 = .ok (.ldc2_w 160, 3) := by decide +kernel
theorem dX8_put_25 : decode cX8_put 25 = .ok (.invokestatic 71, 3) := by decide +kernel
theorem dX8_put_28 : decode cX8_put 28 = .ok (.ifCond .eq 18, 3) := by decide +kernel
theorem dX8_put_31 : decode cX8_put 31 = .ok (.iload 5, 2) := by decide +kernel
theorem dX8_put_33 : decode cX8_put 33 = .ok (.i2l, 1) := by decide +kernel
theorem dX8_put_34 : decode cX8_put 34 = .ok (.ldc2_w 158, 3) := by decide +kernel
theorem dX8_put_37 : decode cX8_put 37 = .ok (.ldc2_w 160, 3) := by decide +kernel
theorem dX8_put_40 : decode cX8_put 40 = .ok (.invokestatic 71, 3) := by decide +kernel
theorem dX8_put_43 : decode cX8_put 43 = .ok (.ifCond .ne 5, 3) := by decide +kernel
theorem dX8_put_46 : decode cX8_put 46 = .ok (.iconst (-1), 1) := by decide +kernel
theorem dX8_put_47 : decode cX8_put 47 = .ok (.ireturn, 1) := by decide +kernel
theorem dX8_put_48 : decode cX8_put 48 = .ok (.aload_n 0, 1) := by decide +kernel
theorem dX8_put_49 : decode cX8_put 49 = .ok (.getfield 34, 3) := by decide +kernel
theorem dX8_put_52 : decode cX8_put 52 = .ok (.bipush 64, 2) := by decide +kernel
theorem dX8_put_54 : decode cX8_put 54 = .ok (.iload_n 1, 1) := by decide +kernel
theorem dX8_put_55 : decode cX8_put 55 = .ok (.imul, 1) := by decide +kernel
theorem dX8_put_56 : decode cX8_put 56 = .ok (.bipush 8, 2) := by decide +kernel
theorem dX8_put_58 : decode cX8_put 58 = .ok (.iload_n 2, 1) := by decide +kernel
theorem dX8_put_59 : decode cX8_put 59 = .ok (.imul, 1) := by decide +kernel
theorem dX8_put_60 : decode cX8_put 60 = .ok (.iadd, 1) := by decide +kernel
theorem dX8_put_61 : decode cX8_put 61 = .ok (.iconst 2, 1) := by decide +kernel
theorem dX8_put_62 : decode cX8_put 62 = .ok (.iload_n 3, 1) := by decide +kernel
theorem dX8_put_63 : decode cX8_put 63 = .ok (.imul, 1) := by decide +kernel
theorem dX8_put_64 : decode cX8_put 64 = .ok (.iadd, 1) := by decide +kernel
theorem dX8_put_65 : decode cX8_put 65 = .ok (.iload 4, 2) := by decide +kernel
theorem dX8_put_67 : decode cX8_put 67 = .ok (.iastore, 1) := by decide +kernel
theorem dX8_put_68 : decode cX8_put 68 = .ok (.aload_n 0, 1) := by decide +kernel
theorem dX8_put_69 : decode cX8_put 69 = .ok (.getfield 34, 3) := by decide +kernel
theorem dX8_put_72 : decode cX8_put 72 = .ok (.bipush 64, 2) := by decide +kernel
theorem dX8_put_74 : decode cX8_put 74 = .ok (.iload_n 1, 1) := by decide +kernel
theorem dX8_put_75 : decode cX8_put 75 = .ok (.imul, 1) := by decide +kernel
theorem dX8_put_76 : decode cX8_put 76 = .ok (.bipush 8, 2) := by decide +kernel
theorem dX8_put_78 : decode cX8_put 78 = .ok (.iload_n 2, 1) := by decide +kernel
theorem dX8_put_79 : decode cX8_put 79 = .ok (.imul, 1) := by decide +kernel
theorem dX8_put_80 : decode cX8_put 80 = .ok (.iadd, 1) := by decide +kernel
theorem dX8_put_81 : decode cX8_put 81 = .ok (.iconst 2, 1) := by decide +kernel
theorem dX8_put_82 : decode cX8_put 82 = .ok (.iload_n 3, 1) := by decide +kernel
theorem dX8_put_83 : decode cX8_put 83 = .ok (.imul, 1) := by decide +kernel
theorem dX8_put_84 : decode cX8_put 84 = .ok (.iadd, 1) := by decide +kernel
theorem dX8_put_85 : decode cX8_put 85 = .ok (.iconst 1, 1) := by decide +kernel
theorem dX8_put_86 : decode cX8_put 86 = .ok (.iadd, 1) := by decide +kernel
theorem dX8_put_87 : decode cX8_put 87 = .ok (.iload 5, 2) := by decide +kernel
theorem dX8_put_89 : decode cX8_put 89 = .ok (.iastore, 1) := by decide +kernel
theorem dX8_put_90 : decode cX8_put 90 = .ok (.iconst 1, 1) := by decide +kernel
theorem dX8_put_91 : decode cX8_put 91 = .ok (.ireturn, 1) := by decide +kernel
theorem dX8_its_0 : decode cX8_its 0 = .ok (.aload_n 0, 1) := by decide +kernel
theorem dX8_its_1 : decode cX8_its 1 = .ok (.getfield 34, 3) := by decide +kernel
theorem dX8_its_4 : decode cX8_its 4 = .ok (.bipush 64, 2) := by decide +kernel
theorem dX8_its_6 : decode cX8_its 6 = .ok (.iload_n 1, 1) := by decide +kernel
theorem dX8_its_7 : decode cX8_its 7 = .ok (.imul, 1) := by decide +kernel
theorem dX8_its_8 : decode cX8_its 8 = .ok (.bipush 8, 2) := by decide +kernel
theorem dX8_its_10 : decode cX8_its 10 = .ok (.iload_n 2, 1) := by decide +kernel
theorem dX8_its_11 : decode cX8_its 11 = .ok (.imul, 1) := by decide +kernel
theorem dX8_its_12 : decode cX8_its 12 = .ok (.iadd, 1) := by decide +kernel
theorem dX8_its_13 : decode cX8_its 13 = .ok (.iconst 2, 1) := by decide +kernel
theorem dX8_its_14 : decode cX8_its 14 = .ok (.iload_n 3, 1) := by decide +kernel
theorem dX8_its_15 : decode cX8_its 15 = .ok (.imul, 1) := by decide +kernel
theorem dX8_its_16 : decode cX8_its 16 = .ok (.iadd, 1) := by decide +kernel
theorem dX8_its_17 : decode cX8_its 17 = .ok (.iload 4, 2) := by decide +kernel
theorem dX8_its_19 : decode cX8_its 19 = .ok (.iadd, 1) := by decide +kernel
theorem dX8_its_20 : decode cX8_its 20 = .ok (.iaload, 1) := by decide +kernel
theorem dX8_its_21 : decode cX8_its 21 = .ok (.ireturn, 1) := by decide +kernel
theorem dX8_at_0 : decode cX8_at 0 = .ok (.aload_n 0, 1) := by decide +kernel
theorem dX8_at_1 : decode cX8_at 1 = .ok (.iload_n 1, 1) := by decide +kernel
theorem dX8_at_2 : decode cX8_at 2 = .ok (.iload_n 2, 1) := by decide +kernel
theorem dX8_at_3 : decode cX8_at 3 = .ok (.invokevirtual 151, 3) := by decide +kernel
theorem dX8_at_6 : decode cX8_at 6 = .ok (.ifCond .eq 33, 3) := by decide +kernel
theorem dX8_at_9 : decode cX8_at 9 = .ok (.iload_n 3, 1) := by decide +kernel
theorem dX8_at_10 : decode cX8_at 10 = .ok (.invokestatic 155, 3) := by decide +kernel
theorem dX8_at_13 : decode cX8_at 13 = .ok (.ifCond .eq 26, 3) := by decide +kernel
theorem dX8_at_16 : decode cX8_at 16 = .ok (.iload 4, 2) := by decide +kernel
theorem dX8_at_18 : decode cX8_at 18 = .ok (.i2l, 1) := by decide +kernel
theorem dX8_at_19 : decode cX8_at 19 = .ok (.lconst 0, 1) := by decide +kernel
theorem dX8_at_20 : decode cX8_at 20 = .ok (.lconst 1, 1) := by decide +kernel
theorem dX8_at_21 : decode cX8_at 21 = .ok (.invokestatic 71, 3) := by decide +kernel
theorem dX8_at_24 : decode cX8_at 24 = .ok (.ifCond .eq 15, 3) := by decide +kernel
theorem dX8_at_27 : decode cX8_at 27 = .ok (.aload_n 0, 1) := by decide +kernel
theorem dX8_at_28 : decode cX8_at 28 = .ok (.iload_n 1, 1) := by decide +kernel
theorem dX8_at_29 : decode cX8_at 29 = .ok (.iload_n 2, 1) := by decide +kernel
theorem dX8_at_30 : decode cX8_at 30 = .ok (.iload_n 3, 1) := by decide +kernel
theorem dX8_at_31 : decode cX8_at 31 = .ok (.iload 4, 2) := by decide +kernel
theorem dX8_at_33 : decode cX8_at 33 = .ok (.invokevirtual 162, 3) := by decide +kernel
theorem dX8_at_36 : decode cX8_at 36 = .ok (.goto 6, 3) := by decide +kernel
theorem dX8_at_39 : decode cX8_at 39 = .ok (.sipush (-1000), 3) := by decide +kernel
theorem dX8_at_42 : decode cX8_at 42 = .ok (.ireturn, 1) := by decide +kernel
theorem dX8_of_0 : decode cX8_of 0 = .ok (.aload_n 0, 1) := by decide +kernel
theorem dX8_of_1 : decode cX8_of 1 = .ok (.iload_n 1, 1) := by decide +kernel
theorem dX8_of_2 : decode cX8_of 2 = .ok (.invokevirtual 139, 3) := by decide +kernel
theorem dX8_of_5 : decode cX8_of 5 = .ok (.ifCond .eq 35, 3) := by decide +kernel
theorem dX8_of_8 : decode cX8_of 8 = .ok (.iload_n 2, 1) := by decide +kernel
theorem dX8_of_9 : decode cX8_of 9 = .ok (.i2l, 1) := by decide +kernel
theorem dX8_of_10 : decode cX8_of 10 = .ok (.lconst 0, 1) := by decide +kernel
theorem dX8_of_11 : decode cX8_of 11 = .ok (.lconst 1, 1) := by decide +kernel
theorem dX8_of_12 : decode cX8_of 12 = .ok (.invokestatic 71, 3) := by decide +kernel
theorem dX8_of_15 : decode cX8_of 15 = .ok (.ifCond .eq 25, 3) := by decide +kernel
theorem dX8_of_18 : decode cX8_of 18 = .ok (.iload_n 2, 1) := by decide +kernel
theorem dX8_of_19 : decode cX8_of 19 = .ok (.ifCond .ne 12, 3) := by decide +kernel
theorem dX8_of_22 : decode cX8_of 22 = .ok (.aload_n 0, 1) := by decide +kernel
theorem dX8_of_23 : decode cX8_of 23 = .ok (.getfield 37, 3) := by decide +kernel
theorem dX8_of_26 : decode cX8_of 26 = .ok (.iload_n 1, 1) := by decide +kernel
theorem dX8_of_27 : decode cX8_of 27 = .ok (.iaload, 1) := by decide +kernel
theorem dX8_of_28 : decode cX8_of 28 = .ok (.goto 13, 3) := by decide +kernel
theorem dX8_of_31 : decode cX8_of 31 = .ok (.aload_n 0, 1) := by decide +kernel
theorem dX8_of_32 : decode cX8_of 32 = .ok (.getfield 40, 3) := by decide +kernel
theorem dX8_of_35 : decode cX8_of 35 = .ok (.iload_n 1, 1) := by decide +kernel
theorem dX8_of_36 : decode cX8_of 36 = .ok (.iaload, 1) := by decide +kernel
theorem dX8_of_37 : decode cX8_of 37 = .ok (.goto 4, 3) := by decide +kernel
theorem dX8_of_40 : decode cX8_of 40 = .ok (.iconst (-1), 1) := by decide +kernel
theorem dX8_of_41 : decode cX8_of 41 = .ok (.ireturn, 1) := by decide +kernel
theorem dX8_copy_0 : decode cX8_copy 0 = .ok (.aload_n 0, 1) := by decide +kernel
theorem dX8_copy_1 : decode cX8_copy 1 = .ok (.iload_n 1, 1) := by decide +kernel
theorem dX8_copy_2 : decode cX8_copy 2 = .ok (.invokevirtual 139, 3) := by decide +kernel
theorem dX8_copy_5 : decode cX8_copy 5 = .ok (.ifCond .eq 10, 3) := by decide +kernel
theorem dX8_copy_8 : decode cX8_copy 8 = .ok (.iload_n 2, 1) := by decide +kernel
theorem dX8_copy_9 : decode cX8_copy 9 = .ok (.invokestatic 135, 3) := by decide +kernel
theorem dX8_copy_12 : decode cX8_copy 12 = .ok (.ifCond .ne 5, 3) := by decide +kernel
theorem dX8_copy_15 : decode cX8_copy 15 = .ok (.iconst (-1), 1) := by decide +kernel
theorem dX8_copy_16 : decode cX8_copy 16 = .ok (.ireturn, 1) := by decide +kernel
theorem dX8_copy_17 : decode cX8_copy 17 = .ok (.iconst 0, 1) := by decide +kernel
theorem dX8_copy_18 : decode cX8_copy 18 = .ok (.istore_n 3, 1) := by decide +kernel
theorem dX8_copy_19 : decode cX8_copy 19 = .ok (.iload_n 3, 1) := by decide +kernel
theorem dX8_copy_20 : decode cX8_copy 20 = .ok (.bipush 64, 2) := by decide +kernel
theorem dX8_copy_22 : decode cX8_copy 22 = .ok (.if_icmp .ge 31, 3) := by decide +kernel
theorem dX8_copy_25 : decode cX8_copy 25 = .ok (.aload_n 0, 1) := by decide +kernel
theorem dX8_copy_26 : decode cX8_copy 26 = .ok (.getfield 34, 3) := by decide +kernel
theorem dX8_copy_29 : decode cX8_copy 29 = .ok (.bipush 64, 2) := by decide +kernel
theorem dX8_copy_31 : decode cX8_copy 31 = .ok (.iload_n 2, 1) := by decide +kernel
theorem dX8_copy_32 : decode cX8_copy 32 = .ok (.imul, 1) := by decide +kernel
theorem dX8_copy_33 : decode cX8_copy 33 = .ok (.iload_n 3, 1) := by decide +kernel
theorem dX8_copy_34 : decode cX8_copy 34 = .ok (.iadd, 1) := by decide +kernel
theorem dX8_copy_35 : decode cX8_copy 35 = .ok (.aload_n 0, 1) := by decide +kernel
theorem dX8_copy_36 : decode cX8_copy 36 = .ok (.getfield 34, 3) := by decide +kernel
theorem dX8_copy_39 : decode cX8_copy 39 = .ok (.bipush 64, 2) := by decide +kernel
theorem dX8_copy_41 : decode cX8_copy 41 = .ok (.iload_n 1, 1) := by decide +kernel
theorem dX8_copy_42 : decode cX8_copy 42 = .ok (.imul, 1) := by decide +kernel
theorem dX8_copy_43 : decode cX8_copy 43 = .ok (.iload_n 3, 1) := by decide +kernel
theorem dX8_copy_44 : decode cX8_copy 44 = .ok (.iadd, 1) := by decide +kernel
theorem dX8_copy_45 : decode cX8_copy 45 = .ok (.iaload, 1) := by decide +kernel
theorem dX8_copy_46 : decode cX8_copy 46 = .ok (.iastore, 1) := by decide +kernel
theorem dX8_copy_47 : decode cX8_copy 47 = .ok (.iinc 3 1, 3) := by decide +kernel
theorem dX8_copy_50 : decode cX8_copy 50 = .ok (.goto (-31), 3) := by decide +kernel
theorem dX8_copy_53 : decode cX8_copy 53 = .ok (.aload_n 0, 1) := by decide +kernel
theorem dX8_copy_54 : decode cX8_copy 54 = .ok (.getfield 37, 3) := by decide +kernel
theorem dX8_copy_57 : decode cX8_copy 57 = .ok (.iload_n 2, 1) := by decide +kernel
theorem dX8_copy_58 : decode cX8_copy 58 = .ok (.aload_n 0, 1) := by decide +kernel
theorem dX8_copy_59 : decode cX8_copy 59 = .ok (.getfield 37, 3) := by decide +kernel
theorem dX8_copy_62 : decode cX8_copy 62 = .ok (.iload_n 1, 1) := by decide +kernel
theorem dX8_copy_63 : decode cX8_copy 63 = .ok (.iaload, 1) := by decide +kernel
theorem dX8_copy_64 : decode cX8_copy 64 = .ok (.iastore, 1) := by decide +kernel
theorem dX8_copy_65 : decode cX8_copy 65 = .ok (.aload_n 0, 1) := by decide +kernel
theorem dX8_copy_66 : decode cX8_copy 66 = .ok (.getfield 40, 3) := by decide +kernel
theorem dX8_copy_69 : decode cX8_copy 69 = .ok (.iload_n 2, 1) := by decide +kernel
theorem dX8_copy_70 : decode cX8_copy 70 = .ok (.aload_n 0, 1) := by decide +kernel
theorem dX8_copy_71 : decode cX8_copy 71 = .ok (.getfield 40, 3) := by decide +kernel
theorem dX8_copy_74 : decode cX8_copy 74 = .ok (.iload_n 1, 1) := by decide +kernel
theorem dX8_copy_75 : decode cX8_copy 75 = .ok (.iaload, 1) := by decide +kernel
theorem dX8_copy_76 : decode cX8_copy 76 = .ok (.iastore, 1) := by decide +kernel
theorem dX8_copy_77 : decode cX8_copy 77 = .ok (.iconst 1, 1) := by decide +kernel
theorem dX8_copy_78 : decode cX8_copy 78 = .ok (.ireturn, 1) := by decide +kernel
theorem dX8_whole_0 : decode cX8_whole 0 = .ok (.aload_n 0, 1) := by decide +kernel
theorem dX8_whole_1 : decode cX8_whole 1 = .ok (.getfield 28, 3) := by decide +kernel
theorem dX8_whole_4 : decode cX8_whole 4 = .ok (.iconst 0, 1) := by decide +kernel
theorem dX8_whole_5 : decode cX8_whole 5 = .ok (.iaload, 1) := by decide +kernel
theorem dX8_whole_6 : decode cX8_whole 6 = .ok (.aload_n 0, 1) := by decide +kernel
theorem dX8_whole_7 : decode cX8_whole 7 = .ok (.getfield 28, 3) := by decide +kernel
theorem dX8_whole_10 : decode cX8_whole 10 = .ok (.iconst 1, 1) := by decide +kernel
theorem dX8_whole_11 : decode cX8_whole 11 = .ok (.iaload, 1) := by decide +kernel
theorem dX8_whole_12 : decode cX8_whole 12 = .ok (.iadd, 1) := by decide +kernel
theorem dX8_whole_13 : decode cX8_whole 13 = .ok (.aload_n 0, 1) := by decide +kernel
theorem dX8_whole_14 : decode cX8_whole 14 = .ok (.getfield 28, 3) := by decide +kernel
theorem dX8_whole_17 : decode cX8_whole 17 = .ok (.iconst 2, 1) := by decide +kernel
theorem dX8_whole_18 : decode cX8_whole 18 = .ok (.iaload, 1) := by decide +kernel
theorem dX8_whole_19 : decode cX8_whole 19 = .ok (.iadd, 1) := by decide +kernel
theorem dX8_whole_20 : decode cX8_whole 20 = .ok (.aload_n 0, 1) := by decide +kernel
theorem dX8_whole_21 : decode cX8_whole 21 = .ok (.getfield 28, 3) := by decide +kernel
theorem dX8_whole_24 : decode cX8_whole 24 = .ok (.iconst 3, 1) := by decide +kernel
theorem dX8_whole_25 : decode cX8_whole 25 = .ok (.iaload, 1) := by decide +kernel
theorem dX8_whole_26 : decode cX8_whole 26 = .ok (.iadd, 1) := by decide +kernel
theorem dX8_whole_27 : decode cX8_whole 27 = .ok (.ireturn, 1) := by decide +kernel
theorem dX8_middle_0 : decode cX8_middle 0 = .ok (.aload_n 0, 1) := by decide +kernel
theorem dX8_middle_1 : decode cX8_middle 1 = .ok (.invokevirtual 166, 3) := by decide +kernel
theorem dX8_middle_4 : decode cX8_middle 4 = .ok (.iload_n 2, 1) := by decide +kernel
theorem dX8_middle_5 : decode cX8_middle 5 = .ok (.ifCond .ne 23, 3) := by decide +kernel
theorem dX8_middle_8 : decode cX8_middle 8 = .ok (.aload_n 0, 1) := by decide +kernel
theorem dX8_middle_9 : decode cX8_middle 9 = .ok (.getfield 28, 3) := by decide +kernel
theorem dX8_middle_12 : decode cX8_middle 12 = .ok (.bipush 8, 2) := by decide +kernel
theorem dX8_middle_14 : decode cX8_middle 14 = .ok (.iaload, 1) := by decide +kernel
theorem dX8_middle_15 : decode cX8_middle 15 = .ok (.iload_n 1, 1) := by decide +kernel
theorem dX8_middle_16 : decode cX8_middle 16 = .ok (.imul, 1) := by decide +kernel
theorem dX8_middle_17 : decode cX8_middle 17 = .ok (.aload_n 0, 1) := by decide +kernel
theorem dX8_middle_18 : decode cX8_middle 18 = .ok (.getfield 28, 3) := by decide +kernel
theorem dX8_middle_21 : decode cX8_middle 21 = .ok (.bipush 10, 2) := by decide +kernel
theorem dX8_middle_23 : decode cX8_middle 23 = .ok (.iaload, 1) := by decide +kernel
theorem dX8_middle_24 : decode cX8_middle 24 = .ok (.isub, 1) := by decide +kernel
theorem dX8_middle_25 : decode cX8_middle 25 = .ok (.goto 32, 3) := by decide +kernel
theorem dX8_middle_28 : decode cX8_middle 28 = .ok (.aload_n 0, 1) := by decide +kernel
theorem dX8_middle_29 : decode cX8_middle 29 = .ok (.getfield 28, 3) := by decide +kernel
theorem dX8_middle_32 : decode cX8_middle 32 = .ok (.bipush 11, 2) := by decide +kernel
theorem dX8_middle_34 : decode cX8_middle 34 = .ok (.iaload, 1) := by decide +kernel
theorem dX8_middle_35 : decode cX8_middle 35 = .ok (.aload_n 0, 1) := by decide +kernel
theorem dX8_middle_36 : decode cX8_middle 36 = .ok (.getfield 28, 3) := by decide +kernel
theorem dX8_middle_39 : decode cX8_middle 39 = .ok (.bipush 7, 2) := by decide +kernel
theorem dX8_middle_41 : decode cX8_middle 41 = .ok (.iaload, 1) := by decide +kernel
theorem dX8_middle_42 : decode cX8_middle 42 = .ok (.iload_n 1, 1) := by decide +kernel
theorem dX8_middle_43 : decode cX8_middle 43 = .ok (.imul, 1) := by decide +kernel
theorem dX8_middle_44 : decode cX8_middle 44 = .ok (.iadd, 1) := by decide +kernel
theorem dX8_middle_45 : decode cX8_middle 45 = .ok (.aload_n 0, 1) := by decide +kernel
theorem dX8_middle_46 : decode cX8_middle 46 = .ok (.getfield 28, 3) := by decide +kernel
theorem dX8_middle_49 : decode cX8_middle 49 = .ok (.bipush 9, 2) := by decide +kernel
theorem dX8_middle_51 : decode cX8_middle 51 = .ok (.iaload, 1) := by decide +kernel
theorem dX8_middle_52 : decode cX8_middle 52 = .ok (.iload_n 1, 1) := by decide +kernel
theorem dX8_middle_53 : decode cX8_middle 53 = .ok (.imul, 1) := by decide +kernel
theorem dX8_middle_54 : decode cX8_middle 54 = .ok (.iload_n 1, 1) := by decide +kernel
theorem dX8_middle_55 : decode cX8_middle 55 = .ok (.imul, 1) := by decide +kernel
theorem dX8_middle_56 : decode cX8_middle 56 = .ok (.isub, 1) := by decide +kernel
theorem dX8_middle_57 : decode cX8_middle 57 = .ok (.imul, 1) := by decide +kernel
theorem dX8_middle_58 : decode cX8_middle 58 = .ok (.ireturn, 1) := by decide +kernel
theorem dX8_placeOf_0 : decode cX8_placeOf 0 = .ok (.iconst 0, 1) := by decide +kernel
theorem dX8_placeOf_1 : decode cX8_placeOf 1 = .ok (.istore 5, 2) := by decide +kernel
theorem dX8_placeOf_3 : decode cX8_placeOf 3 = .ok (.iconst 0, 1) := by decide +kernel
theorem dX8_placeOf_4 : decode cX8_placeOf 4 = .ok (.istore 6, 2) := by decide +kernel
theorem dX8_placeOf_6 : decode cX8_placeOf 6 = .ok (.iload 6, 2) := by decide +kernel
theorem dX8_placeOf_8 : decode cX8_placeOf 8 = .ok (.iconst 4, 1) := by decide +kernel
theorem dX8_placeOf_9 : decode cX8_placeOf 9 = .ok (.if_icmp .ge 32, 3) := by decide +kernel
theorem dX8_placeOf_12 : decode cX8_placeOf 12 = .ok (.iload 5, 2) := by decide +kernel
theorem dX8_placeOf_14 : decode cX8_placeOf 14 = .ok (.aload_n 0, 1) := by decide +kernel
theorem dX8_placeOf_15 : decode cX8_placeOf 15 = .ok (.getfield 28, 3) := by decide +kernel
theorem dX8_placeOf_18 : decode cX8_placeOf 18 = .ok (.iload 6, 2) := by decide +kernel
theorem dX8_placeOf_20 : decode cX8_placeOf 20 = .ok (.iaload, 1) := by decide +kernel
theorem dX8_placeOf_21 : decode cX8_placeOf 21 = .ok (.aload_n 0, 1) := by decide +kernel
theorem dX8_placeOf_22 : decode cX8_placeOf 22 = .ok (.iload_n 1, 1) := by decide +kernel
theorem dX8_placeOf_23 : decode cX8_placeOf 23 = .ok (.iload_n 2, 1) := by decide +kernel
theorem dX8_placeOf_24 : decode cX8_placeOf 24 = .ok (.iload 6, 2) := by decide +kernel
theorem dX8_placeOf_26 : decode cX8_placeOf 26 = .ok (.iload 4, 2) := by decide +kernel
theorem dX8_placeOf_28 : decode cX8_placeOf 28 = .ok (.invokevirtual 162, 3) := by decide +kernel
theorem dX8_placeOf_31 : decode cX8_placeOf 31 = .ok (.imul, 1) := by decide +kernel
theorem dX8_placeOf_32 : decode cX8_placeOf 32 = .ok (.iadd, 1) := by decide +kernel
theorem dX8_placeOf_33 : decode cX8_placeOf 33 = .ok (.istore 5, 2) := by decide +kernel
theorem dX8_placeOf_35 : decode cX8_placeOf 35 = .ok (.iinc 6 1, 3) := by decide +kernel
theorem dX8_placeOf_38 : decode cX8_placeOf 38 = .ok (.goto (-32), 3) := by decide +kernel
theorem dX8_placeOf_41 : decode cX8_placeOf 41 = .ok (.aload_n 0, 1) := by decide +kernel
theorem dX8_placeOf_42 : decode cX8_placeOf 42 = .ok (.iload_n 2, 1) := by decide +kernel
theorem dX8_placeOf_43 : decode cX8_placeOf 43 = .ok (.iload 4, 2) := by decide +kernel
theorem dX8_placeOf_45 : decode cX8_placeOf 45 = .ok (.invokevirtual 170, 3) := by decide +kernel
theorem dX8_placeOf_48 : decode cX8_placeOf 48 = .ok (.aload_n 0, 1) := by decide +kernel
theorem dX8_placeOf_49 : decode cX8_placeOf 49 = .ok (.invokevirtual 166, 3) := by decide +kernel
theorem dX8_placeOf_52 : decode cX8_placeOf 52 = .ok (.aload_n 0, 1) := by decide +kernel
theorem dX8_placeOf_53 : decode cX8_placeOf 53 = .ok (.iload_n 1, 1) := by decide +kernel
theorem dX8_placeOf_54 : decode cX8_placeOf 54 = .ok (.iload_n 2, 1) := by decide +kernel
theorem dX8_placeOf_55 : decode cX8_placeOf 55 = .ok (.iload_n 3, 1) := by decide +kernel
theorem dX8_placeOf_56 : decode cX8_placeOf 56 = .ok (.iload 4, 2) := by decide +kernel
theorem dX8_placeOf_58 : decode cX8_placeOf 58 = .ok (.invokevirtual 162, 3) := by decide +kernel
theorem dX8_placeOf_61 : decode cX8_placeOf 61 = .ok (.imul, 1) := by decide +kernel
theorem dX8_placeOf_62 : decode cX8_placeOf 62 = .ok (.iadd, 1) := by decide +kernel
theorem dX8_placeOf_63 : decode cX8_placeOf 63 = .ok (.iload 5, 2) := by decide +kernel
theorem dX8_placeOf_65 : decode cX8_placeOf 65 = .ok (.isub, 1) := by decide +kernel
theorem dX8_placeOf_66 : decode cX8_placeOf 66 = .ok (.ireturn, 1) := by decide +kernel
theorem dX8_place_0 : decode cX8_place 0 = .ok (.aload_n 0, 1) := by decide +kernel
theorem dX8_place_1 : decode cX8_place 1 = .ok (.iload_n 1, 1) := by decide +kernel
theorem dX8_place_2 : decode cX8_place 2 = .ok (.iload_n 2, 1) := by decide +kernel
theorem dX8_place_3 : decode cX8_place 3 = .ok (.invokevirtual 151, 3) := by decide +kernel
theorem dX8_place_6 : decode cX8_place 6 = .ok (.ifCond .eq 33, 3) := by decide +kernel
theorem dX8_place_9 : decode cX8_place 9 = .ok (.iload_n 3, 1) := by decide +kernel
theorem dX8_place_10 : decode cX8_place 10 = .ok (.invokestatic 155, 3) := by decide +kernel
theorem dX8_place_13 : decode cX8_place 13 = .ok (.ifCond .eq 26, 3) := by decide +kernel
theorem dX8_place_16 : decode cX8_place 16 = .ok (.iload 4, 2) := by decide +kernel
theorem dX8_place_18 : decode cX8_place 18 = .ok (.i2l, 1) := by decide +kernel
theorem dX8_place_19 : decode cX8_place 19 = .ok (.lconst 0, 1) := by decide +kernel
theorem dX8_place_20 : decode cX8_place 20 = .ok (.lconst 1, 1) := by decide +kernel
theorem dX8_place_21 : decode cX8_place 21 = .ok (.invokestatic 71, 3) := by decide +kernel
theorem dX8_place_24 : decode cX8_place 24 = .ok (.ifCond .eq 15, 3) := by decide +kernel
theorem dX8_place_27 : decode cX8_place 27 = .ok (.aload_n 0, 1) := by decide +kernel
theorem dX8_place_28 : decode cX8_place 28 = .ok (.iload_n 1, 1) := by decide +kernel
theorem dX8_place_29 : decode cX8_place 29 = .ok (.iload_n 2, 1) := by decide +kernel
theorem dX8_place_30 : decode cX8_place 30 = .ok (.iload_n 3, 1) := by decide +kernel
theorem dX8_place_31 : decode cX8_place 31 = .ok (.iload 4, 2) := by decide +kernel
theorem dX8_place_33 : decode cX8_place 33 = .ok (.invokevirtual 173, 3) := by decide +kernel
theorem dX8_place_36 : decode cX8_place 36 = .ok (.goto 5, 3) := by decide +kernel
theorem dX8_place_39 : decode cX8_place 39 = .ok (.ldc 176, 2) := by decide +kernel
theorem dX8_place_41 : decode cX8_place 41 = .ok (.ireturn, 1) := by decide +kernel
theorem dX8_isNear_0 : decode cX8_isNear 0 = .ok (.aload_n 0, 1) := by decide +kernel
theorem dX8_isNear_1 : decode cX8_isNear 1 = .ok (.iload_n 1, 1) := by decide +kernel
theorem dX8_isNear_2 : decode cX8_isNear 2 = .ok (.iload_n 2, 1) := by decide +kernel
theorem dX8_isNear_3 : decode cX8_isNear 3 = .ok (.iload_n 3, 1) := by decide +kernel
theorem dX8_isNear_4 : decode cX8_isNear 4 = .ok (.iconst 0, 1) := by decide +kernel
theorem dX8_isNear_5 : decode cX8_isNear 5 = .ok (.invokevirtual 173, 3) := by decide +kernel
theorem dX8_isNear_8 : decode cX8_isNear 8 = .ok (.istore 4, 2) := by decide +kernel
theorem dX8_isNear_10 : decode cX8_isNear 10 = .ok (.iload 4, 2) := by decide +kernel
theorem dX8_isNear_12 : decode cX8_isNear 12 = .ok (.i2l, 1) := by decide +kernel
theorem dX8_isNear_13 : decode cX8_isNear 13 = .ok (.aload_n 0, 1) := by decide +kernel
theorem dX8_isNear_14 : decode cX8_isNear 14 = .ok (.invokevirtual 166, 3) := by decide +kernel
theorem dX8_isNear_17 : decode cX8_isNear 17 = .ok (.ineg, 1) := by decide +kernel
theorem dX8_isNear_18 : decode cX8_isNear 18 = .ok (.aload_n 0, 1) := by decide +kernel
theorem dX8_isNear_19 : decode cX8_isNear 19 = .ok (.getfield 28, 3) := by decide +kernel
theorem dX8_isNear_22 : decode cX8_isNear 22 = .ok (.bipush 12, 2) := by decide +kernel
theorem dX8_isNear_24 : decode cX8_isNear 24 = .ok (.iaload, 1) := by decide +kernel
theorem dX8_isNear_25 : decode cX8_isNear 25 = .ok (.imul, 1) := by decide +kernel
theorem dX8_isNear_26 : decode cX8_isNear 26 = .ok (.i2l, 1) := by decide +kernel
theorem dX8_isNear_27 : decode cX8_isNear 27 = .ok (.aload_n 0, 1) := by decide +kernel
theorem dX8_isNear_28 : decode cX8_isNear 28 = .ok (.invokevirtual 166, 3) := by decide +kernel
theorem dX8_isNear_31 : decode cX8_isNear 31 = .ok (.aload_n 0, 1) := by decide +kernel
theorem dX8_isNear_32 : decode cX8_isNear 32 = .ok (.getfield 28, 3) := by decide +kernel
theorem dX8_isNear_35 : decode cX8_isNear 35 = .ok (.bipush 12, 2) := by decide +kernel
theorem dX8_isNear_37 : decode cX8_isNear 37 = .ok (.iaload, 1) := by decide +kernel
theorem dX8_isNear_38 : decode cX8_isNear 38 = .ok (.imul, 1) := by decide +kernel
theorem dX8_isNear_39 : decode cX8_isNear 39 = .ok (.i2l, 1) := by decide +kernel
theorem dX8_isNear_40 : decode cX8_isNear 40 = .ok (.invokestatic 71, 3) := by decide +kernel
theorem dX8_isNear_43 : decode cX8_isNear 43 = .ok (.ireturn, 1) := by decide +kernel
theorem dX8_near_0 : decode cX8_near 0 = .ok (.aload_n 0, 1) := by decide +kernel
theorem dX8_near_1 : decode cX8_near 1 = .ok (.iload_n 1, 1) := by decide +kernel
theorem dX8_near_2 : decode cX8_near 2 = .ok (.iload_n 2, 1) := by decide +kernel
theorem dX8_near_3 : decode cX8_near 3 = .ok (.invokevirtual 151, 3) := by decide +kernel
theorem dX8_near_6 : decode cX8_near 6 = .ok (.ifCond .eq 28, 3) := by decide +kernel
theorem dX8_near_9 : decode cX8_near 9 = .ok (.iload_n 3, 1) := by decide +kernel
theorem dX8_near_10 : decode cX8_near 10 = .ok (.invokestatic 155, 3) := by decide +kernel
theorem dX8_near_13 : decode cX8_near 13 = .ok (.ifCond .eq 21, 3) := by decide +kernel
theorem dX8_near_16 : decode cX8_near 16 = .ok (.aload_n 0, 1) := by decide +kernel
theorem dX8_near_17 : decode cX8_near 17 = .ok (.iload_n 1, 1) := by decide +kernel
theorem dX8_near_18 : decode cX8_near 18 = .ok (.iload_n 2, 1) := by decide +kernel
theorem dX8_near_19 : decode cX8_near 19 = .ok (.iload_n 3, 1) := by decide +kernel
theorem dX8_near_20 : decode cX8_near 20 = .ok (.invokevirtual 177, 3) := by decide +kernel
theorem dX8_near_23 : decode cX8_near 23 = .ok (.ifCond .eq 7, 3) := by decide +kernel
theorem dX8_near_26 : decode cX8_near 26 = .ok (.iconst 1, 1) := by decide +kernel
theorem dX8_near_27 : decode cX8_near 27 = .ok (.goto 8, 3) := by decide +kernel
theorem dX8_near_30 : decode cX8_near 30 = .ok (.iconst 0, 1) := by decide +kernel
theorem dX8_near_31 : decode cX8_near 31 = .ok (.goto 4, 3) := by decide +kernel
theorem dX8_near_34 : decode cX8_near 34 = .ok (.iconst (-1), 1) := by decide +kernel
theorem dX8_near_35 : decode cX8_near 35 = .ok (.ireturn, 1) := by decide +kernel
theorem dX8_getsAcross_0 : decode cX8_getsAcross 0 = .ok (.iconst 1, 1) := by decide +kernel
theorem dX8_getsAcross_1 : decode cX8_getsAcross 1 = .ok (.istore_n 2, 1) := by decide +kernel
theorem dX8_getsAcross_2 : decode cX8_getsAcross 2 = .ok (.iconst 0, 1) := by decide +kernel
theorem dX8_getsAcross_3 : decode cX8_getsAcross 3 = .ok (.istore_n 3, 1) := by decide +kernel
theorem dX8_getsAcross_4 : decode cX8_getsAcross 4 = .ok (.iload_n 3, 1) := by decide +kernel
theorem dX8_getsAcross_5 : decode cX8_getsAcross 5 = .ok (.iconst 4, 1) := by decide +kernel
theorem dX8_getsAcross_6 : decode cX8_getsAcross 6 = .ok (.if_icmp .ge 48, 3) := by decide +kernel
theorem dX8_getsAcross_9 : decode cX8_getsAcross 9 = .ok (.iload_n 2, 1) := by decide +kernel
theorem dX8_getsAcross_10 : decode cX8_getsAcross 10 = .ok (.ifCond .eq 36, 3) := by decide +kernel
theorem dX8_getsAcross_13 : decode cX8_getsAcross 13 = .ok (.aload_n 0, 1) := by decide +kernel
theorem dX8_getsAcross_14 : decode cX8_getsAcross 14 = .ok (.iload_n 1, 1) := by decide +kernel
theorem dX8_getsAcross_15 : decode cX8_getsAcross 15 = .ok (.iconst 0, 1) := by decide +kernel
theorem dX8_getsAcross_16 : decode cX8_getsAcross 16 = .ok (.iload_n 3, 1) := by decide +kernel
theorem dX8_getsAcross_17 : decode cX8_getsAcross 17 = .ok (.iconst 0, 1) := by decide +kernel
theorem dX8_getsAcross_18 : decode cX8_getsAcross 18 = .ok (.invokevirtual 173, 3) := by decide +kernel
theorem dX8_getsAcross_21 : decode cX8_getsAcross 21 = .ok (.ifCond .ge 25, 3) := by decide +kernel
theorem dX8_getsAcross_24 : decode cX8_getsAcross 24 = .ok (.aload_n 0, 1) := by decide +kernel
theorem dX8_getsAcross_25 : decode cX8_getsAcross 25 = .ok (.iload_n 1, 1) := by decide +kernel
theorem dX8_getsAcross_26 : decode cX8_getsAcross 26 = .ok (.aload_n 0, 1) := by decide +kernel
theorem dX8_getsAcross_27 : decode cX8_getsAcross 27 = .ok (.getfield 37, 3) := by decide +kernel
theorem dX8_getsAcross_30 : decode cX8_getsAcross 30 = .ok (.iload_n 1, 1) := by decide +kernel
theorem dX8_getsAcross_31 : decode cX8_getsAcross 31 = .ok (.iaload, 1) := by decide +kernel
theorem dX8_getsAcross_32 : decode cX8_getsAcross 32 = .ok (.iconst 1, 1) := by decide +kernel
theorem dX8_getsAcross_33 : decode cX8_getsAcross 33 = .ok (.isub, 1) := by decide +kernel
theorem dX8_getsAcross_34 : decode cX8_getsAcross 34 = .ok (.iload_n 3, 1) := by decide +kernel
theorem dX8_getsAcross_35 : decode cX8_getsAcross 35 = .ok (.iconst 0, 1) := by decide +kernel
theorem dX8_getsAcross_36 : decode cX8_getsAcross 36 = .ok (.invokevirtual 173, 3) := by decide +kernel
theorem dX8_getsAcross_39 : decode cX8_getsAcross 39 = .ok (.ifCond .le 7, 3) := by decide +kernel
theorem dX8_getsAcross_42 : decode cX8_getsAcross 42 = .ok (.iconst 1, 1) := by decide +kernel
theorem dX8_getsAcross_43 : decode cX8_getsAcross 43 = .ok (.goto 4, 3) := by decide +kernel
theorem dX8_getsAcross_46 : decode cX8_getsAcross 46 = .ok (.iconst 0, 1) := by decide +kernel
theorem dX8_getsAcross_47 : decode cX8_getsAcross 47 = .ok (.istore_n 2, 1) := by decide +kernel
theorem dX8_getsAcross_48 : decode cX8_getsAcross 48 = .ok (.iinc 3 1, 3) := by decide +kernel
theorem dX8_getsAcross_51 : decode cX8_getsAcross 51 = .ok (.goto (-47), 3) := by decide +kernel
theorem dX8_getsAcross_54 : decode cX8_getsAcross 54 = .ok (.iload_n 2, 1) := by decide +kernel
theorem dX8_getsAcross_55 : decode cX8_getsAcross 55 = .ok (.ireturn, 1) := by decide +kernel
theorem dX8_lowestOf_0 : decode cX8_lowestOf 0 = .ok (.bipush (-4), 2) := by decide +kernel
theorem dX8_lowestOf_2 : decode cX8_lowestOf 2 = .ok (.istore_n 2, 1) := by decide +kernel
theorem dX8_lowestOf_3 : decode cX8_lowestOf 3 = .ok (.iconst 0, 1) := by decide +kernel
theorem dX8_lowestOf_4 : decode cX8_lowestOf 4 = .ok (.istore_n 3, 1) := by decide +kernel
theorem dX8_lowestOf_5 : decode cX8_lowestOf 5 = .ok (.iconst 0, 1) := by decide +kernel
theorem dX8_lowestOf_6 : decode cX8_lowestOf 6 = .ok (.istore 4, 2) := by decide +kernel
theorem dX8_lowestOf_8 : decode cX8_lowestOf 8 = .ok (.iload 4, 2) := by decide +kernel
theorem dX8_lowestOf_10 : decode cX8_lowestOf 10 = .ok (.aload_n 0, 1) := by decide +kernel
theorem dX8_lowestOf_11 : decode cX8_lowestOf 11 = .ok (.getfield 37, 3) := by decide +kernel
theorem dX8_lowestOf_14 : decode cX8_lowestOf 14 = .ok (.iload_n 1, 1) := by decide +kernel
theorem dX8_lowestOf_15 : decode cX8_lowestOf 15 = .ok (.iaload, 1) := by decide +kernel
theorem dX8_lowestOf_16 : decode cX8_lowestOf 16 = .ok (.if_icmp .ge 71, 3) := by decide +kernel
theorem dX8_lowestOf_19 : decode cX8_lowestOf 19 = .ok (.iconst 0, 1) := by decide +kernel
theorem dX8_lowestOf_20 : decode cX8_lowestOf 20 = .ok (.istore 5, 2) := by decide +kernel
theorem dX8_lowestOf_22 : decode cX8_lowestOf 22 = .ok (.iload 5, 2) := by decide +kernel
theorem dX8_lowestOf_24 : decode cX8_lowestOf 24 = .ok (.iconst 4, 1) := by decide +kernel
theorem dX8_lowestOf_25 : decode cX8_lowestOf 25 = .ok (.if_icmp .ge 56, 3) := by decide +kernel
theorem dX8_lowestOf_28 : decode cX8_lowestOf 28 = .ok (.aload_n 0, 1) := by decide +kernel
theorem dX8_lowestOf_29 : decode cX8_lowestOf 29 = .ok (.iload_n 1, 1) := by decide +kernel
theorem dX8_lowestOf_30 : decode cX8_lowestOf 30 = .ok (.iload 4, 2) := by decide +kernel
theorem dX8_lowestOf_32 : decode cX8_lowestOf 32 = .ok (.iload 5, 2) := by decide +kernel
theorem dX8_lowestOf_34 : decode cX8_lowestOf 34 = .ok (.invokevirtual 177, 3) := by decide +kernel
theorem dX8_lowestOf_37 : decode cX8_lowestOf 37 = .ok (.ifCond .eq 38, 3) := by decide +kernel
theorem dX8_lowestOf_40 : decode cX8_lowestOf 40 = .ok (.aload_n 0, 1) := by decide +kernel
theorem dX8_lowestOf_41 : decode cX8_lowestOf 41 = .ok (.iload_n 1, 1) := by decide +kernel
theorem dX8_lowestOf_42 : decode cX8_lowestOf 42 = .ok (.iload 4, 2) := by decide +kernel
theorem dX8_lowestOf_44 : decode cX8_lowestOf 44 = .ok (.iload 5, 2) := by decide +kernel
theorem dX8_lowestOf_46 : decode cX8_lowestOf 46 = .ok (.iconst 1, 1) := by decide +kernel
theorem dX8_lowestOf_47 : decode cX8_lowestOf 47 = .ok (.invokevirtual 173, 3) := by decide +kernel
theorem dX8_lowestOf_50 : decode cX8_lowestOf 50 = .ok (.istore 6, 2) := by decide +kernel
theorem dX8_lowestOf_52 : decode cX8_lowestOf 52 = .ok (.iload_n 2, 1) := by decide +kernel
theorem dX8_lowestOf_53 : decode cX8_lowestOf 53 = .ok (.bipush (-4), 2) := by decide +kernel
theorem dX8_lowestOf_55 : decode cX8_lowestOf 55 = .ok (.if_icmp .eq 9, 3) := by decide +kernel
theorem dX8_lowestOf_58 : decode cX8_lowestOf 58 = .ok (.iload 6, 2) := by decide +kernel
theorem dX8_lowestOf_60 : decode cX8_lowestOf 60 = .ok (.iload_n 3, 1) := by decide +kernel
theorem dX8_lowestOf_61 : decode cX8_lowestOf 61 = .ok (.if_icmp .ge 14, 3) := by decide +kernel
theorem dX8_lowestOf_64 : decode cX8_lowestOf 64 = .ok (.iconst 4, 1) := by decide +kernel
theorem dX8_lowestOf_65 : decode cX8_lowestOf 65 = .ok (.iload 4, 2) := by decide +kernel
theorem dX8_lowestOf_67 : decode cX8_lowestOf 67 = .ok (.imul, 1) := by decide +kernel
theorem dX8_lowestOf_68 : decode cX8_lowestOf 68 = .ok (.iload 5, 2) := by decide +kernel
theorem dX8_lowestOf_70 : decode cX8_lowestOf 70 = .ok (.iadd, 1) := by decide +kernel
theorem dX8_lowestOf_71 : decode cX8_lowestOf 71 = .ok (.istore_n 2, 1) := by decide +kernel
theorem dX8_lowestOf_72 : decode cX8_lowestOf 72 = .ok (.iload 6, 2) := by decide +kernel
theorem dX8_lowestOf_74 : decode cX8_lowestOf 74 = .ok (.istore_n 3, 1) := by decide +kernel
theorem dX8_lowestOf_75 : decode cX8_lowestOf 75 = .ok (.iinc 5 1, 3) := by decide +kernel
theorem dX8_lowestOf_78 : decode cX8_lowestOf 78 = .ok (.goto (-56), 3) := by decide +kernel
theorem dX8_lowestOf_81 : decode cX8_lowestOf 81 = .ok (.iinc 4 1, 3) := by decide +kernel
theorem dX8_lowestOf_84 : decode cX8_lowestOf 84 = .ok (.goto (-76), 3) := by decide +kernel
theorem dX8_lowestOf_87 : decode cX8_lowestOf 87 = .ok (.iload_n 2, 1) := by decide +kernel
theorem dX8_lowestOf_88 : decode cX8_lowestOf 88 = .ok (.ireturn, 1) := by decide +kernel
theorem dX8_highOf_0 : decode cX8_highOf 0 = .ok (.aload_n 0, 1) := by decide +kernel
theorem dX8_highOf_1 : decode cX8_highOf 1 = .ok (.iload_n 1, 1) := by decide +kernel
theorem dX8_highOf_2 : decode cX8_highOf 2 = .ok (.invokevirtual 181, 3) := by decide +kernel
theorem dX8_highOf_5 : decode cX8_highOf 5 = .ok (.ifCond .ne 6, 3) := by decide +kernel
theorem dX8_highOf_8 : decode cX8_highOf 8 = .ok (.bipush (-4), 2) := by decide +kernel
theorem dX8_highOf_10 : decode cX8_highOf 10 = .ok (.ireturn, 1) := by decide +kernel
theorem dX8_highOf_11 : decode cX8_highOf 11 = .ok (.aload_n 0, 1) := by decide +kernel
theorem dX8_highOf_12 : decode cX8_highOf 12 = .ok (.iload_n 1, 1) := by decide +kernel
theorem dX8_highOf_13 : decode cX8_highOf 13 = .ok (.invokevirtual 184, 3) := by decide +kernel
theorem dX8_highOf_16 : decode cX8_highOf 16 = .ok (.istore_n 2, 1) := by decide +kernel
theorem dX8_highOf_17 : decode cX8_highOf 17 = .ok (.iload_n 2, 1) := by decide +kernel
theorem dX8_highOf_18 : decode cX8_highOf 18 = .ok (.bipush (-4), 2) := by decide +kernel
theorem dX8_highOf_20 : decode cX8_highOf 20 = .ok (.if_icmp .ne 7, 3) := by decide +kernel
theorem dX8_highOf_23 : decode cX8_highOf 23 = .ok (.sipush 999, 3) := by decide +kernel
theorem dX8_highOf_26 : decode cX8_highOf 26 = .ok (.ireturn, 1) := by decide +kernel
theorem dX8_highOf_27 : decode cX8_highOf 27 = .ok (.aload_n 0, 1) := by decide +kernel
theorem dX8_highOf_28 : decode cX8_highOf 28 = .ok (.iload_n 1, 1) := by decide +kernel
theorem dX8_highOf_29 : decode cX8_highOf 29 = .ok (.iload_n 2, 1) := by decide +kernel
theorem dX8_highOf_30 : decode cX8_highOf 30 = .ok (.iconst 4, 1) := by decide +kernel
theorem dX8_highOf_31 : decode cX8_highOf 31 = .ok (.idiv, 1) := by decide +kernel
theorem dX8_highOf_32 : decode cX8_highOf 32 = .ok (.iload_n 2, 1) := by decide +kernel
theorem dX8_highOf_33 : decode cX8_highOf 33 = .ok (.iconst 4, 1) := by decide +kernel
theorem dX8_highOf_34 : decode cX8_highOf 34 = .ok (.irem, 1) := by decide +kernel
theorem dX8_highOf_35 : decode cX8_highOf 35 = .ok (.iconst 1, 1) := by decide +kernel
theorem dX8_highOf_36 : decode cX8_highOf 36 = .ok (.invokevirtual 173, 3) := by decide +kernel
theorem dX8_highOf_39 : decode cX8_highOf 39 = .ok (.istore_n 3, 1) := by decide +kernel
theorem dX8_highOf_40 : decode cX8_highOf 40 = .ok (.iload_n 3, 1) := by decide +kernel
theorem dX8_highOf_41 : decode cX8_highOf 41 = .ok (.ifCond .ge 8, 3) := by decide +kernel
theorem dX8_highOf_44 : decode cX8_highOf 44 = .ok (.bipush (-4), 2) := by decide +kernel
theorem dX8_highOf_46 : decode cX8_highOf 46 = .ok (.goto 27, 3) := by decide +kernel
theorem dX8_highOf_49 : decode cX8_highOf 49 = .ok (.iload_n 3, 1) := by decide +kernel
theorem dX8_highOf_50 : decode cX8_highOf 50 = .ok (.aload_n 0, 1) := by decide +kernel
theorem dX8_highOf_51 : decode cX8_highOf 51 = .ok (.invokevirtual 166, 3) := by decide +kernel
theorem dX8_highOf_54 : decode cX8_highOf 54 = .ok (.idiv, 1) := by decide +kernel
theorem dX8_highOf_55 : decode cX8_highOf 55 = .ok (.sipush 999, 3) := by decide +kernel
theorem dX8_highOf_58 : decode cX8_highOf 58 = .ok (.if_icmp .le 9, 3) := by decide +kernel
theorem dX8_highOf_61 : decode cX8_highOf 61 = .ok (.sipush 999, 3) := by decide +kernel
theorem dX8_highOf_64 : decode cX8_highOf 64 = .ok (.goto 9, 3) := by decide +kernel
theorem dX8_highOf_67 : decode cX8_highOf 67 = .ok (.iload_n 3, 1) := by decide +kernel
theorem dX8_highOf_68 : decode cX8_highOf 68 = .ok (.aload_n 0, 1) := by decide +kernel
theorem dX8_highOf_69 : decode cX8_highOf 69 = .ok (.invokevirtual 166, 3) := by decide +kernel
theorem dX8_highOf_72 : decode cX8_highOf 72 = .ok (.idiv, 1) := by decide +kernel
theorem dX8_highOf_73 : decode cX8_highOf 73 = .ok (.ireturn, 1) := by decide +kernel
theorem dX8_high_0 : decode cX8_high 0 = .ok (.aload_n 0, 1) := by decide +kernel
theorem dX8_high_1 : decode cX8_high 1 = .ok (.iload_n 1, 1) := by decide +kernel
theorem dX8_high_2 : decode cX8_high 2 = .ok (.invokevirtual 139, 3) := by decide +kernel
theorem dX8_high_5 : decode cX8_high 5 = .ok (.ifCond .eq 11, 3) := by decide +kernel
theorem dX8_high_8 : decode cX8_high 8 = .ok (.aload_n 0, 1) := by decide +kernel
theorem dX8_high_9 : decode cX8_high 9 = .ok (.iload_n 1, 1) := by decide +kernel
theorem dX8_high_10 : decode cX8_high 10 = .ok (.invokevirtual 187, 3) := by decide +kernel
theorem dX8_high_13 : decode cX8_high 13 = .ok (.goto 4, 3) := by decide +kernel
theorem dX8_high_16 : decode cX8_high 16 = .ok (.iconst (-1), 1) := by decide +kernel
theorem dX8_high_17 : decode cX8_high 17 = .ok (.ireturn, 1) := by decide +kernel
theorem dX8_lowest_0 : decode cX8_lowest 0 = .ok (.aload_n 0, 1) := by decide +kernel
theorem dX8_lowest_1 : decode cX8_lowest 1 = .ok (.iload_n 1, 1) := by decide +kernel
theorem dX8_lowest_2 : decode cX8_lowest 2 = .ok (.invokevirtual 139, 3) := by decide +kernel
theorem dX8_lowest_5 : decode cX8_lowest 5 = .ok (.ifCond .ne 5, 3) := by decide +kernel
theorem dX8_lowest_8 : decode cX8_lowest 8 = .ok (.iconst (-1), 1) := by decide +kernel
theorem dX8_lowest_9 : decode cX8_lowest 9 = .ok (.ireturn, 1) := by decide +kernel
theorem dX8_lowest_10 : decode cX8_lowest 10 = .ok (.aload_n 0, 1) := by decide +kernel
theorem dX8_lowest_11 : decode cX8_lowest 11 = .ok (.iload_n 1, 1) := by decide +kernel
theorem dX8_lowest_12 : decode cX8_lowest 12 = .ok (.invokevirtual 187, 3) := by decide +kernel
theorem dX8_lowest_15 : decode cX8_lowest 15 = .ok (.bipush (-4), 2) := by decide +kernel
theorem dX8_lowest_17 : decode cX8_lowest 17 = .ok (.if_icmp .ne 8, 3) := by decide +kernel
theorem dX8_lowest_20 : decode cX8_lowest 20 = .ok (.bipush (-4), 2) := by decide +kernel
theorem dX8_lowest_22 : decode cX8_lowest 22 = .ok (.goto 8, 3) := by decide +kernel
theorem dX8_lowest_25 : decode cX8_lowest 25 = .ok (.aload_n 0, 1) := by decide +kernel
theorem dX8_lowest_26 : decode cX8_lowest 26 = .ok (.iload_n 1, 1) := by decide +kernel
theorem dX8_lowest_27 : decode cX8_lowest 27 = .ok (.invokevirtual 184, 3) := by decide +kernel
theorem dX8_lowest_30 : decode cX8_lowest 30 = .ok (.ireturn, 1) := by decide +kernel
theorem dX8_under_0 : decode cX8_under 0 = .ok (.aload_n 0, 1) := by decide +kernel
theorem dX8_under_1 : decode cX8_under 1 = .ok (.iload_n 1, 1) := by decide +kernel
theorem dX8_under_2 : decode cX8_under 2 = .ok (.invokevirtual 139, 3) := by decide +kernel
theorem dX8_under_5 : decode cX8_under 5 = .ok (.ifCond .ne 6, 3) := by decide +kernel
theorem dX8_under_8 : decode cX8_under 8 = .ok (.ldc 176, 2) := by decide +kernel
theorem dX8_under_10 : decode cX8_under 10 = .ok (.ireturn, 1) := by decide +kernel
theorem dX8_under_11 : decode cX8_under 11 = .ok (.ldc 176, 2) := by decide +kernel
theorem dX8_under_13 : decode cX8_under 13 = .ok (.istore_n 2, 1) := by decide +kernel
theorem dX8_under_14 : decode cX8_under 14 = .ok (.iconst 0, 1) := by decide +kernel
theorem dX8_under_15 : decode cX8_under 15 = .ok (.istore_n 3, 1) := by decide +kernel
theorem dX8_under_16 : decode cX8_under 16 = .ok (.iload_n 3, 1) := by decide +kernel
theorem dX8_under_17 : decode cX8_under 17 = .ok (.aload_n 0, 1) := by decide +kernel
theorem dX8_under_18 : decode cX8_under 18 = .ok (.getfield 37, 3) := by decide +kernel
theorem dX8_under_21 : decode cX8_under 21 = .ok (.iload_n 1, 1) := by decide +kernel
theorem dX8_under_22 : decode cX8_under 22 = .ok (.iaload, 1) := by decide +kernel
theorem dX8_under_23 : decode cX8_under 23 = .ok (.if_icmp .ge 76, 3) := by decide +kernel
theorem dX8_under_26 : decode cX8_under 26 = .ok (.iconst 0, 1) := by decide +kernel
theorem dX8_under_27 : decode cX8_under 27 = .ok (.istore 4, 2) := by decide +kernel
theorem dX8_under_29 : decode cX8_under 29 = .ok (.iconst 0, 1) := by decide +kernel
theorem dX8_under_30 : decode cX8_under 30 = .ok (.istore 5, 2) := by decide +kernel
theorem dX8_under_32 : decode cX8_under 32 = .ok (.iload 5, 2) := by decide +kernel
theorem dX8_under_34 : decode cX8_under 34 = .ok (.iconst 4, 1) := by decide +kernel
theorem dX8_under_35 : decode cX8_under 35 = .ok (.if_icmp .ge 32, 3) := by decide +kernel
theorem dX8_under_38 : decode cX8_under 38 = .ok (.iload 4, 2) := by decide +kernel
theorem dX8_under_40 : decode cX8_under 40 = .ok (.ifCond .ne 14, 3) := by decide +kernel
theorem dX8_under_43 : decode cX8_under 43 = .ok (.aload_n 0, 1) := by decide +kernel
theorem dX8_under_44 : decode cX8_under 44 = .ok (.iload_n 1, 1) := by decide +kernel
theorem dX8_under_45 : decode cX8_under 45 = .ok (.iload_n 3, 1) := by decide +kernel
theorem dX8_under_46 : decode cX8_under 46 = .ok (.iload 5, 2) := by decide +kernel
theorem dX8_under_48 : decode cX8_under 48 = .ok (.invokevirtual 177, 3) := by decide +kernel
theorem dX8_under_51 : decode cX8_under 51 = .ok (.ifCond .eq 7, 3) := by decide +kernel
theorem dX8_under_54 : decode cX8_under 54 = .ok (.iconst 1, 1) := by decide +kernel
theorem dX8_under_55 : decode cX8_under 55 = .ok (.goto 4, 3) := by decide +kernel
theorem dX8_under_58 : decode cX8_under 58 = .ok (.iconst 0, 1) := by decide +kernel
theorem dX8_under_59 : decode cX8_under 59 = .ok (.istore 4, 2) := by decide +kernel
theorem dX8_under_61 : decode cX8_under 61 = .ok (.iinc 5 1, 3) := by decide +kernel
theorem dX8_under_64 : decode cX8_under 64 = .ok (.goto (-32), 3) := by decide +kernel
theorem dX8_under_67 : decode cX8_under 67 = .ok (.iload 4, 2) := by decide +kernel
theorem dX8_under_69 : decode cX8_under 69 = .ok (.ifCond .eq 22, 3) := by decide +kernel
theorem dX8_under_72 : decode cX8_under 72 = .ok (.aload_n 0, 1) := by decide +kernel
theorem dX8_under_73 : decode cX8_under 73 = .ok (.iload_n 3, 1) := by decide +kernel
theorem dX8_under_74 : decode cX8_under 74 = .ok (.iconst 1, 1) := by decide +kernel
theorem dX8_under_75 : decode cX8_under 75 = .ok (.invokevirtual 170, 3) := by decide +kernel
theorem dX8_under_78 : decode cX8_under 78 = .ok (.iload_n 2, 1) := by decide +kernel
theorem dX8_under_79 : decode cX8_under 79 = .ok (.if_icmp .le 12, 3) := by decide +kernel
theorem dX8_under_82 : decode cX8_under 82 = .ok (.aload_n 0, 1) := by decide +kernel
theorem dX8_under_83 : decode cX8_under 83 = .ok (.iload_n 3, 1) := by decide +kernel
theorem dX8_under_84 : decode cX8_under 84 = .ok (.iconst 1, 1) := by decide +kernel
theorem dX8_under_85 : decode cX8_under 85 = .ok (.invokevirtual 170, 3) := by decide +kernel
theorem dX8_under_88 : decode cX8_under 88 = .ok (.goto 4, 3) := by decide +kernel
theorem dX8_under_91 : decode cX8_under 91 = .ok (.iload_n 2, 1) := by decide +kernel
theorem dX8_under_92 : decode cX8_under 92 = .ok (.istore_n 2, 1) := by decide +kernel
theorem dX8_under_93 : decode cX8_under 93 = .ok (.iinc 3 1, 3) := by decide +kernel
theorem dX8_under_96 : decode cX8_under 96 = .ok (.goto (-80), 3) := by decide +kernel
theorem dX8_under_99 : decode cX8_under 99 = .ok (.aload_n 0, 1) := by decide +kernel
theorem dX8_under_100 : decode cX8_under 100 = .ok (.iload_n 1, 1) := by decide +kernel
theorem dX8_under_101 : decode cX8_under 101 = .ok (.invokevirtual 187, 3) := by decide +kernel
theorem dX8_under_104 : decode cX8_under 104 = .ok (.istore_n 3, 1) := by decide +kernel
theorem dX8_under_105 : decode cX8_under 105 = .ok (.iload_n 3, 1) := by decide +kernel
theorem dX8_under_106 : decode cX8_under 106 = .ok (.bipush (-4), 2) := by decide +kernel
theorem dX8_under_108 : decode cX8_under 108 = .ok (.if_icmp .eq 9, 3) := by decide +kernel
theorem dX8_under_111 : decode cX8_under 111 = .ok (.iload_n 2, 1) := by decide +kernel
theorem dX8_under_112 : decode cX8_under 112 = .ok (.ldc 176, 2) := by decide +kernel
theorem dX8_under_114 : decode cX8_under 114 = .ok (.if_icmp .ne 8, 3) := by decide +kernel
theorem dX8_under_117 : decode cX8_under 117 = .ok (.ldc 190, 2) := by decide +kernel
theorem dX8_under_119 : decode cX8_under 119 = .ok (.goto 11, 3) := by decide +kernel
theorem dX8_under_122 : decode cX8_under 122 = .ok (.iload_n 2, 1) := by decide +kernel
theorem dX8_under_123 : decode cX8_under 123 = .ok (.aload_n 0, 1) := by decide +kernel
theorem dX8_under_124 : decode cX8_under 124 = .ok (.invokevirtual 166, 3) := by decide +kernel
theorem dX8_under_127 : decode cX8_under 127 = .ok (.iload_n 3, 1) := by decide +kernel
theorem dX8_under_128 : decode cX8_under 128 = .ok (.imul, 1) := by decide +kernel
theorem dX8_under_129 : decode cX8_under 129 = .ok (.isub, 1) := by decide +kernel
theorem dX8_under_130 : decode cX8_under 130 = .ok (.ireturn, 1) := by decide +kernel
theorem dX8_overAt_0 : decode cX8_overAt 0 = .ok (.iconst 0, 1) := by decide +kernel
theorem dX8_overAt_1 : decode cX8_overAt 1 = .ok (.istore_n 3, 1) := by decide +kernel
theorem dX8_overAt_2 : decode cX8_overAt 2 = .ok (.aload_n 0, 1) := by decide +kernel
theorem dX8_overAt_3 : decode cX8_overAt 3 = .ok (.iload_n 1, 1) := by decide +kernel
theorem dX8_overAt_4 : decode cX8_overAt 4 = .ok (.iload_n 3, 1) := by decide +kernel
theorem dX8_overAt_5 : decode cX8_overAt 5 = .ok (.iload_n 2, 1) := by decide +kernel
theorem dX8_overAt_6 : decode cX8_overAt 6 = .ok (.iconst 0, 1) := by decide +kernel
theorem dX8_overAt_7 : decode cX8_overAt 7 = .ok (.invokevirtual 173, 3) := by decide +kernel
theorem dX8_overAt_10 : decode cX8_overAt 10 = .ok (.ifCond .ge 9, 3) := by decide +kernel
theorem dX8_overAt_13 : decode cX8_overAt 13 = .ok (.iinc 3 1, 3) := by decide +kernel
theorem dX8_overAt_16 : decode cX8_overAt 16 = .ok (.goto (-14), 3) := by decide +kernel
theorem dX8_overAt_19 : decode cX8_overAt 19 = .ok (.iload_n 3, 1) := by decide +kernel
theorem dX8_overAt_20 : decode cX8_overAt 20 = .ok (.ireturn, 1) := by decide +kernel
theorem dX8_order_0 : decode cX8_order 0 = .ok (.aload_n 0, 1) := by decide +kernel
theorem dX8_order_1 : decode cX8_order 1 = .ok (.iload_n 1, 1) := by decide +kernel
theorem dX8_order_2 : decode cX8_order 2 = .ok (.invokevirtual 139, 3) := by decide +kernel
theorem dX8_order_5 : decode cX8_order 5 = .ok (.ifCond .ne 5, 3) := by decide +kernel
theorem dX8_order_8 : decode cX8_order 8 = .ok (.iconst (-1), 1) := by decide +kernel
theorem dX8_order_9 : decode cX8_order 9 = .ok (.ireturn, 1) := by decide +kernel
theorem dX8_order_10 : decode cX8_order 10 = .ok (.aload_n 0, 1) := by decide +kernel
theorem dX8_order_11 : decode cX8_order 11 = .ok (.iload_n 1, 1) := by decide +kernel
theorem dX8_order_12 : decode cX8_order 12 = .ok (.invokevirtual 181, 3) := by decide +kernel
theorem dX8_order_15 : decode cX8_order 15 = .ok (.ifCond .ne 6, 3) := by decide +kernel
theorem dX8_order_18 : decode cX8_order 18 = .ok (.bipush (-4), 2) := by decide +kernel
theorem dX8_order_20 : decode cX8_order 20 = .ok (.ireturn, 1) := by decide +kernel
theorem dX8_order_21 : decode cX8_order 21 = .ok (.iconst 0, 1) := by decide +kernel
theorem dX8_order_22 : decode cX8_order 22 = .ok (.istore_n 2, 1) := by decide +kernel
theorem dX8_order_23 : decode cX8_order 23 = .ok (.iconst 0, 1) := by decide +kernel
theorem dX8_order_24 : decode cX8_order 24 = .ok (.istore_n 3, 1) := by decide +kernel
theorem dX8_order_25 : decode cX8_order 25 = .ok (.iload_n 3, 1) := by decide +kernel
theorem dX8_order_26 : decode cX8_order 26 = .ok (.aload_n 0, 1) := by decide +kernel
theorem dX8_order_27 : decode cX8_order 27 = .ok (.getfield 37, 3) := by decide +kernel
theorem dX8_order_30 : decode cX8_order 30 = .ok (.iload_n 1, 1) := by decide +kernel
theorem dX8_order_31 : decode cX8_order 31 = .ok (.iaload, 1) := by decide +kernel
theorem dX8_order_32 : decode cX8_order 32 = .ok (.if_icmp .ge 46, 3) := by decide +kernel
theorem dX8_order_35 : decode cX8_order 35 = .ok (.iconst 0, 1) := by decide +kernel
theorem dX8_order_36 : decode cX8_order 36 = .ok (.istore 4, 2) := by decide +kernel
theorem dX8_order_38 : decode cX8_order 38 = .ok (.iload 4, 2) := by decide +kernel
theorem dX8_order_40 : decode cX8_order 40 = .ok (.iconst 4, 1) := by decide +kernel
theorem dX8_order_41 : decode cX8_order 41 = .ok (.if_icmp .ge 31, 3) := by decide +kernel
theorem dX8_order_44 : decode cX8_order 44 = .ok (.aload_n 0, 1) := by decide +kernel
theorem dX8_order_45 : decode cX8_order 45 = .ok (.iload_n 1, 1) := by decide +kernel
theorem dX8_order_46 : decode cX8_order 46 = .ok (.iload 4, 2) := by decide +kernel
theorem dX8_order_48 : decode cX8_order 48 = .ok (.invokevirtual 191, 3) := by decide +kernel
theorem dX8_order_51 : decode cX8_order 51 = .ok (.iload_n 3, 1) := by decide +kernel
theorem dX8_order_52 : decode cX8_order 52 = .ok (.if_icmp .ne 12, 3) := by decide +kernel
theorem dX8_order_55 : decode cX8_order 55 = .ok (.iconst 4, 1) := by decide +kernel
theorem dX8_order_56 : decode cX8_order 56 = .ok (.iload_n 2, 1) := by decide +kernel
theorem dX8_order_57 : decode cX8_order 57 = .ok (.imul, 1) := by decide +kernel
theorem dX8_order_58 : decode cX8_order 58 = .ok (.iload 4, 2) := by decide +kernel
theorem dX8_order_60 : decode cX8_order 60 = .ok (.iadd, 1) := by decide +kernel
theorem dX8_order_61 : decode cX8_order 61 = .ok (.goto 4, 3) := by decide +kernel
theorem dX8_order_64 : decode cX8_order 64 = .ok (.iload_n 2, 1) := by decide +kernel
theorem dX8_order_65 : decode cX8_order 65 = .ok (.istore_n 2, 1) := by decide +kernel
theorem dX8_order_66 : decode cX8_order 66 = .ok (.iinc 4 1, 3) := by decide +kernel
theorem dX8_order_69 : decode cX8_order 69 = .ok (.goto (-31), 3) := by decide +kernel
theorem dX8_order_72 : decode cX8_order 72 = .ok (.iinc 3 1, 3) := by decide +kernel
theorem dX8_order_75 : decode cX8_order 75 = .ok (.goto (-50), 3) := by decide +kernel
theorem dX8_order_78 : decode cX8_order 78 = .ok (.iload_n 2, 1) := by decide +kernel
theorem dX8_order_79 : decode cX8_order 79 = .ok (.ireturn, 1) := by decide +kernel
theorem dX8_size_0 : decode cX8_size 0 = .ok (.iload_n 0, 1) := by decide +kernel
theorem dX8_size_1 : decode cX8_size 1 = .ok (.ifCond .ge 8, 3) := by decide +kernel
theorem dX8_size_4 : decode cX8_size 4 = .ok (.iload_n 0, 1) := by decide +kernel
theorem dX8_size_5 : decode cX8_size 5 = .ok (.ineg, 1) := by decide +kernel
theorem dX8_size_6 : decode cX8_size 6 = .ok (.goto 4, 3) := by decide +kernel
theorem dX8_size_9 : decode cX8_size 9 = .ok (.iload_n 0, 1) := by decide +kernel
theorem dX8_size_10 : decode cX8_size 10 = .ok (.ireturn, 1) := by decide +kernel
theorem dX8_isBent_0 : decode cX8_isBent 0 = .ok (.iconst 0, 1) := by decide +kernel
theorem dX8_isBent_1 : decode cX8_isBent 1 = .ok (.istore_n 2, 1) := by decide +kernel
theorem dX8_isBent_2 : decode cX8_isBent 2 = .ok (.iconst 0, 1) := by decide +kernel
theorem dX8_isBent_3 : decode cX8_isBent 3 = .ok (.istore_n 3, 1) := by decide +kernel
theorem dX8_isBent_4 : decode cX8_isBent 4 = .ok (.iload_n 3, 1) := by decide +kernel
theorem dX8_isBent_5 : decode cX8_isBent 5 = .ok (.aload_n 0, 1) := by decide +kernel
theorem dX8_isBent_6 : decode cX8_isBent 6 = .ok (.getfield 37, 3) := by decide +kernel
theorem dX8_isBent_9 : decode cX8_isBent 9 = .ok (.iload_n 1, 1) := by decide +kernel
theorem dX8_isBent_10 : decode cX8_isBent 10 = .ok (.iaload, 1) := by decide +kernel
theorem dX8_isBent_11 : decode cX8_isBent 11 = .ok (.if_icmp .ge 99, 3) := by decide +kernel
theorem dX8_isBent_14 : decode cX8_isBent 14 = .ok (.iconst 0, 1) := by decide +kernel
theorem dX8_isBent_15 : decode cX8_isBent 15 = .ok (.istore 4, 2) := by decide +kernel
theorem dX8_isBent_17 : decode cX8_isBent 17 = .ok (.iload 4, 2) := by decide +kernel
theorem dX8_isBent_19 : decode cX8_isBent 19 = .ok (.iconst 3, 1) := by decide +kernel
theorem dX8_isBent_20 : decode cX8_isBent 20 = .ok (.if_icmp .ge 84, 3) := by decide +kernel
theorem dX8_isBent_23 : decode cX8_isBent 23 = .ok (.aload_n 0, 1) := by decide +kernel
theorem dX8_isBent_24 : decode cX8_isBent 24 = .ok (.iload_n 1, 1) := by decide +kernel
theorem dX8_isBent_25 : decode cX8_isBent 25 = .ok (.iload_n 3, 1) := by decide +kernel
theorem dX8_isBent_26 : decode cX8_isBent 26 = .ok (.iload 4, 2) := by decide +kernel
theorem dX8_isBent_28 : decode cX8_isBent 28 = .ok (.iconst 0, 1) := by decide +kernel
theorem dX8_isBent_29 : decode cX8_isBent 29 = .ok (.invokevirtual 162, 3) := by decide +kernel
theorem dX8_isBent_32 : decode cX8_isBent 32 = .ok (.aload_n 0, 1) := by decide +kernel
theorem dX8_isBent_33 : decode cX8_isBent 33 = .ok (.iload_n 1, 1) := by decide +kernel
theorem dX8_isBent_34 : decode cX8_isBent 34 = .ok (.iload_n 3, 1) := by decide +kernel
theorem dX8_isBent_35 : decode cX8_isBent 35 = .ok (.iload 4, 2) := by decide +kernel
theorem dX8_isBent_37 : decode cX8_isBent 37 = .ok (.iconst 1, 1) := by decide +kernel
theorem dX8_isBent_38 : decode cX8_isBent 38 = .ok (.iadd, 1) := by decide +kernel
theorem dX8_isBent_39 : decode cX8_isBent 39 = .ok (.iconst 0, 1) := by decide +kernel
theorem dX8_isBent_40 : decode cX8_isBent 40 = .ok (.invokevirtual 162, 3) := by decide +kernel
theorem dX8_isBent_43 : decode cX8_isBent 43 = .ok (.isub, 1) := by decide +kernel
theorem dX8_isBent_44 : decode cX8_isBent 44 = .ok (.invokestatic 194, 3) := by decide +kernel
theorem dX8_isBent_47 : decode cX8_isBent 47 = .ok (.aload_n 0, 1) := by decide +kernel
theorem dX8_isBent_48 : decode cX8_isBent 48 = .ok (.iload_n 1, 1) := by decide +kernel
theorem dX8_isBent_49 : decode cX8_isBent 49 = .ok (.iload_n 3, 1) := by decide +kernel
theorem dX8_isBent_50 : decode cX8_isBent 50 = .ok (.iload 4, 2) := by decide +kernel
theorem dX8_isBent_52 : decode cX8_isBent 52 = .ok (.iconst 1, 1) := by decide +kernel
theorem dX8_isBent_53 : decode cX8_isBent 53 = .ok (.invokevirtual 162, 3) := by decide +kernel
theorem dX8_isBent_56 : decode cX8_isBent 56 = .ok (.aload_n 0, 1) := by decide +kernel
theorem dX8_isBent_57 : decode cX8_isBent 57 = .ok (.iload_n 1, 1) := by decide +kernel
theorem dX8_isBent_58 : decode cX8_isBent 58 = .ok (.iload_n 3, 1) := by decide +kernel
theorem dX8_isBent_59 : decode cX8_isBent 59 = .ok (.iload 4, 2) := by decide +kernel
theorem dX8_isBent_61 : decode cX8_isBent 61 = .ok (.iconst 1, 1) := by decide +kernel
theorem dX8_isBent_62 : decode cX8_isBent 62 = .ok (.iadd, 1) := by decide +kernel
theorem dX8_isBent_63 : decode cX8_isBent 63 = .ok (.iconst 1, 1) := by decide +kernel
theorem dX8_isBent_64 : decode cX8_isBent 64 = .ok (.invokevirtual 162, 3) := by decide +kernel
theorem dX8_isBent_67 : decode cX8_isBent 67 = .ok (.isub, 1) := by decide +kernel
theorem dX8_isBent_68 : decode cX8_isBent 68 = .ok (.invokestatic 194, 3) := by decide +kernel
theorem dX8_isBent_71 : decode cX8_isBent 71 = .ok (.iadd, 1) := by decide +kernel
theorem dX8_isBent_72 : decode cX8_isBent 72 = .ok (.istore 5, 2) := by decide +kernel
theorem dX8_isBent_74 : decode cX8_isBent 74 = .ok (.iload_n 2, 1) := by decide +kernel
theorem dX8_isBent_75 : decode cX8_isBent 75 = .ok (.ifCond .ne 17, 3) := by decide +kernel
theorem dX8_isBent_78 : decode cX8_isBent 78 = .ok (.iload 5, 2) := by decide +kernel
theorem dX8_isBent_80 : decode cX8_isBent 80 = .ok (.aload_n 0, 1) := by decide +kernel
theorem dX8_isBent_81 : decode cX8_isBent 81 = .ok (.getfield 28, 3) := by decide +kernel
theorem dX8_isBent_84 : decode cX8_isBent 84 = .ok (.iconst 4, 1) := by decide +kernel
theorem dX8_isBent_85 : decode cX8_isBent 85 = .ok (.iload 4, 2) := by decide +kernel
theorem dX8_isBent_87 : decode cX8_isBent 87 = .ok (.iadd, 1) := by decide +kernel
theorem dX8_isBent_88 : decode cX8_isBent 88 = .ok (.iaload, 1) := by decide +kernel
theorem dX8_isBent_89 : decode cX8_isBent 89 = .ok (.if_icmp .le 7, 3) := by decide +kernel
theorem dX8_isBent_92 : decode cX8_isBent 92 = .ok (.iconst 1, 1) := by decide +kernel
theorem dX8_isBent_93 : decode cX8_isBent 93 = .ok (.goto 4, 3) := by decide +kernel
theorem dX8_isBent_96 : decode cX8_isBent 96 = .ok (.iconst 0, 1) := by decide +kernel
theorem dX8_isBent_97 : decode cX8_isBent 97 = .ok (.istore_n 2, 1) := by decide +kernel
theorem dX8_isBent_98 : decode cX8_isBent 98 = .ok (.iinc 4 1, 3) := by decide +kernel
theorem dX8_isBent_101 : decode cX8_isBent 101 = .ok (.goto (-84), 3) := by decide +kernel
theorem dX8_isBent_104 : decode cX8_isBent 104 = .ok (.iinc 3 1, 3) := by decide +kernel
theorem dX8_isBent_107 : decode cX8_isBent 107 = .ok (.goto (-103), 3) := by decide +kernel
theorem dX8_isBent_110 : decode cX8_isBent 110 = .ok (.iload_n 2, 1) := by decide +kernel
theorem dX8_isBent_111 : decode cX8_isBent 111 = .ok (.ireturn, 1) := by decide +kernel
theorem dX8_isQuick_0 : decode cX8_isQuick 0 = .ok (.iconst 0, 1) := by decide +kernel
theorem dX8_isQuick_1 : decode cX8_isQuick 1 = .ok (.istore_n 2, 1) := by decide +kernel
theorem dX8_isQuick_2 : decode cX8_isQuick 2 = .ok (.bipush 8, 2) := by decide +kernel
theorem dX8_isQuick_4 : decode cX8_isQuick 4 = .ok (.istore_n 3, 1) := by decide +kernel
theorem dX8_isQuick_5 : decode cX8_isQuick 5 = .ok (.iload_n 3, 1) := by decide +kernel
theorem dX8_isQuick_6 : decode cX8_isQuick 6 = .ok (.bipush 8, 2) := by decide +kernel
theorem dX8_isQuick_8 : decode cX8_isQuick 8 = .ok (.aload_n 0, 1) := by decide +kernel
theorem dX8_isQuick_9 : decode cX8_isQuick 9 = .ok (.getfield 37, 3) := by decide +kernel
theorem dX8_isQuick_12 : decode cX8_isQuick 12 = .ok (.iload_n 1, 1) := by decide +kernel
theorem dX8_isQuick_13 : decode cX8_isQuick 13 = .ok (.iaload, 1) := by decide +kernel
theorem dX8_isQuick_14 : decode cX8_isQuick 14 = .ok (.imul, 1) := by decide +kernel
theorem dX8_isQuick_15 : decode cX8_isQuick 15 = .ok (.if_icmp .ge 58, 3) := by decide +kernel
theorem dX8_isQuick_18 : decode cX8_isQuick 18 = .ok (.iload_n 2, 1) := by decide +kernel
theorem dX8_isQuick_19 : decode cX8_isQuick 19 = .ok (.ifCond .ne 42, 3) := by decide +kernel
theorem dX8_isQuick_22 : decode cX8_isQuick 22 = .ok (.aload_n 0, 1) := by decide +kernel
theorem dX8_isQuick_23 : decode cX8_isQuick 23 = .ok (.getfield 34, 3) := by decide +kernel
theorem dX8_isQuick_26 : decode cX8_isQuick 26 = .ok (.bipush 64, 2) := by decide +kernel
theorem dX8_isQuick_28 : decode cX8_isQuick 28 = .ok (.iload_n 1, 1) := by decide +kernel
theorem dX8_isQuick_29 : decode cX8_isQuick 29 = .ok (.imul, 1) := by decide +kernel
theorem dX8_isQuick_30 : decode cX8_isQuick 30 = .ok (.iload_n 3, 1) := by decide +kernel
theorem dX8_isQuick_31 : decode cX8_isQuick 31 = .ok (.iadd, 1) := by decide +kernel
theorem dX8_isQuick_32 : decode cX8_isQuick 32 = .ok (.iaload, 1) := by decide +kernel
theorem dX8_isQuick_33 : decode cX8_isQuick 33 = .ok (.aload_n 0, 1) := by decide +kernel
theorem dX8_isQuick_34 : decode cX8_isQuick 34 = .ok (.getfield 34, 3) := by decide +kernel
theorem dX8_isQuick_37 : decode cX8_isQuick 37 = .ok (.bipush 64, 2) := by decide +kernel
theorem dX8_isQuick_39 : decode cX8_isQuick 39 = .ok (.iload_n 1, 1) := by decide +kernel
theorem dX8_isQuick_40 : decode cX8_isQuick 40 = .ok (.imul, 1) := by decide +kernel
theorem dX8_isQuick_41 : decode cX8_isQuick 41 = .ok (.iload_n 3, 1) := by decide +kernel
theorem dX8_isQuick_42 : decode cX8_isQuick 42 = .ok (.iadd, 1) := by decide +kernel
theorem dX8_isQuick_43 : decode cX8_isQuick 43 = .ok (.bipush 8, 2) := by decide +kernel
theorem dX8_isQuick_45 : decode cX8_isQuick 45 = .ok (.isub, 1) := by decide +kernel
theorem dX8_isQuick_46 : decode cX8_isQuick 46 = .ok (.iaload, 1) := by decide +kernel
theorem dX8_isQuick_47 : decode cX8_isQuick 47 = .ok (.isub, 1) := by decide +kernel
theorem dX8_isQuick_48 : decode cX8_isQuick 48 = .ok (.invokestatic 194, 3) := by decide +kernel
theorem dX8_isQuick_51 : decode cX8_isQuick 51 = .ok (.aload_n 0, 1) := by decide +kernel
theorem dX8_isQuick_52 : decode cX8_isQuick 52 = .ok (.getfield 28, 3) := by decide +kernel
theorem dX8_isQuick_55 : decode cX8_isQuick 55 = .ok (.bipush 13, 2) := by decide +kernel
theorem dX8_isQuick_57 : decode cX8_isQuick 57 = .ok (.iaload, 1) := by decide +kernel
theorem dX8_isQuick_58 : decode cX8_isQuick 58 = .ok (.if_icmp .le 7, 3) := by decide +kernel
theorem dX8_isQuick_61 : decode cX8_isQuick 61 = .ok (.iconst 1, 1) := by decide +kernel
theorem dX8_isQuick_62 : decode cX8_isQuick 62 = .ok (.goto 4, 3) := by decide +kernel
theorem dX8_isQuick_65 : decode cX8_isQuick 65 = .ok (.iconst 0, 1) := by decide +kernel
theorem dX8_isQuick_66 : decode cX8_isQuick 66 = .ok (.istore_n 2, 1) := by decide +kernel
theorem dX8_isQuick_67 : decode cX8_isQuick 67 = .ok (.iinc 3 1, 3) := by decide +kernel
theorem dX8_isQuick_70 : decode cX8_isQuick 70 = .ok (.goto (-65), 3) := by decide +kernel
theorem dX8_isQuick_73 : decode cX8_isQuick 73 = .ok (.iload_n 2, 1) := by decide +kernel
theorem dX8_isQuick_74 : decode cX8_isQuick 74 = .ok (.ireturn, 1) := by decide +kernel
theorem dX8_landsOn_0 : decode cX8_landsOn 0 = .ok (.iconst 0, 1) := by decide +kernel
theorem dX8_landsOn_1 : decode cX8_landsOn 1 = .ok (.istore_n 2, 1) := by decide +kernel
theorem dX8_landsOn_2 : decode cX8_landsOn 2 = .ok (.iconst 1, 1) := by decide +kernel
theorem dX8_landsOn_3 : decode cX8_landsOn 3 = .ok (.istore_n 3, 1) := by decide +kernel
theorem dX8_landsOn_4 : decode cX8_landsOn 4 = .ok (.iload_n 3, 1) := by decide +kernel
theorem dX8_landsOn_5 : decode cX8_landsOn 5 = .ok (.iconst 4, 1) := by decide +kernel
theorem dX8_landsOn_6 : decode cX8_landsOn 6 = .ok (.if_icmp .ge 48, 3) := by decide +kernel
theorem dX8_landsOn_9 : decode cX8_landsOn 9 = .ok (.aload_n 0, 1) := by decide +kernel
theorem dX8_landsOn_10 : decode cX8_landsOn 10 = .ok (.iload_n 1, 1) := by decide +kernel
theorem dX8_landsOn_11 : decode cX8_landsOn 11 = .ok (.aload_n 0, 1) := by decide +kernel
theorem dX8_landsOn_12 : decode cX8_landsOn 12 = .ok (.getfield 37, 3) := by decide +kernel
theorem dX8_landsOn_15 : decode cX8_landsOn 15 = .ok (.iload_n 1, 1) := by decide +kernel
theorem dX8_landsOn_16 : decode cX8_landsOn 16 = .ok (.iaload, 1) := by decide +kernel
theorem dX8_landsOn_17 : decode cX8_landsOn 17 = .ok (.iconst 1, 1) := by decide +kernel
theorem dX8_landsOn_18 : decode cX8_landsOn 18 = .ok (.isub, 1) := by decide +kernel
theorem dX8_landsOn_19 : decode cX8_landsOn 19 = .ok (.iload_n 3, 1) := by decide +kernel
theorem dX8_landsOn_20 : decode cX8_landsOn 20 = .ok (.iconst 1, 1) := by decide +kernel
theorem dX8_landsOn_21 : decode cX8_landsOn 21 = .ok (.invokevirtual 162, 3) := by decide +kernel
theorem dX8_landsOn_24 : decode cX8_landsOn 24 = .ok (.aload_n 0, 1) := by decide +kernel
theorem dX8_landsOn_25 : decode cX8_landsOn 25 = .ok (.iload_n 1, 1) := by decide +kernel
theorem dX8_landsOn_26 : decode cX8_landsOn 26 = .ok (.aload_n 0, 1) := by decide +kernel
theorem dX8_landsOn_27 : decode cX8_landsOn 27 = .ok (.getfield 37, 3) := by decide +kernel
theorem dX8_landsOn_30 : decode cX8_landsOn 30 = .ok (.iload_n 1, 1) := by decide +kernel
theorem dX8_landsOn_31 : decode cX8_landsOn 31 = .ok (.iaload, 1) := by decide +kernel
theorem dX8_landsOn_32 : decode cX8_landsOn 32 = .ok (.iconst 1, 1) := by decide +kernel
theorem dX8_landsOn_33 : decode cX8_landsOn 33 = .ok (.isub, 1) := by decide +kernel
theorem dX8_landsOn_34 : decode cX8_landsOn 34 = .ok (.iload_n 2, 1) := by decide +kernel
theorem dX8_landsOn_35 : decode cX8_landsOn 35 = .ok (.iconst 1, 1) := by decide +kernel
theorem dX8_landsOn_36 : decode cX8_landsOn 36 = .ok (.invokevirtual 162, 3) := by decide +kernel
theorem dX8_landsOn_39 : decode cX8_landsOn 39 = .ok (.if_icmp .gt 7, 3) := by decide +kernel
theorem dX8_landsOn_42 : decode cX8_landsOn 42 = .ok (.iload_n 3, 1) := by decide +kernel
theorem dX8_landsOn_43 : decode cX8_landsOn 43 = .ok (.goto 4, 3) := by decide +kernel
theorem dX8_landsOn_46 : decode cX8_landsOn 46 = .ok (.iload_n 2, 1) := by decide +kernel
theorem dX8_landsOn_47 : decode cX8_landsOn 47 = .ok (.istore_n 2, 1) := by decide +kernel
theorem dX8_landsOn_48 : decode cX8_landsOn 48 = .ok (.iinc 3 1, 3) := by decide +kernel
theorem dX8_landsOn_51 : decode cX8_landsOn 51 = .ok (.goto (-47), 3) := by decide +kernel
theorem dX8_landsOn_54 : decode cX8_landsOn 54 = .ok (.iload_n 2, 1) := by decide +kernel
theorem dX8_landsOn_55 : decode cX8_landsOn 55 = .ok (.ireturn, 1) := by decide +kernel
theorem dX8_doesBear_0 : decode cX8_doesBear 0 = .ok (.iload_n 0, 1) := by decide +kernel
theorem dX8_doesBear_1 : decode cX8_doesBear 1 = .ok (.iconst 2, 1) := by decide +kernel
theorem dX8_doesBear_2 : decode cX8_doesBear 2 = .ok (.if_icmp .eq 18, 3) := by decide +kernel
theorem dX8_doesBear_5 : decode cX8_doesBear 5 = .ok (.iload_n 1, 1) := by decide +kernel
theorem dX8_doesBear_6 : decode cX8_doesBear 6 = .ok (.iconst 3, 1) := by decide +kernel
theorem dX8_doesBear_7 : decode cX8_doesBear 7 = .ok (.if_icmp .eq 13, 3) := by decide +kernel
theorem dX8_doesBear_10 : decode cX8_doesBear 10 = .ok (.iload_n 0, 1) := by decide +kernel
theorem dX8_doesBear_11 : decode cX8_doesBear 11 = .ok (.iconst 1, 1) := by decide +kernel
theorem dX8_doesBear_12 : decode cX8_doesBear 12 = .ok (.if_icmp .ne 12, 3) := by decide +kernel
theorem dX8_doesBear_15 : decode cX8_doesBear 15 = .ok (.iload_n 1, 1) := by decide +kernel
theorem dX8_doesBear_16 : decode cX8_doesBear 16 = .ok (.iconst 2, 1) := by decide +kernel
theorem dX8_doesBear_17 : decode cX8_doesBear 17 = .ok (.if_icmp .ne 7, 3) := by decide +kernel
theorem dX8_doesBear_20 : decode cX8_doesBear 20 = .ok (.iconst 1, 1) := by decide +kernel
theorem dX8_doesBear_21 : decode cX8_doesBear 21 = .ok (.goto 4, 3) := by decide +kernel
theorem dX8_doesBear_24 : decode cX8_doesBear 24 = .ok (.iconst 0, 1) := by decide +kernel
theorem dX8_doesBear_25 : decode cX8_doesBear 25 = .ok (.ireturn, 1) := by decide +kernel
theorem dX8_barredBy_0 : decode cX8_barredBy 0 = .ok (.aload_n 0, 1) := by decide +kernel
theorem dX8_barredBy_1 : decode cX8_barredBy 1 = .ok (.iload_n 1, 1) := by decide +kernel
theorem dX8_barredBy_2 : decode cX8_barredBy 2 = .ok (.invokevirtual 197, 3) := by decide +kernel
theorem dX8_barredBy_5 : decode cX8_barredBy 5 = .ok (.ifCond .eq 7, 3) := by decide +kernel
theorem dX8_barredBy_8 : decode cX8_barredBy 8 = .ok (.iconst 1, 1) := by decide +kernel
theorem dX8_barredBy_9 : decode cX8_barredBy 9 = .ok (.goto 53, 3) := by decide +kernel
theorem dX8_barredBy_12 : decode cX8_barredBy 12 = .ok (.aload_n 0, 1) := by decide +kernel
theorem dX8_barredBy_13 : decode cX8_barredBy 13 = .ok (.iload_n 1, 1) := by decide +kernel
theorem dX8_barredBy_14 : decode cX8_barredBy 14 = .ok (.invokevirtual 200, 3) := by decide +kernel
theorem dX8_barredBy_17 : decode cX8_barredBy 17 = .ok (.ifCond .eq 7, 3) := by decide +kernel
theorem dX8_barredBy_20 : decode cX8_barredBy 20 = .ok (.iconst 2, 1) := by decide +kernel
theorem dX8_barredBy_21 : decode cX8_barredBy 21 = .ok (.goto 41, 3) := by decide +kernel
theorem dX8_barredBy_24 : decode cX8_barredBy 24 = .ok (.iload_n 2, 1) := by decide +kernel
theorem dX8_barredBy_25 : decode cX8_barredBy 25 = .ok (.aload_n 0, 1) := by decide +kernel
theorem dX8_barredBy_26 : decode cX8_barredBy 26 = .ok (.getfield 28, 3) := by decide +kernel
theorem dX8_barredBy_29 : decode cX8_barredBy 29 = .ok (.bipush 14, 2) := by decide +kernel
theorem dX8_barredBy_31 : decode cX8_barredBy 31 = .ok (.iaload, 1) := by decide +kernel
theorem dX8_barredBy_32 : decode cX8_barredBy 32 = .ok (.if_icmp .le 7, 3) := by decide +kernel
theorem dX8_barredBy_35 : decode cX8_barredBy 35 = .ok (.iconst 3, 1) := by decide +kernel
theorem dX8_barredBy_36 : decode cX8_barredBy 36 = .ok (.goto 26, 3) := by decide +kernel
theorem dX8_barredBy_39 : decode cX8_barredBy 39 = .ok (.aload_n 0, 1) := by decide +kernel
theorem dX8_barredBy_40 : decode cX8_barredBy 40 = .ok (.getfield 28, 3) := by decide +kernel
theorem dX8_barredBy_43 : decode cX8_barredBy 43 = .ok (.bipush 15, 2) := by decide +kernel
theorem dX8_barredBy_45 : decode cX8_barredBy 45 = .ok (.iaload, 1) := by decide +kernel
theorem dX8_barredBy_46 : decode cX8_barredBy 46 = .ok (.aload_n 0, 1) := by decide +kernel
theorem dX8_barredBy_47 : decode cX8_barredBy 47 = .ok (.iload_n 1, 1) := by decide +kernel
theorem dX8_barredBy_48 : decode cX8_barredBy 48 = .ok (.invokevirtual 203, 3) := by decide +kernel
theorem dX8_barredBy_51 : decode cX8_barredBy 51 = .ok (.invokestatic 206, 3) := by decide +kernel
theorem dX8_barredBy_54 : decode cX8_barredBy 54 = .ok (.ifCond .eq 7, 3) := by decide +kernel
theorem dX8_barredBy_57 : decode cX8_barredBy 57 = .ok (.iconst 0, 1) := by decide +kernel
theorem dX8_barredBy_58 : decode cX8_barredBy 58 = .ok (.goto 4, 3) := by decide +kernel
theorem dX8_barredBy_61 : decode cX8_barredBy 61 = .ok (.iconst 4, 1) := by decide +kernel
theorem dX8_barredBy_62 : decode cX8_barredBy 62 = .ok (.ireturn, 1) := by decide +kernel
theorem dX8_barred_0 : decode cX8_barred 0 = .ok (.aload_n 0, 1) := by decide +kernel
theorem dX8_barred_1 : decode cX8_barred 1 = .ok (.iload_n 1, 1) := by decide +kernel
theorem dX8_barred_2 : decode cX8_barred 2 = .ok (.invokevirtual 139, 3) := by decide +kernel
theorem dX8_barred_5 : decode cX8_barred 5 = .ok (.ifCond .eq 17, 3) := by decide +kernel
theorem dX8_barred_8 : decode cX8_barred 8 = .ok (.aload_n 0, 1) := by decide +kernel
theorem dX8_barred_9 : decode cX8_barred 9 = .ok (.iload_n 1, 1) := by decide +kernel
theorem dX8_barred_10 : decode cX8_barred 10 = .ok (.aload_n 0, 1) := by decide +kernel
theorem dX8_barred_11 : decode cX8_barred 11 = .ok (.getfield 40, 3) := by decide +kernel
theorem dX8_barred_14 : decode cX8_barred 14 = .ok (.iload_n 1, 1) := by decide +kernel
theorem dX8_barred_15 : decode cX8_barred 15 = .ok (.iaload, 1) := by decide +kernel
theorem dX8_barred_16 : decode cX8_barred 16 = .ok (.invokevirtual 209, 3) := by decide +kernel
theorem dX8_barred_19 : decode cX8_barred 19 = .ok (.goto 4, 3) := by decide +kernel
theorem dX8_barred_22 : decode cX8_barred 22 = .ok (.iconst (-1), 1) := by decide +kernel
theorem dX8_barred_23 : decode cX8_barred 23 = .ok (.ireturn, 1) := by decide +kernel
theorem dX8_pits_0 : decode cX8_pits 0 = .ok (.aload_n 0, 1) := by decide +kernel
theorem dX8_pits_1 : decode cX8_pits 1 = .ok (.iload_n 1, 1) := by decide +kernel
theorem dX8_pits_2 : decode cX8_pits 2 = .ok (.invokevirtual 139, 3) := by decide +kernel
theorem dX8_pits_5 : decode cX8_pits 5 = .ok (.ifCond .ne 5, 3) := by decide +kernel
theorem dX8_pits_8 : decode cX8_pits 8 = .ok (.iconst (-1), 1) := by decide +kernel
theorem dX8_pits_9 : decode cX8_pits 9 = .ok (.ireturn, 1) := by decide +kernel
theorem dX8_pits_10 : decode cX8_pits 10 = .ok (.iconst 0, 1) := by decide +kernel
theorem dX8_pits_11 : decode cX8_pits 11 = .ok (.istore_n 2, 1) := by decide +kernel
theorem dX8_pits_12 : decode cX8_pits 12 = .ok (.iconst 0, 1) := by decide +kernel
theorem dX8_pits_13 : decode cX8_pits 13 = .ok (.istore_n 3, 1) := by decide +kernel
theorem dX8_pits_14 : decode cX8_pits 14 = .ok (.iload_n 3, 1) := by decide +kernel
theorem dX8_pits_15 : decode cX8_pits 15 = .ok (.iconst 3, 1) := by decide +kernel
theorem dX8_pits_16 : decode cX8_pits 16 = .ok (.if_icmp .ge 31, 3) := by decide +kernel
theorem dX8_pits_19 : decode cX8_pits 19 = .ok (.iload_n 2, 1) := by decide +kernel
theorem dX8_pits_20 : decode cX8_pits 20 = .ok (.iload_n 3, 1) := by decide +kernel
theorem dX8_pits_21 : decode cX8_pits 21 = .ok (.aload_n 0, 1) := by decide +kernel
theorem dX8_pits_22 : decode cX8_pits 22 = .ok (.iload_n 1, 1) := by decide +kernel
theorem dX8_pits_23 : decode cX8_pits 23 = .ok (.invokevirtual 203, 3) := by decide +kernel
theorem dX8_pits_26 : decode cX8_pits 26 = .ok (.invokestatic 206, 3) := by decide +kernel
theorem dX8_pits_29 : decode cX8_pits 29 = .ok (.ifCond .eq 9, 3) := by decide +kernel
theorem dX8_pits_32 : decode cX8_pits 32 = .ok (.iconst 1, 1) := by decide +kernel
theorem dX8_pits_33 : decode cX8_pits 33 = .ok (.iload_n 3, 1) := by decide +kernel
theorem dX8_pits_34 : decode cX8_pits 34 = .ok (.ishl, 1) := by decide +kernel
theorem dX8_pits_35 : decode cX8_pits 35 = .ok (.goto 4, 3) := by decide +kernel
theorem dX8_pits_38 : decode cX8_pits 38 = .ok (.iconst 0, 1) := by decide +kernel
theorem dX8_pits_39 : decode cX8_pits 39 = .ok (.ior, 1) := by decide +kernel
theorem dX8_pits_40 : decode cX8_pits 40 = .ok (.istore_n 2, 1) := by decide +kernel
theorem dX8_pits_41 : decode cX8_pits 41 = .ok (.iinc 3 1, 3) := by decide +kernel
theorem dX8_pits_44 : decode cX8_pits 44 = .ok (.goto (-30), 3) := by decide +kernel
theorem dX8_pits_47 : decode cX8_pits 47 = .ok (.iload_n 2, 1) := by decide +kernel
theorem dX8_pits_48 : decode cX8_pits 48 = .ok (.ireturn, 1) := by decide +kernel
theorem dX8_worthOf_0 : decode cX8_worthOf 0 = .ok (.aload_n 0, 1) := by decide +kernel
theorem dX8_worthOf_1 : decode cX8_worthOf 1 = .ok (.iload_n 1, 1) := by decide +kernel
theorem dX8_worthOf_2 : decode cX8_worthOf 2 = .ok (.iload_n 2, 1) := by decide +kernel
theorem dX8_worthOf_3 : decode cX8_worthOf 3 = .ok (.invokevirtual 209, 3) := by decide +kernel
theorem dX8_worthOf_6 : decode cX8_worthOf 6 = .ok (.ifCond .ne 11, 3) := by decide +kernel
theorem dX8_worthOf_9 : decode cX8_worthOf 9 = .ok (.aload_n 0, 1) := by decide +kernel
theorem dX8_worthOf_10 : decode cX8_worthOf 10 = .ok (.iload_n 1, 1) := by decide +kernel
theorem dX8_worthOf_11 : decode cX8_worthOf 11 = .ok (.invokevirtual 187, 3) := by decide +kernel
theorem dX8_worthOf_14 : decode cX8_worthOf 14 = .ok (.goto 5, 3) := by decide +kernel
theorem dX8_worthOf_17 : decode cX8_worthOf 17 = .ok (.bipush (-4), 2) := by decide +kernel
theorem dX8_worthOf_19 : decode cX8_worthOf 19 = .ok (.istore_n 3, 1) := by decide +kernel
theorem dX8_worthOf_20 : decode cX8_worthOf 20 = .ok (.iload_n 3, 1) := by decide +kernel
theorem dX8_worthOf_21 : decode cX8_worthOf 21 = .ok (.bipush (-4), 2) := by decide +kernel
theorem dX8_worthOf_23 : decode cX8_worthOf 23 = .ok (.if_icmp .ne 7, 3) := by decide +kernel
theorem dX8_worthOf_26 : decode cX8_worthOf 26 = .ok (.iconst (-1), 1) := by decide +kernel
theorem dX8_worthOf_27 : decode cX8_worthOf 27 = .ok (.goto 4, 3) := by decide +kernel
theorem dX8_worthOf_30 : decode cX8_worthOf 30 = .ok (.iload_n 3, 1) := by decide +kernel
theorem dX8_worthOf_31 : decode cX8_worthOf 31 = .ok (.ireturn, 1) := by decide +kernel
theorem dX8_worthOrNone_0 : decode cX8_worthOrNone 0 = .ok (.aload_n 0, 1) := by decide +kernel
theorem dX8_worthOrNone_1 : decode cX8_worthOrNone 1 = .ok (.iload_n 1, 1) := by decide +kernel
theorem dX8_worthOrNone_2 : decode cX8_worthOrNone 2 = .ok (.invokevirtual 139, 3) := by decide +kernel
theorem dX8_worthOrNone_5 : decode cX8_worthOrNone 5 = .ok (.ifCond .eq 17, 3) := by decide +kernel
theorem dX8_worthOrNone_8 : decode cX8_worthOrNone 8 = .ok (.aload_n 0, 1) := by decide +kernel
theorem dX8_worthOrNone_9 : decode cX8_worthOrNone 9 = .ok (.iload_n 1, 1) := by decide +kernel
theorem dX8_worthOrNone_10 : decode cX8_worthOrNone 10 = .ok (.aload_n 0, 1) := by decide +kernel
theorem dX8_worthOrNone_11 : decode cX8_worthOrNone 11 = .ok (.getfield 40, 3) := by decide +kernel
theorem dX8_worthOrNone_14 : decode cX8_worthOrNone 14 = .ok (.iload_n 1, 1) := by decide +kernel
theorem dX8_worthOrNone_15 : decode cX8_worthOrNone 15 = .ok (.iaload, 1) := by decide +kernel
theorem dX8_worthOrNone_16 : decode cX8_worthOrNone 16 = .ok (.invokevirtual 212, 3) := by decide +kernel
theorem dX8_worthOrNone_19 : decode cX8_worthOrNone 19 = .ok (.goto 4, 3) := by decide +kernel
theorem dX8_worthOrNone_22 : decode cX8_worthOrNone 22 = .ok (.iconst (-1), 1) := by decide +kernel
theorem dX8_worthOrNone_23 : decode cX8_worthOrNone 23 = .ok (.ireturn, 1) := by decide +kernel
theorem dX8_changed_0 : decode cX8_changed 0 = .ok (.iload_n 2, 1) := by decide +kernel
theorem dX8_changed_1 : decode cX8_changed 1 = .ok (.iconst 2, 1) := by decide +kernel
theorem dX8_changed_2 : decode cX8_changed 2 = .ok (.idiv, 1) := by decide +kernel
theorem dX8_changed_3 : decode cX8_changed 3 = .ok (.istore_n 3, 1) := by decide +kernel
theorem dX8_changed_4 : decode cX8_changed 4 = .ok (.iload_n 3, 1) := by decide +kernel
theorem dX8_changed_5 : decode cX8_changed 5 = .ok (.bipush 8, 2) := by decide +kernel
theorem dX8_changed_7 : decode cX8_changed 7 = .ok (.aload_n 0, 1) := by decide +kernel
theorem dX8_changed_8 : decode cX8_changed 8 = .ok (.getfield 37, 3) := by decide +kernel
theorem dX8_changed_11 : decode cX8_changed 11 = .ok (.iload_n 1, 1) := by decide +kernel
theorem dX8_changed_12 : decode cX8_changed 12 = .ok (.iaload, 1) := by decide +kernel
theorem dX8_changed_13 : decode cX8_changed 13 = .ok (.imul, 1) := by decide +kernel
theorem dX8_changed_14 : decode cX8_changed 14 = .ok (.if_icmp .ge 29, 3) := by decide +kernel
theorem dX8_changed_17 : decode cX8_changed 17 = .ok (.aload_n 0, 1) := by decide +kernel
theorem dX8_changed_18 : decode cX8_changed 18 = .ok (.getfield 34, 3) := by decide +kernel
theorem dX8_changed_21 : decode cX8_changed 21 = .ok (.bipush 64, 2) := by decide +kernel
theorem dX8_changed_23 : decode cX8_changed 23 = .ok (.iload_n 1, 1) := by decide +kernel
theorem dX8_changed_24 : decode cX8_changed 24 = .ok (.imul, 1) := by decide +kernel
theorem dX8_changed_25 : decode cX8_changed 25 = .ok (.iload_n 3, 1) := by decide +kernel
theorem dX8_changed_26 : decode cX8_changed 26 = .ok (.iadd, 1) := by decide +kernel
theorem dX8_changed_27 : decode cX8_changed 27 = .ok (.iaload, 1) := by decide +kernel
theorem dX8_changed_28 : decode cX8_changed 28 = .ok (.iload_n 2, 1) := by decide +kernel
theorem dX8_changed_29 : decode cX8_changed 29 = .ok (.iconst 2, 1) := by decide +kernel
theorem dX8_changed_30 : decode cX8_changed 30 = .ok (.irem, 1) := by decide +kernel
theorem dX8_changed_31 : decode cX8_changed 31 = .ok (.ifCond .ne 7, 3) := by decide +kernel
theorem dX8_changed_34 : decode cX8_changed 34 = .ok (.iconst 1, 1) := by decide +kernel
theorem dX8_changed_35 : decode cX8_changed 35 = .ok (.goto 4, 3) := by decide +kernel
theorem dX8_changed_38 : decode cX8_changed 38 = .ok (.iconst (-1), 1) := by decide +kernel
theorem dX8_changed_39 : decode cX8_changed 39 = .ok (.iadd, 1) := by decide +kernel
theorem dX8_changed_40 : decode cX8_changed 40 = .ok (.goto 5, 3) := by decide +kernel
theorem dX8_changed_43 : decode cX8_changed 43 = .ok (.bipush 99, 2) := by decide +kernel
theorem dX8_changed_45 : decode cX8_changed 45 = .ok (.istore 4, 2) := by decide +kernel
theorem dX8_changed_47 : decode cX8_changed 47 = .ok (.iload 4, 2) := by decide +kernel
theorem dX8_changed_49 : decode cX8_changed 49 = .ok (.i2l, 1) := by decide +kernel
theorem dX8_changed_50 : decode cX8_changed 50 = .ok (.ldc2_w 158, 3) := by decide +kernel
theorem dX8_changed_53 : decode cX8_changed 53 = .ok (.ldc2_w 160, 3) := by decide +kernel
theorem dX8_changed_56 : decode cX8_changed 56 = .ok (.invokestatic 71, 3) := by decide +kernel
theorem dX8_changed_59 : decode cX8_changed 59 = .ok (.ifCond .eq 12, 3) := by decide +kernel
theorem dX8_changed_62 : decode cX8_changed 62 = .ok (.bipush 64, 2) := by decide +kernel
theorem dX8_changed_64 : decode cX8_changed 64 = .ok (.iload_n 1, 1) := by decide +kernel
theorem dX8_changed_65 : decode cX8_changed 65 = .ok (.imul, 1) := by decide +kernel
theorem dX8_changed_66 : decode cX8_changed 66 = .ok (.iload_n 3, 1) := by decide +kernel
theorem dX8_changed_67 : decode cX8_changed 67 = .ok (.iadd, 1) := by decide +kernel
theorem dX8_changed_68 : decode cX8_changed 68 = .ok (.goto 5, 3) := by decide +kernel
theorem dX8_changed_71 : decode cX8_changed 71 = .ok (.bipush (-4), 2) := by decide +kernel
theorem dX8_changed_73 : decode cX8_changed 73 = .ok (.ireturn, 1) := by decide +kernel
theorem dX8_worthBy_0 : decode cX8_worthBy 0 = .ok (.aload_n 0, 1) := by decide +kernel
theorem dX8_worthBy_1 : decode cX8_worthBy 1 = .ok (.iload_n 1, 1) := by decide +kernel
theorem dX8_worthBy_2 : decode cX8_worthBy 2 = .ok (.iload_n 2, 1) := by decide +kernel
theorem dX8_worthBy_3 : decode cX8_worthBy 3 = .ok (.invokevirtual 215, 3) := by decide +kernel
theorem dX8_worthBy_6 : decode cX8_worthBy 6 = .ok (.istore_n 3, 1) := by decide +kernel
theorem dX8_worthBy_7 : decode cX8_worthBy 7 = .ok (.iload_n 2, 1) := by decide +kernel
theorem dX8_worthBy_8 : decode cX8_worthBy 8 = .ok (.iconst 2, 1) := by decide +kernel
theorem dX8_worthBy_9 : decode cX8_worthBy 9 = .ok (.irem, 1) := by decide +kernel
theorem dX8_worthBy_10 : decode cX8_worthBy 10 = .ok (.ifCond .ne 7, 3) := by decide +kernel
theorem dX8_worthBy_13 : decode cX8_worthBy 13 = .ok (.iconst 1, 1) := by decide +kernel
theorem dX8_worthBy_14 : decode cX8_worthBy 14 = .ok (.goto 4, 3) := by decide +kernel
theorem dX8_worthBy_17 : decode cX8_worthBy 17 = .ok (.iconst (-1), 1) := by decide +kernel
theorem dX8_worthBy_18 : decode cX8_worthBy 18 = .ok (.istore 4, 2) := by decide +kernel
theorem dX8_worthBy_20 : decode cX8_worthBy 20 = .ok (.aload_n 0, 1) := by decide +kernel
theorem dX8_worthBy_21 : decode cX8_worthBy 21 = .ok (.getfield 34, 3) := by decide +kernel
theorem dX8_worthBy_24 : decode cX8_worthBy 24 = .ok (.iload_n 3, 1) := by decide +kernel
theorem dX8_worthBy_25 : decode cX8_worthBy 25 = .ok (.dup2, 1) := by decide +kernel
theorem dX8_worthBy_26 : decode cX8_worthBy 26 = .ok (.iaload, 1) := by decide +kernel
theorem dX8_worthBy_27 : decode cX8_worthBy 27 = .ok (.iload 4, 2) := by decide +kernel
theorem dX8_worthBy_29 : decode cX8_worthBy 29 = .ok (.iadd, 1) := by decide +kernel
theorem dX8_worthBy_30 : decode cX8_worthBy 30 = .ok (.iastore, 1) := by decide +kernel
theorem dX8_worthBy_31 : decode cX8_worthBy 31 = .ok (.aload_n 0, 1) := by decide +kernel
theorem dX8_worthBy_32 : decode cX8_worthBy 32 = .ok (.iload_n 1, 1) := by decide +kernel
theorem dX8_worthBy_33 : decode cX8_worthBy 33 = .ok (.aload_n 0, 1) := by decide +kernel
theorem dX8_worthBy_34 : decode cX8_worthBy 34 = .ok (.getfield 40, 3) := by decide +kernel
theorem dX8_worthBy_37 : decode cX8_worthBy 37 = .ok (.iload_n 1, 1) := by decide +kernel
theorem dX8_worthBy_38 : decode cX8_worthBy 38 = .ok (.iaload, 1) := by decide +kernel
theorem dX8_worthBy_39 : decode cX8_worthBy 39 = .ok (.invokevirtual 212, 3) := by decide +kernel
theorem dX8_worthBy_42 : decode cX8_worthBy 42 = .ok (.istore 5, 2) := by decide +kernel
theorem dX8_worthBy_44 : decode cX8_worthBy 44 = .ok (.aload_n 0, 1) := by decide +kernel
theorem dX8_worthBy_45 : decode cX8_worthBy 45 = .ok (.getfield 34, 3) := by decide +kernel
theorem dX8_worthBy_48 : decode cX8_worthBy 48 = .ok (.iload_n 3, 1) := by decide +kernel
theorem dX8_worthBy_49 : decode cX8_worthBy 49 = .ok (.dup2, 1) := by decide +kernel
theorem dX8_worthBy_50 : decode cX8_worthBy 50 = .ok (.iaload, 1) := by decide +kernel
theorem dX8_worthBy_51 : decode cX8_worthBy 51 = .ok (.iload 4, 2) := by decide +kernel
theorem dX8_worthBy_53 : decode cX8_worthBy 53 = .ok (.isub, 1) := by decide +kernel
theorem dX8_worthBy_54 : decode cX8_worthBy 54 = .ok (.iastore, 1) := by decide +kernel
theorem dX8_worthBy_55 : decode cX8_worthBy 55 = .ok (.iload 5, 2) := by decide +kernel
theorem dX8_worthBy_57 : decode cX8_worthBy 57 = .ok (.ireturn, 1) := by decide +kernel
theorem dX8_worth_0 : decode cX8_worth 0 = .ok (.aload_n 0, 1) := by decide +kernel
theorem dX8_worth_1 : decode cX8_worth 1 = .ok (.iload_n 1, 1) := by decide +kernel
theorem dX8_worth_2 : decode cX8_worth 2 = .ok (.invokevirtual 139, 3) := by decide +kernel
theorem dX8_worth_5 : decode cX8_worth 5 = .ok (.ifCond .eq 17, 3) := by decide +kernel
theorem dX8_worth_8 : decode cX8_worth 8 = .ok (.iload_n 2, 1) := by decide +kernel
theorem dX8_worth_9 : decode cX8_worth 9 = .ok (.i2l, 1) := by decide +kernel
theorem dX8_worth_10 : decode cX8_worth 10 = .ok (.ldc2_w 218, 3) := by decide +kernel
theorem dX8_worth_13 : decode cX8_worth 13 = .ok (.ldc2_w 220, 3) := by decide +kernel
theorem dX8_worth_16 : decode cX8_worth 16 = .ok (.invokestatic 71, 3) := by decide +kernel
theorem dX8_worth_19 : decode cX8_worth 19 = .ok (.ifCond .ne 7, 3) := by decide +kernel
theorem dX8_worth_22 : decode cX8_worth 22 = .ok (.sipush (-1000), 3) := by decide +kernel
theorem dX8_worth_25 : decode cX8_worth 25 = .ok (.ireturn, 1) := by decide +kernel
theorem dX8_worth_26 : decode cX8_worth 26 = .ok (.iload_n 2, 1) := by decide +kernel
theorem dX8_worth_27 : decode cX8_worth 27 = .ok (.ifCond .ge 15, 3) := by decide +kernel
theorem dX8_worth_30 : decode cX8_worth 30 = .ok (.aload_n 0, 1) := by decide +kernel
theorem dX8_worth_31 : decode cX8_worth 31 = .ok (.iload_n 1, 1) := by decide +kernel
theorem dX8_worth_32 : decode cX8_worth 32 = .ok (.aload_n 0, 1) := by decide +kernel
theorem dX8_worth_33 : decode cX8_worth 33 = .ok (.getfield 40, 3) := by decide +kernel
theorem dX8_worth_36 : decode cX8_worth 36 = .ok (.iload_n 1, 1) := by decide +kernel
theorem dX8_worth_37 : decode cX8_worth 37 = .ok (.iaload, 1) := by decide +kernel
theorem dX8_worth_38 : decode cX8_worth 38 = .ok (.invokevirtual 212, 3) := by decide +kernel
theorem dX8_worth_41 : decode cX8_worth 41 = .ok (.ireturn, 1) := by decide +kernel
theorem dX8_worth_42 : decode cX8_worth 42 = .ok (.aload_n 0, 1) := by decide +kernel
theorem dX8_worth_43 : decode cX8_worth 43 = .ok (.iload_n 1, 1) := by decide +kernel
theorem dX8_worth_44 : decode cX8_worth 44 = .ok (.iload_n 2, 1) := by decide +kernel
theorem dX8_worth_45 : decode cX8_worth 45 = .ok (.invokevirtual 215, 3) := by decide +kernel
theorem dX8_worth_48 : decode cX8_worth 48 = .ok (.bipush (-4), 2) := by decide +kernel
theorem dX8_worth_50 : decode cX8_worth 50 = .ok (.if_icmp .ne 9, 3) := by decide +kernel
theorem dX8_worth_53 : decode cX8_worth 53 = .ok (.sipush (-1000), 3) := by decide +kernel
theorem dX8_worth_56 : decode cX8_worth 56 = .ok (.goto 9, 3) := by decide +kernel
theorem dX8_worth_59 : decode cX8_worth 59 = .ok (.aload_n 0, 1) := by decide +kernel
theorem dX8_worth_60 : decode cX8_worth 60 = .ok (.iload_n 1, 1) := by decide +kernel
theorem dX8_worth_61 : decode cX8_worth 61 = .ok (.iload_n 2, 1) := by decide +kernel
theorem dX8_worth_62 : decode cX8_worth 62 = .ok (.invokevirtual 222, 3) := by decide +kernel
theorem dX8_worth_65 : decode cX8_worth 65 = .ok (.ireturn, 1) := by decide +kernel
theorem dX8_betterOf_0 : decode cX8_betterOf 0 = .ok (.bipush (-4), 2) := by decide +kernel
theorem dX8_betterOf_2 : decode cX8_betterOf 2 = .ok (.istore_n 2, 1) := by decide +kernel
theorem dX8_betterOf_3 : decode cX8_betterOf 3 = .ok (.aload_n 0, 1) := by decide +kernel
theorem dX8_betterOf_4 : decode cX8_betterOf 4 = .ok (.iload_n 1, 1) := by decide +kernel
theorem dX8_betterOf_5 : decode cX8_betterOf 5 = .ok (.aload_n 0, 1) := by decide +kernel
theorem dX8_betterOf_6 : decode cX8_betterOf 6 = .ok (.getfield 40, 3) := by decide +kernel
theorem dX8_betterOf_9 : decode cX8_betterOf 9 = .ok (.iload_n 1, 1) := by decide +kernel
theorem dX8_betterOf_10 : decode cX8_betterOf 10 = .ok (.iaload, 1) := by decide +kernel
theorem dX8_betterOf_11 : decode cX8_betterOf 11 = .ok (.invokevirtual 212, 3) := by decide +kernel
theorem dX8_betterOf_14 : decode cX8_betterOf 14 = .ok (.istore_n 3, 1) := by decide +kernel
theorem dX8_betterOf_15 : decode cX8_betterOf 15 = .ok (.iconst 0, 1) := by decide +kernel
theorem dX8_betterOf_16 : decode cX8_betterOf 16 = .ok (.istore 4, 2) := by decide +kernel
theorem dX8_betterOf_18 : decode cX8_betterOf 18 = .ok (.iload 4, 2) := by decide +kernel
theorem dX8_betterOf_20 : decode cX8_betterOf 20 = .ok (.sipush 128, 3) := by decide +kernel
theorem dX8_betterOf_23 : decode cX8_betterOf 23 = .ok (.if_icmp .ge 56, 3) := by decide +kernel
theorem dX8_betterOf_26 : decode cX8_betterOf 26 = .ok (.aload_n 0, 1) := by decide +kernel
theorem dX8_betterOf_27 : decode cX8_betterOf 27 = .ok (.iload_n 1, 1) := by decide +kernel
theorem dX8_betterOf_28 : decode cX8_betterOf 28 = .ok (.iload 4, 2) := by decide +kernel
theorem dX8_betterOf_30 : decode cX8_betterOf 30 = .ok (.invokevirtual 215, 3) := by decide +kernel
theorem dX8_betterOf_33 : decode cX8_betterOf 33 = .ok (.bipush (-4), 2) := by decide +kernel
theorem dX8_betterOf_35 : decode cX8_betterOf 35 = .ok (.if_icmp .eq 38, 3) := by decide +kernel
theorem dX8_betterOf_38 : decode cX8_betterOf 38 = .ok (.aload_n 0, 1) := by decide +kernel
theorem dX8_betterOf_39 : decode cX8_betterOf 39 = .ok (.iload_n 1, 1) := by decide +kernel
theorem dX8_betterOf_40 : decode cX8_betterOf 40 = .ok (.iload 4, 2) := by decide +kernel
theorem dX8_betterOf_42 : decode cX8_betterOf 42 = .ok (.invokevirtual 222, 3) := by decide +kernel
theorem dX8_betterOf_45 : decode cX8_betterOf 45 = .ok (.istore 5, 2) := by decide +kernel
theorem dX8_betterOf_47 : decode cX8_betterOf 47 = .ok (.iload 5, 2) := by decide +kernel
theorem dX8_betterOf_49 : decode cX8_betterOf 49 = .ok (.iload_n 3, 1) := by decide +kernel
theorem dX8_betterOf_50 : decode cX8_betterOf 50 = .ok (.if_icmp .le 8, 3) := by decide +kernel
theorem dX8_betterOf_53 : decode cX8_betterOf 53 = .ok (.iload 4, 2) := by decide +kernel
theorem dX8_betterOf_55 : decode cX8_betterOf 55 = .ok (.goto 4, 3) := by decide +kernel
theorem dX8_betterOf_58 : decode cX8_betterOf 58 = .ok (.iload_n 2, 1) := by decide +kernel
theorem dX8_betterOf_59 : decode cX8_betterOf 59 = .ok (.istore_n 2, 1) := by decide +kernel
theorem dX8_betterOf_60 : decode cX8_betterOf 60 = .ok (.iload 5, 2) := by decide +kernel
theorem dX8_betterOf_62 : decode cX8_betterOf 62 = .ok (.iload_n 3, 1) := by decide +kernel
theorem dX8_betterOf_63 : decode cX8_betterOf 63 = .ok (.if_icmp .le 8, 3) := by decide +kernel
theorem dX8_betterOf_66 : decode cX8_betterOf 66 = .ok (.iload 5, 2) := by decide +kernel
theorem dX8_betterOf_68 : decode cX8_betterOf 68 = .ok (.goto 4, 3) := by decide +kernel
theorem dX8_betterOf_71 : decode cX8_betterOf 71 = .ok (.iload_n 3, 1) := by decide +kernel
theorem dX8_betterOf_72 : decode cX8_betterOf 72 = .ok (.istore_n 3, 1) := by decide +kernel
theorem dX8_betterOf_73 : decode cX8_betterOf 73 = .ok (.iinc 4 1, 3) := by decide +kernel
theorem dX8_betterOf_76 : decode cX8_betterOf 76 = .ok (.goto (-58), 3) := by decide +kernel
theorem dX8_betterOf_79 : decode cX8_betterOf 79 = .ok (.iload_n 2, 1) := by decide +kernel
theorem dX8_betterOf_80 : decode cX8_betterOf 80 = .ok (.ireturn, 1) := by decide +kernel
theorem dX8_better_0 : decode cX8_better 0 = .ok (.aload_n 0, 1) := by decide +kernel
theorem dX8_better_1 : decode cX8_better 1 = .ok (.iload_n 1, 1) := by decide +kernel
theorem dX8_better_2 : decode cX8_better 2 = .ok (.invokevirtual 139, 3) := by decide +kernel
theorem dX8_better_5 : decode cX8_better 5 = .ok (.ifCond .eq 11, 3) := by decide +kernel
theorem dX8_better_8 : decode cX8_better 8 = .ok (.aload_n 0, 1) := by decide +kernel
theorem dX8_better_9 : decode cX8_better 9 = .ok (.iload_n 1, 1) := by decide +kernel
theorem dX8_better_10 : decode cX8_better 10 = .ok (.invokevirtual 225, 3) := by decide +kernel
theorem dX8_better_13 : decode cX8_better 13 = .ok (.goto 4, 3) := by decide +kernel
theorem dX8_better_16 : decode cX8_better 16 = .ok (.iconst (-1), 1) := by decide +kernel
theorem dX8_better_17 : decode cX8_better 17 = .ok (.ireturn, 1) := by decide +kernel
theorem dX8_climb_0 : decode cX8_climb 0 = .ok (.aload_n 0, 1) := by decide +kernel
theorem dX8_climb_1 : decode cX8_climb 1 = .ok (.iload_n 1, 1) := by decide +kernel
theorem dX8_climb_2 : decode cX8_climb 2 = .ok (.invokevirtual 139, 3) := by decide +kernel
theorem dX8_climb_5 : decode cX8_climb 5 = .ok (.ifCond .eq 15, 3) := by decide +kernel
theorem dX8_climb_8 : decode cX8_climb 8 = .ok (.iload_n 2, 1) := by decide +kernel
theorem dX8_climb_9 : decode cX8_climb 9 = .ok (.i2l, 1) := by decide +kernel
theorem dX8_climb_10 : decode cX8_climb 10 = .ok (.lconst 1, 1) := by decide +kernel
theorem dX8_climb_11 : decode cX8_climb 11 = .ok (.ldc2_w 228, 3) := by decide +kernel
theorem dX8_climb_14 : decode cX8_climb 14 = .ok (.invokestatic 71, 3) := by decide +kernel
theorem dX8_climb_17 : decode cX8_climb 17 = .ok (.ifCond .ne 5, 3) := by decide +kernel
theorem dX8_climb_20 : decode cX8_climb 20 = .ok (.iconst (-1), 1) := by decide +kernel
theorem dX8_climb_21 : decode cX8_climb 21 = .ok (.ireturn, 1) := by decide +kernel
theorem dX8_climb_22 : decode cX8_climb 22 = .ok (.iconst 0, 1) := by decide +kernel
theorem dX8_climb_23 : decode cX8_climb 23 = .ok (.istore_n 3, 1) := by decide +kernel
theorem dX8_climb_24 : decode cX8_climb 24 = .ok (.iload_n 3, 1) := by decide +kernel
theorem dX8_climb_25 : decode cX8_climb 25 = .ok (.iload_n 2, 1) := by decide +kernel
theorem dX8_climb_26 : decode cX8_climb 26 = .ok (.if_icmp .ge 52, 3) := by decide +kernel
theorem dX8_climb_29 : decode cX8_climb 29 = .ok (.aload_n 0, 1) := by decide +kernel
theorem dX8_climb_30 : decode cX8_climb 30 = .ok (.iload_n 1, 1) := by decide +kernel
theorem dX8_climb_31 : decode cX8_climb 31 = .ok (.invokevirtual 225, 3) := by decide +kernel
theorem dX8_climb_34 : decode cX8_climb 34 = .ok (.istore 4, 2) := by decide +kernel
theorem dX8_climb_36 : decode cX8_climb 36 = .ok (.iload 4, 2) := by decide +kernel
theorem dX8_climb_38 : decode cX8_climb 38 = .ok (.bipush (-4), 2) := by decide +kernel
theorem dX8_climb_40 : decode cX8_climb 40 = .ok (.if_icmp .ne 5, 3) := by decide +kernel
theorem dX8_climb_43 : decode cX8_climb 43 = .ok (.iload_n 3, 1) := by decide +kernel
theorem dX8_climb_44 : decode cX8_climb 44 = .ok (.ireturn, 1) := by decide +kernel
theorem dX8_climb_45 : decode cX8_climb 45 = .ok (.aload_n 0, 1) := by decide +kernel
theorem dX8_climb_46 : decode cX8_climb 46 = .ok (.getfield 34, 3) := by decide +kernel
theorem dX8_climb_49 : decode cX8_climb 49 = .ok (.aload_n 0, 1) := by decide +kernel
theorem dX8_climb_50 : decode cX8_climb 50 = .ok (.iload_n 1, 1) := by decide +kernel
theorem dX8_climb_51 : decode cX8_climb 51 = .ok (.iload 4, 2) := by decide +kernel
theorem dX8_climb_53 : decode cX8_climb 53 = .ok (.invokevirtual 215, 3) := by decide +kernel
theorem dX8_climb_56 : decode cX8_climb 56 = .ok (.dup2, 1) := by decide +kernel
theorem dX8_climb_57 : decode cX8_climb 57 = .ok (.iaload, 1) := by decide +kernel
theorem dX8_climb_58 : decode cX8_climb 58 = .ok (.iload 4, 2) := by decide +kernel
theorem dX8_climb_60 : decode cX8_climb 60 = .ok (.iconst 2, 1) := by decide +kernel
theorem dX8_climb_61 : decode cX8_climb 61 = .ok (.irem, 1) := by decide +kernel
theorem dX8_climb_62 : decode cX8_climb 62 = .ok (.ifCond .ne 7, 3) := by decide +kernel
theorem dX8_climb_65 : decode cX8_climb 65 = .ok (.iconst 1, 1) := by decide +kernel
theorem dX8_climb_66 : decode cX8_climb 66 = .ok (.goto 4, 3) := by decide +kernel
theorem dX8_climb_69 : decode cX8_climb 69 = .ok (.iconst (-1), 1) := by decide +kernel
theorem dX8_climb_70 : decode cX8_climb 70 = .ok (.iadd, 1) := by decide +kernel
theorem dX8_climb_71 : decode cX8_climb 71 = .ok (.iastore, 1) := by decide +kernel
theorem dX8_climb_72 : decode cX8_climb 72 = .ok (.iinc 3 1, 3) := by decide +kernel
theorem dX8_climb_75 : decode cX8_climb 75 = .ok (.goto (-51), 3) := by decide +kernel
theorem dX8_climb_78 : decode cX8_climb 78 = .ok (.iload_n 2, 1) := by decide +kernel
theorem dX8_climb_79 : decode cX8_climb 79 = .ok (.ireturn, 1) := by decide +kernel
theorem dX8_around_0 : decode cX8_around 0 = .ok (.aload_n 0, 1) := by decide +kernel
theorem dX8_around_1 : decode cX8_around 1 = .ok (.iload_n 1, 1) := by decide +kernel
theorem dX8_around_2 : decode cX8_around 2 = .ok (.invokevirtual 139, 3) := by decide +kernel
theorem dX8_around_5 : decode cX8_around 5 = .ok (.ifCond .eq 15, 3) := by decide +kernel
theorem dX8_around_8 : decode cX8_around 8 = .ok (.iload_n 2, 1) := by decide +kernel
theorem dX8_around_9 : decode cX8_around 9 = .ok (.i2l, 1) := by decide +kernel
theorem dX8_around_10 : decode cX8_around 10 = .ok (.lconst 0, 1) := by decide +kernel
theorem dX8_around_11 : decode cX8_around 11 = .ok (.ldc2_w 144, 3) := by decide +kernel
theorem dX8_around_14 : decode cX8_around 14 = .ok (.invokestatic 71, 3) := by decide +kernel
theorem dX8_around_17 : decode cX8_around 17 = .ok (.ifCond .ne 5, 3) := by decide +kernel
theorem dX8_around_20 : decode cX8_around 20 = .ok (.iconst (-1), 1) := by decide +kernel
theorem dX8_around_21 : decode cX8_around 21 = .ok (.ireturn, 1) := by decide +kernel
theorem dX8_around_22 : decode cX8_around 22 = .ok (.aload_n 0, 1) := by decide +kernel
theorem dX8_around_23 : decode cX8_around 23 = .ok (.iload_n 1, 1) := by decide +kernel
theorem dX8_around_24 : decode cX8_around 24 = .ok (.aload_n 0, 1) := by decide +kernel
theorem dX8_around_25 : decode cX8_around 25 = .ok (.getfield 40, 3) := by decide +kernel
theorem dX8_around_28 : decode cX8_around 28 = .ok (.iload_n 1, 1) := by decide +kernel
theorem dX8_around_29 : decode cX8_around 29 = .ok (.iaload, 1) := by decide +kernel
theorem dX8_around_30 : decode cX8_around 30 = .ok (.invokevirtual 212, 3) := by decide +kernel
theorem dX8_around_33 : decode cX8_around 33 = .ok (.istore_n 3, 1) := by decide +kernel
theorem dX8_around_34 : decode cX8_around 34 = .ok (.iconst 0, 1) := by decide +kernel
theorem dX8_around_35 : decode cX8_around 35 = .ok (.istore 4, 2) := by decide +kernel
theorem dX8_around_37 : decode cX8_around 37 = .ok (.iconst 0, 1) := by decide +kernel
theorem dX8_around_38 : decode cX8_around 38 = .ok (.istore 5, 2) := by decide +kernel
theorem dX8_around_40 : decode cX8_around 40 = .ok (.iload 5, 2) := by decide +kernel
theorem dX8_around_42 : decode cX8_around 42 = .ok (.sipush 128, 3) := by decide +kernel
theorem dX8_around_45 : decode cX8_around 45 = .ok (.if_icmp .ge 73, 3) := by decide +kernel
theorem dX8_around_48 : decode cX8_around 48 = .ok (.aload_n 0, 1) := by decide +kernel
theorem dX8_around_49 : decode cX8_around 49 = .ok (.iload_n 1, 1) := by decide +kernel
theorem dX8_around_50 : decode cX8_around 50 = .ok (.iload 5, 2) := by decide +kernel
theorem dX8_around_52 : decode cX8_around 52 = .ok (.invokevirtual 215, 3) := by decide +kernel
theorem dX8_around_55 : decode cX8_around 55 = .ok (.bipush (-4), 2) := by decide +kernel
theorem dX8_around_57 : decode cX8_around 57 = .ok (.if_icmp .eq 55, 3) := by decide +kernel
theorem dX8_around_60 : decode cX8_around 60 = .ok (.aload_n 0, 1) := by decide +kernel
theorem dX8_around_61 : decode cX8_around 61 = .ok (.iload_n 1, 1) := by decide +kernel
theorem dX8_around_62 : decode cX8_around 62 = .ok (.iload 5, 2) := by decide +kernel
theorem dX8_around_64 : decode cX8_around 64 = .ok (.invokevirtual 222, 3) := by decide +kernel
theorem dX8_around_67 : decode cX8_around 67 = .ok (.istore 6, 2) := by decide +kernel
theorem dX8_around_69 : decode cX8_around 69 = .ok (.iload 4, 2) := by decide +kernel
theorem dX8_around_71 : decode cX8_around 71 = .ok (.iload_n 2, 1) := by decide +kernel
theorem dX8_around_72 : decode cX8_around 72 = .ok (.ifCond .ne 12, 3) := by decide +kernel
theorem dX8_around_75 : decode cX8_around 75 = .ok (.iload 6, 2) := by decide +kernel
theorem dX8_around_77 : decode cX8_around 77 = .ok (.iload_n 3, 1) := by decide +kernel
theorem dX8_around_78 : decode cX8_around 78 = .ok (.if_icmp .ne 30, 3) := by decide +kernel
theorem dX8_around_81 : decode cX8_around 81 = .ok (.goto 23, 3) := by decide +kernel
theorem dX8_around_84 : decode cX8_around 84 = .ok (.iload_n 2, 1) := by decide +kernel
theorem dX8_around_85 : decode cX8_around 85 = .ok (.iconst 1, 1) := by decide +kernel
theorem dX8_around_86 : decode cX8_around 86 = .ok (.if_icmp .ne 12, 3) := by decide +kernel
theorem dX8_around_89 : decode cX8_around 89 = .ok (.iload 6, 2) := by decide +kernel
theorem dX8_around_91 : decode cX8_around 91 = .ok (.iload_n 3, 1) := by decide +kernel
theorem dX8_around_92 : decode cX8_around 92 = .ok (.if_icmp .ge 16, 3) := by decide +kernel
theorem dX8_around_95 : decode cX8_around 95 = .ok (.goto 9, 3) := by decide +kernel
theorem dX8_around_98 : decode cX8_around 98 = .ok (.iload 6, 2) := by decide +kernel
theorem dX8_around_100 : decode cX8_around 100 = .ok (.iload_n 3, 1) := by decide +kernel
theorem dX8_around_101 : decode cX8_around 101 = .ok (.if_icmp .le 7, 3) := by decide +kernel
theorem dX8_around_104 : decode cX8_around 104 = .ok (.iconst 1, 1) := by decide +kernel
theorem dX8_around_105 : decode cX8_around 105 = .ok (.goto 4, 3) := by decide +kernel
theorem dX8_around_108 : decode cX8_around 108 = .ok (.iconst 0, 1) := by decide +kernel
theorem dX8_around_109 : decode cX8_around 109 = .ok (.iadd, 1) := by decide +kernel
theorem dX8_around_110 : decode cX8_around 110 = .ok (.istore 4, 2) := by decide +kernel
theorem dX8_around_112 : decode cX8_around 112 = .ok (.iinc 5 1, 3) := by decide +kernel
theorem dX8_around_115 : decode cX8_around 115 = .ok (.goto (-75), 3) := by decide +kernel
theorem dX8_around_118 : decode cX8_around 118 = .ok (.iload 4, 2) := by decide +kernel
theorem dX8_around_120 : decode cX8_around 120 = .ok (.ireturn, 1) := by decide +kernel
theorem dX8_valley_0 : decode cX8_valley 0 = .ok (.aload_n 0, 1) := by decide +kernel
theorem dX8_valley_1 : decode cX8_valley 1 = .ok (.iload_n 1, 1) := by decide +kernel
theorem dX8_valley_2 : decode cX8_valley 2 = .ok (.invokevirtual 139, 3) := by decide +kernel
theorem dX8_valley_5 : decode cX8_valley 5 = .ok (.ifCond .eq 21, 3) := by decide +kernel
theorem dX8_valley_8 : decode cX8_valley 8 = .ok (.aload_n 0, 1) := by decide +kernel
theorem dX8_valley_9 : decode cX8_valley 9 = .ok (.iload_n 2, 1) := by decide +kernel
theorem dX8_valley_10 : decode cX8_valley 10 = .ok (.invokevirtual 139, 3) := by decide +kernel
theorem dX8_valley_13 : decode cX8_valley 13 = .ok (.ifCond .eq 13, 3) := by decide +kernel
theorem dX8_valley_16 : decode cX8_valley 16 = .ok (.iload_n 3, 1) := by decide +kernel
theorem dX8_valley_17 : decode cX8_valley 17 = .ok (.i2l, 1) := by decide +kernel
theorem dX8_valley_18 : decode cX8_valley 18 = .ok (.lconst 0, 1) := by decide +kernel
theorem dX8_valley_19 : decode cX8_valley 19 = .ok (.lconst 1, 1) := by decide +kernel
theorem dX8_valley_20 : decode cX8_valley 20 = .ok (.invokestatic 71, 3) := by decide +kernel
theorem dX8_valley_23 : decode cX8_valley 23 = .ok (.ifCond .ne 5, 3) := by decide +kernel
theorem dX8_valley_26 : decode cX8_valley 26 = .ok (.iconst (-1), 1) := by decide +kernel
theorem dX8_valley_27 : decode cX8_valley 27 = .ok (.ireturn, 1) := by decide +kernel
theorem dX8_valley_28 : decode cX8_valley 28 = .ok (.aload_n 0, 1) := by decide +kernel
theorem dX8_valley_29 : decode cX8_valley 29 = .ok (.getfield 37, 3) := by decide +kernel
theorem dX8_valley_32 : decode cX8_valley 32 = .ok (.iload_n 1, 1) := by decide +kernel
theorem dX8_valley_33 : decode cX8_valley 33 = .ok (.iaload, 1) := by decide +kernel
theorem dX8_valley_34 : decode cX8_valley 34 = .ok (.aload_n 0, 1) := by decide +kernel
theorem dX8_valley_35 : decode cX8_valley 35 = .ok (.getfield 37, 3) := by decide +kernel
theorem dX8_valley_38 : decode cX8_valley 38 = .ok (.iload_n 2, 1) := by decide +kernel
theorem dX8_valley_39 : decode cX8_valley 39 = .ok (.iaload, 1) := by decide +kernel
theorem dX8_valley_40 : decode cX8_valley 40 = .ok (.if_icmp .eq 6, 3) := by decide +kernel
theorem dX8_valley_43 : decode cX8_valley 43 = .ok (.bipush (-2), 2) := by decide +kernel
theorem dX8_valley_45 : decode cX8_valley 45 = .ok (.ireturn, 1) := by decide +kernel
theorem dX8_valley_46 : decode cX8_valley 46 = .ok (.aload_n 0, 1) := by decide +kernel
theorem dX8_valley_47 : decode cX8_valley 47 = .ok (.iload_n 1, 1) := by decide +kernel
theorem dX8_valley_48 : decode cX8_valley 48 = .ok (.aload_n 0, 1) := by decide +kernel
theorem dX8_valley_49 : decode cX8_valley 49 = .ok (.getfield 40, 3) := by decide +kernel
theorem dX8_valley_52 : decode cX8_valley 52 = .ok (.iload_n 1, 1) := by decide +kernel
theorem dX8_valley_53 : decode cX8_valley 53 = .ok (.iaload, 1) := by decide +kernel
theorem dX8_valley_54 : decode cX8_valley 54 = .ok (.invokevirtual 212, 3) := by decide +kernel
theorem dX8_valley_57 : decode cX8_valley 57 = .ok (.istore 4, 2) := by decide +kernel
theorem dX8_valley_59 : decode cX8_valley 59 = .ok (.iconst 0, 1) := by decide +kernel
theorem dX8_valley_60 : decode cX8_valley 60 = .ok (.istore 5, 2) := by decide +kernel
theorem dX8_valley_62 : decode cX8_valley 62 = .ok (.iconst 0, 1) := by decide +kernel
theorem dX8_valley_63 : decode cX8_valley 63 = .ok (.istore 6, 2) := by decide +kernel
theorem dX8_valley_65 : decode cX8_valley 65 = .ok (.iload 6, 2) := by decide +kernel
theorem dX8_valley_67 : decode cX8_valley 67 = .ok (.bipush 64, 2) := by decide +kernel
theorem dX8_valley_69 : decode cX8_valley 69 = .ok (.if_icmp .ge 28, 3) := by decide +kernel
theorem dX8_valley_72 : decode cX8_valley 72 = .ok (.aload_n 0, 1) := by decide +kernel
theorem dX8_valley_73 : decode cX8_valley 73 = .ok (.getfield 43, 3) := by decide +kernel
theorem dX8_valley_76 : decode cX8_valley 76 = .ok (.iload 6, 2) := by decide +kernel
theorem dX8_valley_78 : decode cX8_valley 78 = .ok (.aload_n 0, 1) := by decide +kernel
theorem dX8_valley_79 : decode cX8_valley 79 = .ok (.getfield 34, 3) := by decide +kernel
theorem dX8_valley_82 : decode cX8_valley 82 = .ok (.bipush 64, 2) := by decide +kernel
theorem dX8_valley_84 : decode cX8_valley 84 = .ok (.iload_n 1, 1) := by decide +kernel
theorem dX8_valley_85 : decode cX8_valley 85 = .ok (.imul, 1) := by decide +kernel
theorem dX8_valley_86 : decode cX8_valley 86 = .ok (.iload 6, 2) := by decide +kernel
theorem dX8_valley_88 : decode cX8_valley 88 = .ok (.iadd, 1) := by decide +kernel
theorem dX8_valley_89 : decode cX8_valley 89 = .ok (.iaload, 1) := by decide +kernel
theorem dX8_valley_90 : decode cX8_valley 90 = .ok (.iastore, 1) := by decide +kernel
theorem dX8_valley_91 : decode cX8_valley 91 = .ok (.iinc 6 1, 3) := by decide +kernel
theorem dX8_valley_94 : decode cX8_valley 94 = .ok (.goto (-29), 3) := by decide +kernel
theorem dX8_valley_97 : decode cX8_valley 97 = .ok (.iconst 0, 1) := by decide +kernel
theorem dX8_valley_98 : decode cX8_valley 98 = .ok (.istore 6, 2) := by decide +kernel
theorem dX8_valley_100 : decode cX8_valley 100 = .ok (.iload 6, 2) := by decide +kernel
theorem dX8_valley_102 : decode cX8_valley 102 = .ok (.bipush 8, 2) := by decide +kernel
theorem dX8_valley_104 : decode cX8_valley 104 = .ok (.aload_n 0, 1) := by decide +kernel
theorem dX8_valley_105 : decode cX8_valley 105 = .ok (.getfield 37, 3) := by decide +kernel
theorem dX8_valley_108 : decode cX8_valley 108 = .ok (.iload_n 1, 1) := by decide +kernel
theorem dX8_valley_109 : decode cX8_valley 109 = .ok (.iaload, 1) := by decide +kernel
theorem dX8_valley_110 : decode cX8_valley 110 = .ok (.imul, 1) := by decide +kernel
theorem dX8_valley_111 : decode cX8_valley 111 = .ok (.if_icmp .ge 86, 3) := by decide +kernel
theorem dX8_valley_114 : decode cX8_valley 114 = .ok (.aload_n 0, 1) := by decide +kernel
theorem dX8_valley_115 : decode cX8_valley 115 = .ok (.getfield 34, 3) := by decide +kernel
theorem dX8_valley_118 : decode cX8_valley 118 = .ok (.bipush 64, 2) := by decide +kernel
theorem dX8_valley_120 : decode cX8_valley 120 = .ok (.iload_n 2, 1) := by decide +kernel
theorem dX8_valley_121 : decode cX8_valley 121 = .ok (.imul, 1) := by decide +kernel
theorem dX8_valley_122 : decode cX8_valley 122 = .ok (.iload 6, 2) := by decide +kernel
theorem dX8_valley_124 : decode cX8_valley 124 = .ok (.iadd, 1) := by decide +kernel
theorem dX8_valley_125 : decode cX8_valley 125 = .ok (.iaload, 1) := by decide +kernel
theorem dX8_valley_126 : decode cX8_valley 126 = .ok (.istore 7, 2) := by decide +kernel
theorem dX8_valley_128 : decode cX8_valley 128 = .ok (.aload_n 0, 1) := by decide +kernel
theorem dX8_valley_129 : decode cX8_valley 129 = .ok (.getfield 34, 3) := by decide +kernel
theorem dX8_valley_132 : decode cX8_valley 132 = .ok (.bipush 64, 2) := by decide +kernel
theorem dX8_valley_134 : decode cX8_valley 134 = .ok (.iload_n 1, 1) := by decide +kernel
theorem dX8_valley_135 : decode cX8_valley 135 = .ok (.imul, 1) := by decide +kernel
theorem dX8_valley_136 : decode cX8_valley 136 = .ok (.iload 6, 2) := by decide +kernel
theorem dX8_valley_138 : decode cX8_valley 138 = .ok (.iadd, 1) := by decide +kernel
theorem dX8_valley_139 : decode cX8_valley 139 = .ok (.iaload, 1) := by decide +kernel
theorem dX8_valley_140 : decode cX8_valley 140 = .ok (.iload 7, 2) := by decide +kernel
theorem dX8_valley_142 : decode cX8_valley 142 = .ok (.if_icmp .eq 49, 3) := by decide +kernel
theorem dX8_valley_145 : decode cX8_valley 145 = .ok (.aload_n 0, 1) := by decide +kernel
theorem dX8_valley_146 : decode cX8_valley 146 = .ok (.getfield 34, 3) := by decide +kernel
theorem dX8_valley_149 : decode cX8_valley 149 = .ok (.bipush 64, 2) := by decide +kernel
theorem dX8_valley_151 : decode cX8_valley 151 = .ok (.iload_n 1, 1) := by decide +kernel
theorem dX8_valley_152 : decode cX8_valley 152 = .ok (.imul, 1) := by decide +kernel
theorem dX8_valley_153 : decode cX8_valley 153 = .ok (.iload 6, 2) := by decide +kernel
theorem dX8_valley_155 : decode cX8_valley 155 = .ok (.iadd, 1) := by decide +kernel
theorem dX8_valley_156 : decode cX8_valley 156 = .ok (.iload 7, 2) := by decide +kernel
theorem dX8_valley_158 : decode cX8_valley 158 = .ok (.iastore, 1) := by decide +kernel
theorem dX8_valley_159 : decode cX8_valley 159 = .ok (.iinc 5 1, 3) := by decide +kernel
theorem dX8_valley_162 : decode cX8_valley 162 = .ok (.aload_n 0, 1) := by decide +kernel
theorem dX8_valley_163 : decode cX8_valley 163 = .ok (.iload_n 1, 1) := by decide +kernel
theorem dX8_valley_164 : decode cX8_valley 164 = .ok (.aload_n 0, 1) := by decide +kernel
theorem dX8_valley_165 : decode cX8_valley 165 = .ok (.getfield 40, 3) := by decide +kernel
theorem dX8_valley_168 : decode cX8_valley 168 = .ok (.iload_n 1, 1) := by decide +kernel
theorem dX8_valley_169 : decode cX8_valley 169 = .ok (.iaload, 1) := by decide +kernel
theorem dX8_valley_170 : decode cX8_valley 170 = .ok (.invokevirtual 212, 3) := by decide +kernel
theorem dX8_valley_173 : decode cX8_valley 173 = .ok (.istore 8, 2) := by decide +kernel
theorem dX8_valley_175 : decode cX8_valley 175 = .ok (.iload 8, 2) := by decide +kernel
theorem dX8_valley_177 : decode cX8_valley 177 = .ok (.iload 4, 2) := by decide +kernel
theorem dX8_valley_179 : decode cX8_valley 179 = .ok (.if_icmp .ge 8, 3) := by decide +kernel
theorem dX8_valley_182 : decode cX8_valley 182 = .ok (.iload 8, 2) := by decide +kernel
theorem dX8_valley_184 : decode cX8_valley 184 = .ok (.goto 5, 3) := by decide +kernel
theorem dX8_valley_187 : decode cX8_valley 187 = .ok (.iload 4, 2) := by decide +kernel
theorem dX8_valley_189 : decode cX8_valley 189 = .ok (.istore 4, 2) := by decide +kernel
theorem dX8_valley_191 : decode cX8_valley 191 = .ok (.iinc 6 1, 3) := by decide +kernel
theorem dX8_valley_194 : decode cX8_valley 194 = .ok (.goto (-94), 3) := by decide +kernel
theorem dX8_valley_197 : decode cX8_valley 197 = .ok (.iconst 0, 1) := by decide +kernel
theorem dX8_valley_198 : decode cX8_valley 198 = .ok (.istore 6, 2) := by decide +kernel
theorem dX8_valley_200 : decode cX8_valley 200 = .ok (.iload 6, 2) := by decide +kernel
theorem dX8_valley_202 : decode cX8_valley 202 = .ok (.bipush 64, 2) := by decide +kernel
theorem dX8_valley_204 : decode cX8_valley 204 = .ok (.if_icmp .ge 28, 3) := by decide +kernel
theorem dX8_valley_207 : decode cX8_valley 207 = .ok (.aload_n 0, 1) := by decide +kernel
theorem dX8_valley_208 : decode cX8_valley 208 = .ok (.getfield 34, 3) := by decide +kernel
theorem dX8_valley_211 : decode cX8_valley 211 = .ok (.bipush 64, 2) := by decide +kernel
theorem dX8_valley_213 : decode cX8_valley 213 = .ok (.iload_n 1, 1) := by decide +kernel
theorem dX8_valley_214 : decode cX8_valley 214 = .ok (.imul, 1) := by decide +kernel
theorem dX8_valley_215 : decode cX8_valley 215 = .ok (.iload 6, 2) := by decide +kernel
theorem dX8_valley_217 : decode cX8_valley 217 = .ok (.iadd, 1) := by decide +kernel
theorem dX8_valley_218 : decode cX8_valley 218 = .ok (.aload_n 0, 1) := by decide +kernel
theorem dX8_valley_219 : decode cX8_valley 219 = .ok (.getfield 43, 3) := by decide +kernel
theorem dX8_valley_222 : decode cX8_valley 222 = .ok (.iload 6, 2) := by decide +kernel
theorem dX8_valley_224 : decode cX8_valley 224 = .ok (.iaload, 1) := by decide +kernel
theorem dX8_valley_225 : decode cX8_valley 225 = .ok (.iastore, 1) := by decide +kernel
theorem dX8_valley_226 : decode cX8_valley 226 = .ok (.iinc 6 1, 3) := by decide +kernel
theorem dX8_valley_229 : decode cX8_valley 229 = .ok (.goto (-29), 3) := by decide +kernel
theorem dX8_valley_232 : decode cX8_valley 232 = .ok (.iload_n 3, 1) := by decide +kernel
theorem dX8_valley_233 : decode cX8_valley 233 = .ok (.ifCond .ne 8, 3) := by decide +kernel
theorem dX8_valley_236 : decode cX8_valley 236 = .ok (.iload 4, 2) := by decide +kernel
theorem dX8_valley_238 : decode cX8_valley 238 = .ok (.goto 5, 3) := by decide +kernel
theorem dX8_valley_241 : decode cX8_valley 241 = .ok (.iload 5, 2) := by decide +kernel
theorem dX8_valley_243 : decode cX8_valley 243 = .ok (.ireturn, 1) := by decide +kernel
theorem dX8_bestOf_0 : decode cX8_bestOf 0 = .ok (.bipush (-4), 2) := by decide +kernel
theorem dX8_bestOf_2 : decode cX8_bestOf 2 = .ok (.istore_n 1, 1) := by decide +kernel
theorem dX8_bestOf_3 : decode cX8_bestOf 3 = .ok (.iconst (-1), 1) := by decide +kernel
theorem dX8_bestOf_4 : decode cX8_bestOf 4 = .ok (.istore_n 2, 1) := by decide +kernel
theorem dX8_bestOf_5 : decode cX8_bestOf 5 = .ok (.iconst 0, 1) := by decide +kernel
theorem dX8_bestOf_6 : decode cX8_bestOf 6 = .ok (.istore_n 3, 1) := by decide +kernel
theorem dX8_bestOf_7 : decode cX8_bestOf 7 = .ok (.iload_n 3, 1) := by decide +kernel
theorem dX8_bestOf_8 : decode cX8_bestOf 8 = .ok (.bipush 6, 2) := by decide +kernel
theorem dX8_bestOf_10 : decode cX8_bestOf 10 = .ok (.if_icmp .ge 41, 3) := by decide +kernel
theorem dX8_bestOf_13 : decode cX8_bestOf 13 = .ok (.aload_n 0, 1) := by decide +kernel
theorem dX8_bestOf_14 : decode cX8_bestOf 14 = .ok (.iload_n 3, 1) := by decide +kernel
theorem dX8_bestOf_15 : decode cX8_bestOf 15 = .ok (.invokevirtual 230, 3) := by decide +kernel
theorem dX8_bestOf_18 : decode cX8_bestOf 18 = .ok (.istore 4, 2) := by decide +kernel
theorem dX8_bestOf_20 : decode cX8_bestOf 20 = .ok (.iload 4, 2) := by decide +kernel
theorem dX8_bestOf_22 : decode cX8_bestOf 22 = .ok (.iload_n 2, 1) := by decide +kernel
theorem dX8_bestOf_23 : decode cX8_bestOf 23 = .ok (.if_icmp .le 7, 3) := by decide +kernel
theorem dX8_bestOf_26 : decode cX8_bestOf 26 = .ok (.iload_n 3, 1) := by decide +kernel
theorem dX8_bestOf_27 : decode cX8_bestOf 27 = .ok (.goto 4, 3) := by decide +kernel
theorem dX8_bestOf_30 : decode cX8_bestOf 30 = .ok (.iload_n 1, 1) := by decide +kernel
theorem dX8_bestOf_31 : decode cX8_bestOf 31 = .ok (.istore_n 1, 1) := by decide +kernel
theorem dX8_bestOf_32 : decode cX8_bestOf 32 = .ok (.iload 4, 2) := by decide +kernel
theorem dX8_bestOf_34 : decode cX8_bestOf 34 = .ok (.iload_n 2, 1) := by decide +kernel
theorem dX8_bestOf_35 : decode cX8_bestOf 35 = .ok (.if_icmp .le 8, 3) := by decide +kernel
theorem dX8_bestOf_38 : decode cX8_bestOf 38 = .ok (.iload 4, 2) := by decide +kernel
theorem dX8_bestOf_40 : decode cX8_bestOf 40 = .ok (.goto 4, 3) := by decide +kernel
theorem dX8_bestOf_43 : decode cX8_bestOf 43 = .ok (.iload_n 2, 1) := by decide +kernel
theorem dX8_bestOf_44 : decode cX8_bestOf 44 = .ok (.istore_n 2, 1) := by decide +kernel
theorem dX8_bestOf_45 : decode cX8_bestOf 45 = .ok (.iinc 3 1, 3) := by decide +kernel
theorem dX8_bestOf_48 : decode cX8_bestOf 48 = .ok (.goto (-41), 3) := by decide +kernel
theorem dX8_bestOf_51 : decode cX8_bestOf 51 = .ok (.iload_n 1, 1) := by decide +kernel
theorem dX8_bestOf_52 : decode cX8_bestOf 52 = .ok (.ireturn, 1) := by decide +kernel
theorem dX8_best_0 : decode cX8_best 0 = .ok (.iload_n 1, 1) := by decide +kernel
theorem dX8_best_1 : decode cX8_best 1 = .ok (.i2l, 1) := by decide +kernel
theorem dX8_best_2 : decode cX8_best 2 = .ok (.lconst 0, 1) := by decide +kernel
theorem dX8_best_3 : decode cX8_best 3 = .ok (.lconst 1, 1) := by decide +kernel
theorem dX8_best_4 : decode cX8_best 4 = .ok (.invokestatic 71, 3) := by decide +kernel
theorem dX8_best_7 : decode cX8_best 7 = .ok (.ifCond .ne 5, 3) := by decide +kernel
theorem dX8_best_10 : decode cX8_best 10 = .ok (.iconst (-1), 1) := by decide +kernel
theorem dX8_best_11 : decode cX8_best 11 = .ok (.ireturn, 1) := by decide +kernel
theorem dX8_best_12 : decode cX8_best 12 = .ok (.aload_n 0, 1) := by decide +kernel
theorem dX8_best_13 : decode cX8_best 13 = .ok (.invokevirtual 233, 3) := by decide +kernel
theorem dX8_best_16 : decode cX8_best 16 = .ok (.istore_n 2, 1) := by decide +kernel
theorem dX8_best_17 : decode cX8_best 17 = .ok (.iload_n 1, 1) := by decide +kernel
theorem dX8_best_18 : decode cX8_best 18 = .ok (.ifCond .ne 7, 3) := by decide +kernel
theorem dX8_best_21 : decode cX8_best 21 = .ok (.iload_n 2, 1) := by decide +kernel
theorem dX8_best_22 : decode cX8_best 22 = .ok (.goto 18, 3) := by decide +kernel
theorem dX8_best_25 : decode cX8_best 25 = .ok (.iload_n 2, 1) := by decide +kernel
theorem dX8_best_26 : decode cX8_best 26 = .ok (.bipush (-4), 2) := by decide +kernel
theorem dX8_best_28 : decode cX8_best 28 = .ok (.if_icmp .ne 7, 3) := by decide +kernel
theorem dX8_best_31 : decode cX8_best 31 = .ok (.iconst (-1), 1) := by decide +kernel
theorem dX8_best_32 : decode cX8_best 32 = .ok (.goto 8, 3) := by decide +kernel
theorem dX8_best_35 : decode cX8_best 35 = .ok (.aload_n 0, 1) := by decide +kernel
theorem dX8_best_36 : decode cX8_best 36 = .ok (.iload_n 2, 1) := by decide +kernel
theorem dX8_best_37 : decode cX8_best 37 = .ok (.invokevirtual 230, 3) := by decide +kernel
theorem dX8_best_40 : decode cX8_best 40 = .ok (.ireturn, 1) := by decide +kernel
theorem dX8_suits_0 : decode cX8_suits 0 = .ok (.iload_n 1, 1) := by decide +kernel
theorem dX8_suits_1 : decode cX8_suits 1 = .ok (.invokestatic 155, 3) := by decide +kernel
theorem dX8_suits_4 : decode cX8_suits 4 = .ok (.ifCond .eq 15, 3) := by decide +kernel
theorem dX8_suits_7 : decode cX8_suits 7 = .ok (.iload_n 2, 1) := by decide +kernel
theorem dX8_suits_8 : decode cX8_suits 8 = .ok (.i2l, 1) := by decide +kernel
theorem dX8_suits_9 : decode cX8_suits 9 = .ok (.lconst 1, 1) := by decide +kernel
theorem dX8_suits_10 : decode cX8_suits 10 = .ok (.ldc2_w 236, 3) := by decide +kernel
theorem dX8_suits_13 : decode cX8_suits 13 = .ok (.invokestatic 71, 3) := by decide +kernel
theorem dX8_suits_16 : decode cX8_suits 16 = .ok (.ifCond .ne 5, 3) := by decide +kernel
theorem dX8_suits_19 : decode cX8_suits 19 = .ok (.iconst (-1), 1) := by decide +kernel
theorem dX8_suits_20 : decode cX8_suits 20 = .ok (.ireturn, 1) := by decide +kernel
theorem dX8_suits_21 : decode cX8_suits 21 = .ok (.aload_n 0, 1) := by decide +kernel
theorem dX8_suits_22 : decode cX8_suits 22 = .ok (.getfield 28, 3) := by decide +kernel
theorem dX8_suits_25 : decode cX8_suits 25 = .ok (.iload_n 1, 1) := by decide +kernel
theorem dX8_suits_26 : decode cX8_suits 26 = .ok (.iaload, 1) := by decide +kernel
theorem dX8_suits_27 : decode cX8_suits 27 = .ok (.istore_n 3, 1) := by decide +kernel
theorem dX8_suits_28 : decode cX8_suits 28 = .ok (.aload_n 0, 1) := by decide +kernel
theorem dX8_suits_29 : decode cX8_suits 29 = .ok (.getfield 28, 3) := by decide +kernel
theorem dX8_suits_32 : decode cX8_suits 32 = .ok (.iload_n 1, 1) := by decide +kernel
theorem dX8_suits_33 : decode cX8_suits 33 = .ok (.iload_n 2, 1) := by decide +kernel
theorem dX8_suits_34 : decode cX8_suits 34 = .ok (.iastore, 1) := by decide +kernel
theorem dX8_suits_35 : decode cX8_suits 35 = .ok (.aload_n 0, 1) := by decide +kernel
theorem dX8_suits_36 : decode cX8_suits 36 = .ok (.invokevirtual 233, 3) := by decide +kernel
theorem dX8_suits_39 : decode cX8_suits 39 = .ok (.istore 4, 2) := by decide +kernel
theorem dX8_suits_41 : decode cX8_suits 41 = .ok (.aload_n 0, 1) := by decide +kernel
theorem dX8_suits_42 : decode cX8_suits 42 = .ok (.getfield 28, 3) := by decide +kernel
theorem dX8_suits_45 : decode cX8_suits 45 = .ok (.iload_n 1, 1) := by decide +kernel
theorem dX8_suits_46 : decode cX8_suits 46 = .ok (.iload_n 3, 1) := by decide +kernel
theorem dX8_suits_47 : decode cX8_suits 47 = .ok (.iastore, 1) := by decide +kernel
theorem dX8_suits_48 : decode cX8_suits 48 = .ok (.iload 4, 2) := by decide +kernel
theorem dX8_suits_50 : decode cX8_suits 50 = .ok (.ireturn, 1) := by decide +kernel
theorem dX8_pays_0 : decode cX8_pays 0 = .ok (.iload_n 1, 1) := by decide +kernel
theorem dX8_pays_1 : decode cX8_pays 1 = .ok (.i2l, 1) := by decide +kernel
theorem dX8_pays_2 : decode cX8_pays 2 = .ok (.lconst 0, 1) := by decide +kernel
theorem dX8_pays_3 : decode cX8_pays 3 = .ok (.ldc2_w 238, 3) := by decide +kernel
theorem dX8_pays_6 : decode cX8_pays 6 = .ok (.invokestatic 71, 3) := by decide +kernel
theorem dX8_pays_9 : decode cX8_pays 9 = .ok (.ifCond .eq 40, 3) := by decide +kernel
theorem dX8_pays_12 : decode cX8_pays 12 = .ok (.iload_n 2, 1) := by decide +kernel
theorem dX8_pays_13 : decode cX8_pays 13 = .ok (.i2l, 1) := by decide +kernel
theorem dX8_pays_14 : decode cX8_pays 14 = .ok (.lconst 0, 1) := by decide +kernel
theorem dX8_pays_15 : decode cX8_pays 15 = .ok (.ldc2_w 238, 3) := by decide +kernel
theorem dX8_pays_18 : decode cX8_pays 18 = .ok (.invokestatic 71, 3) := by decide +kernel
theorem dX8_pays_21 : decode cX8_pays 21 = .ok (.ifCond .eq 28, 3) := by decide +kernel
theorem dX8_pays_24 : decode cX8_pays 24 = .ok (.iload 4, 2) := by decide +kernel
theorem dX8_pays_26 : decode cX8_pays 26 = .ok (.i2l, 1) := by decide +kernel
theorem dX8_pays_27 : decode cX8_pays 27 = .ok (.lconst 0, 1) := by decide +kernel
theorem dX8_pays_28 : decode cX8_pays 28 = .ok (.ldc2_w 238, 3) := by decide +kernel
theorem dX8_pays_31 : decode cX8_pays 31 = .ok (.invokestatic 71, 3) := by decide +kernel
theorem dX8_pays_34 : decode cX8_pays 34 = .ok (.ifCond .eq 15, 3) := by decide +kernel
theorem dX8_pays_37 : decode cX8_pays 37 = .ok (.iload_n 3, 1) := by decide +kernel
theorem dX8_pays_38 : decode cX8_pays 38 = .ok (.i2l, 1) := by decide +kernel
theorem dX8_pays_39 : decode cX8_pays 39 = .ok (.lconst 0, 1) := by decide +kernel
theorem dX8_pays_40 : decode cX8_pays 40 = .ok (.ldc2_w 240, 3) := by decide +kernel
theorem dX8_pays_43 : decode cX8_pays 43 = .ok (.invokestatic 71, 3) := by decide +kernel
theorem dX8_pays_46 : decode cX8_pays 46 = .ok (.ifCond .ne 5, 3) := by decide +kernel
theorem dX8_pays_49 : decode cX8_pays 49 = .ok (.iconst (-1), 1) := by decide +kernel
theorem dX8_pays_50 : decode cX8_pays 50 = .ok (.ireturn, 1) := by decide +kernel
theorem dX8_pays_51 : decode cX8_pays 51 = .ok (.iconst 0, 1) := by decide +kernel
theorem dX8_pays_52 : decode cX8_pays 52 = .ok (.istore 5, 2) := by decide +kernel
theorem dX8_pays_54 : decode cX8_pays 54 = .ok (.iconst 1, 1) := by decide +kernel
theorem dX8_pays_55 : decode cX8_pays 55 = .ok (.istore 6, 2) := by decide +kernel
theorem dX8_pays_57 : decode cX8_pays 57 = .ok (.iload 6, 2) := by decide +kernel
theorem dX8_pays_59 : decode cX8_pays 59 = .ok (.bipush 50, 2) := by decide +kernel
theorem dX8_pays_61 : decode cX8_pays 61 = .ok (.if_icmp .gt 50, 3) := by decide +kernel
theorem dX8_pays_64 : decode cX8_pays 64 = .ok (.iload_n 2, 1) := by decide +kernel
theorem dX8_pays_65 : decode cX8_pays 65 = .ok (.iload_n 3, 1) := by decide +kernel
theorem dX8_pays_66 : decode cX8_pays 66 = .ok (.iload 6, 2) := by decide +kernel
theorem dX8_pays_68 : decode cX8_pays 68 = .ok (.iconst 1, 1) := by decide +kernel
theorem dX8_pays_69 : decode cX8_pays 69 = .ok (.isub, 1) := by decide +kernel
theorem dX8_pays_70 : decode cX8_pays 70 = .ok (.imul, 1) := by decide +kernel
theorem dX8_pays_71 : decode cX8_pays 71 = .ok (.iadd, 1) := by decide +kernel
theorem dX8_pays_72 : decode cX8_pays 72 = .ok (.istore 7, 2) := by decide +kernel
theorem dX8_pays_74 : decode cX8_pays 74 = .ok (.iload 5, 2) := by decide +kernel
theorem dX8_pays_76 : decode cX8_pays 76 = .ok (.iload 7, 2) := by decide +kernel
theorem dX8_pays_78 : decode cX8_pays 78 = .ok (.iload 4, 2) := by decide +kernel
theorem dX8_pays_80 : decode cX8_pays 80 = .ok (.if_icmp .le 8, 3) := by decide +kernel
theorem dX8_pays_83 : decode cX8_pays 83 = .ok (.iload 4, 2) := by decide +kernel
theorem dX8_pays_85 : decode cX8_pays 85 = .ok (.goto 5, 3) := by decide +kernel
theorem dX8_pays_88 : decode cX8_pays 88 = .ok (.iload 7, 2) := by decide +kernel
theorem dX8_pays_90 : decode cX8_pays 90 = .ok (.iadd, 1) := by decide +kernel
theorem dX8_pays_91 : decode cX8_pays 91 = .ok (.istore 5, 2) := by decide +kernel
theorem dX8_pays_93 : decode cX8_pays 93 = .ok (.iload 5, 2) := by decide +kernel
theorem dX8_pays_95 : decode cX8_pays 95 = .ok (.iload_n 1, 1) := by decide +kernel
theorem dX8_pays_96 : decode cX8_pays 96 = .ok (.iload 6, 2) := by decide +kernel
theorem dX8_pays_98 : decode cX8_pays 98 = .ok (.imul, 1) := by decide +kernel
theorem dX8_pays_99 : decode cX8_pays 99 = .ok (.if_icmp .le 6, 3) := by decide +kernel
theorem dX8_pays_102 : decode cX8_pays 102 = .ok (.iload 6, 2) := by decide +kernel
theorem dX8_pays_104 : decode cX8_pays 104 = .ok (.ireturn, 1) := by decide +kernel
theorem dX8_pays_105 : decode cX8_pays 105 = .ok (.iinc 6 1, 3) := by decide +kernel
theorem dX8_pays_108 : decode cX8_pays 108 = .ok (.goto (-51), 3) := by decide +kernel
theorem dX8_pays_111 : decode cX8_pays 111 = .ok (.bipush (-4), 2) := by decide +kernel
theorem dX8_pays_113 : decode cX8_pays 113 = .ok (.ireturn, 1) := by decide +kernel
theorem dX8_jumper_0 : decode cX8_jumper 0 = .ok (.iload_n 1, 1) := by decide +kernel
theorem dX8_jumper_1 : decode cX8_jumper 1 = .ok (.invokestatic 135, 3) := by decide +kernel
theorem dX8_jumper_4 : decode cX8_jumper 4 = .ok (.ifCond .ne 5, 3) := by decide +kernel
theorem dX8_jumper_7 : decode cX8_jumper 7 = .ok (.iconst (-1), 1) := by decide +kernel
theorem dX8_jumper_8 : decode cX8_jumper 8 = .ok (.ireturn, 1) := by decide +kernel
theorem dX8_jumper_9 : decode cX8_jumper 9 = .ok (.aload_n 0, 1) := by decide +kernel
theorem dX8_jumper_10 : decode cX8_jumper 10 = .ok (.getfield 242, 3) := by decide +kernel
theorem dX8_jumper_13 : decode cX8_jumper 13 = .ok (.bipush 12, 2) := by decide +kernel
theorem dX8_jumper_15 : decode cX8_jumper 15 = .ok (.if_icmp .ne 6, 3) := by decide +kernel
theorem dX8_jumper_18 : decode cX8_jumper 18 = .ok (.bipush (-3), 2) := by decide +kernel
theorem dX8_jumper_20 : decode cX8_jumper 20 = .ok (.ireturn, 1) := by decide +kernel
theorem dX8_jumper_21 : decode cX8_jumper 21 = .ok (.aload_n 0, 1) := by decide +kernel
theorem dX8_jumper_22 : decode cX8_jumper 22 = .ok (.getfield 46, 3) := by decide +kernel
theorem dX8_jumper_25 : decode cX8_jumper 25 = .ok (.aload_n 0, 1) := by decide +kernel
theorem dX8_jumper_26 : decode cX8_jumper 26 = .ok (.getfield 242, 3) := by decide +kernel
theorem dX8_jumper_29 : decode cX8_jumper 29 = .ok (.iload_n 1, 1) := by decide +kernel
theorem dX8_jumper_30 : decode cX8_jumper 30 = .ok (.iastore, 1) := by decide +kernel
theorem dX8_jumper_31 : decode cX8_jumper 31 = .ok (.aload_n 0, 1) := by decide +kernel
theorem dX8_jumper_32 : decode cX8_jumper 32 = .ok (.dup, 1) := by decide +kernel
theorem dX8_jumper_33 : decode cX8_jumper 33 = .ok (.getfield 242, 3) := by decide +kernel
theorem dX8_jumper_36 : decode cX8_jumper 36 = .ok (.iconst 1, 1) := by decide +kernel
theorem dX8_jumper_37 : decode cX8_jumper 37 = .ok (.iadd, 1) := by decide +kernel
theorem dX8_jumper_38 : decode cX8_jumper 38 = .ok (.putfield 242, 3) := by decide +kernel
theorem dX8_jumper_41 : decode cX8_jumper 41 = .ok (.aload_n 0, 1) := by decide +kernel
theorem dX8_jumper_42 : decode cX8_jumper 42 = .ok (.getfield 242, 3) := by decide +kernel
theorem dX8_jumper_45 : decode cX8_jumper 45 = .ok (.ireturn, 1) := by decide +kernel
theorem dX8_isJumper_0 : decode cX8_isJumper 0 = .ok (.iload_n 1, 1) := by decide +kernel
theorem dX8_isJumper_1 : decode cX8_isJumper 1 = .ok (.i2l, 1) := by decide +kernel
theorem dX8_isJumper_2 : decode cX8_isJumper 2 = .ok (.lconst 0, 1) := by decide +kernel
theorem dX8_isJumper_3 : decode cX8_isJumper 3 = .ok (.aload_n 0, 1) := by decide +kernel
theorem dX8_isJumper_4 : decode cX8_isJumper 4 = .ok (.getfield 242, 3) := by decide +kernel
theorem dX8_isJumper_7 : decode cX8_isJumper 7 = .ok (.iconst 1, 1) := by decide +kernel
theorem dX8_isJumper_8 : decode cX8_isJumper 8 = .ok (.isub, 1) := by decide +kernel
theorem dX8_isJumper_9 : decode cX8_isJumper 9 = .ok (.i2l, 1) := by decide +kernel
theorem dX8_isJumper_10 : decode cX8_isJumper 10 = .ok (.invokestatic 71, 3) := by decide +kernel
theorem dX8_isJumper_13 : decode cX8_isJumper 13 = .ok (.ireturn, 1) := by decide +kernel
theorem dX8_takes_0 : decode cX8_takes 0 = .ok (.aload_n 0, 1) := by decide +kernel
theorem dX8_takes_1 : decode cX8_takes 1 = .ok (.iload_n 1, 1) := by decide +kernel
theorem dX8_takes_2 : decode cX8_takes 2 = .ok (.invokevirtual 245, 3) := by decide +kernel
theorem dX8_takes_5 : decode cX8_takes 5 = .ok (.ifCond .eq 10, 3) := by decide +kernel
theorem dX8_takes_8 : decode cX8_takes 8 = .ok (.iload_n 2, 1) := by decide +kernel
theorem dX8_takes_9 : decode cX8_takes 9 = .ok (.invokestatic 135, 3) := by decide +kernel
theorem dX8_takes_12 : decode cX8_takes 12 = .ok (.ifCond .ne 5, 3) := by decide +kernel
theorem dX8_takes_15 : decode cX8_takes 15 = .ok (.iconst (-1), 1) := by decide +kernel
theorem dX8_takes_16 : decode cX8_takes 16 = .ok (.ireturn, 1) := by decide +kernel
theorem dX8_takes_17 : decode cX8_takes 17 = .ok (.aload_n 0, 1) := by decide +kernel
theorem dX8_takes_18 : decode cX8_takes 18 = .ok (.getfield 46, 3) := by decide +kernel
theorem dX8_takes_21 : decode cX8_takes 21 = .ok (.iload_n 1, 1) := by decide +kernel
theorem dX8_takes_22 : decode cX8_takes 22 = .ok (.iaload, 1) := by decide +kernel
theorem dX8_takes_23 : decode cX8_takes 23 = .ok (.istore_n 3, 1) := by decide +kernel
theorem dX8_takes_24 : decode cX8_takes 24 = .ok (.aload_n 0, 1) := by decide +kernel
theorem dX8_takes_25 : decode cX8_takes 25 = .ok (.getfield 46, 3) := by decide +kernel
theorem dX8_takes_28 : decode cX8_takes 28 = .ok (.iload_n 1, 1) := by decide +kernel
theorem dX8_takes_29 : decode cX8_takes 29 = .ok (.iload_n 2, 1) := by decide +kernel
theorem dX8_takes_30 : decode cX8_takes 30 = .ok (.iastore, 1) := by decide +kernel
theorem dX8_takes_31 : decode cX8_takes 31 = .ok (.iload_n 3, 1) := by decide +kernel
theorem dX8_takes_32 : decode cX8_takes 32 = .ok (.ireturn, 1) := by decide +kernel
theorem dX8_layWorths_0 : decode cX8_layWorths 0 = .ok (.iconst 0, 1) := by decide +kernel
theorem dX8_layWorths_1 : decode cX8_layWorths 1 = .ok (.istore_n 1, 1) := by decide +kernel
theorem dX8_layWorths_2 : decode cX8_layWorths 2 = .ok (.iload_n 1, 1) := by decide +kernel
theorem dX8_layWorths_3 : decode cX8_layWorths 3 = .ok (.bipush 6, 2) := by decide +kernel
theorem dX8_layWorths_5 : decode cX8_layWorths 5 = .ok (.if_icmp .ge 20, 3) := by decide +kernel
theorem dX8_layWorths_8 : decode cX8_layWorths 8 = .ok (.aload_n 0, 1) := by decide +kernel
theorem dX8_layWorths_9 : decode cX8_layWorths 9 = .ok (.getfield 55, 3) := by decide +kernel
theorem dX8_layWorths_12 : decode cX8_layWorths 12 = .ok (.iload_n 1, 1) := by decide +kernel
theorem dX8_layWorths_13 : decode cX8_layWorths 13 = .ok (.aload_n 0, 1) := by decide +kernel
theorem dX8_layWorths_14 : decode cX8_layWorths 14 = .ok (.iload_n 1, 1) := by decide +kernel
theorem dX8_layWorths_15 : decode cX8_layWorths 15 = .ok (.invokevirtual 230, 3) := by decide +kernel
theorem dX8_layWorths_18 : decode cX8_layWorths 18 = .ok (.iastore, 1) := by decide +kernel
theorem dX8_layWorths_19 : decode cX8_layWorths 19 = .ok (.iinc 1 1, 3) := by decide +kernel
theorem dX8_layWorths_22 : decode cX8_layWorths 22 = .ok (.goto (-20), 3) := by decide +kernel
theorem dX8_layWorths_25 : decode cX8_layWorths 25 = .ok (.return_, 1) := by decide +kernel
theorem dX8_taken_0 : decode cX8_taken 0 = .ok (.aload_n 0, 1) := by decide +kernel
theorem dX8_taken_1 : decode cX8_taken 1 = .ok (.getfield 46, 3) := by decide +kernel
theorem dX8_taken_4 : decode cX8_taken 4 = .ok (.iload_n 1, 1) := by decide +kernel
theorem dX8_taken_5 : decode cX8_taken 5 = .ok (.iaload, 1) := by decide +kernel
theorem dX8_taken_6 : decode cX8_taken 6 = .ok (.istore_n 2, 1) := by decide +kernel
theorem dX8_taken_7 : decode cX8_taken 7 = .ok (.iload_n 2, 1) := by decide +kernel
theorem dX8_taken_8 : decode cX8_taken 8 = .ok (.istore_n 3, 1) := by decide +kernel
theorem dX8_taken_9 : decode cX8_taken 9 = .ok (.aload_n 0, 1) := by decide +kernel
theorem dX8_taken_10 : decode cX8_taken 10 = .ok (.getfield 55, 3) := by decide +kernel
theorem dX8_taken_13 : decode cX8_taken 13 = .ok (.iload_n 2, 1) := by decide +kernel
theorem dX8_taken_14 : decode cX8_taken 14 = .ok (.iaload, 1) := by decide +kernel
theorem dX8_taken_15 : decode cX8_taken 15 = .ok (.aload_n 0, 1) := by decide +kernel
theorem dX8_taken_16 : decode cX8_taken 16 = .ok (.getfield 28, 3) := by decide +kernel
theorem dX8_taken_19 : decode cX8_taken 19 = .ok (.bipush 16, 2) := by decide +kernel
theorem dX8_taken_21 : decode cX8_taken 21 = .ok (.iaload, 1) := by decide +kernel
theorem dX8_taken_22 : decode cX8_taken 22 = .ok (.iadd, 1) := by decide +kernel
theorem dX8_taken_23 : decode cX8_taken 23 = .ok (.istore 4, 2) := by decide +kernel
theorem dX8_taken_25 : decode cX8_taken 25 = .ok (.aload_n 0, 1) := by decide +kernel
theorem dX8_taken_26 : decode cX8_taken 26 = .ok (.getfield 28, 3) := by decide +kernel
theorem dX8_taken_29 : decode cX8_taken 29 = .ok (.bipush 17, 2) := by decide +kernel
theorem dX8_taken_31 : decode cX8_taken 31 = .ok (.iaload, 1) := by decide +kernel
theorem dX8_taken_32 : decode cX8_taken 32 = .ok (.ineg, 1) := by decide +kernel
theorem dX8_taken_33 : decode cX8_taken 33 = .ok (.istore 5, 2) := by decide +kernel
theorem dX8_taken_35 : decode cX8_taken 35 = .ok (.iload 5, 2) := by decide +kernel
theorem dX8_taken_37 : decode cX8_taken 37 = .ok (.aload_n 0, 1) := by decide +kernel
theorem dX8_taken_38 : decode cX8_taken 38 = .ok (.getfield 28, 3) := by decide +kernel
theorem dX8_taken_41 : decode cX8_taken 41 = .ok (.bipush 17, 2) := by decide +kernel
theorem dX8_taken_43 : decode cX8_taken 43 = .ok (.iaload, 1) := by decide +kernel
theorem dX8_taken_44 : decode cX8_taken 44 = .ok (.if_icmp .gt 82, 3) := by decide +kernel
theorem dX8_taken_47 : decode cX8_taken 47 = .ok (.aload_n 0, 1) := by decide +kernel
theorem dX8_taken_48 : decode cX8_taken 48 = .ok (.getfield 46, 3) := by decide +kernel
theorem dX8_taken_51 : decode cX8_taken 51 = .ok (.iload_n 1, 1) := by decide +kernel
theorem dX8_taken_52 : decode cX8_taken 52 = .ok (.iload 5, 2) := by decide +kernel
theorem dX8_taken_54 : decode cX8_taken 54 = .ok (.iadd, 1) := by decide +kernel
theorem dX8_taken_55 : decode cX8_taken 55 = .ok (.aload_n 0, 1) := by decide +kernel
theorem dX8_taken_56 : decode cX8_taken 56 = .ok (.getfield 242, 3) := by decide +kernel
theorem dX8_taken_59 : decode cX8_taken 59 = .ok (.irem, 1) := by decide +kernel
theorem dX8_taken_60 : decode cX8_taken 60 = .ok (.aload_n 0, 1) := by decide +kernel
theorem dX8_taken_61 : decode cX8_taken 61 = .ok (.getfield 242, 3) := by decide +kernel
theorem dX8_taken_64 : decode cX8_taken 64 = .ok (.iadd, 1) := by decide +kernel
theorem dX8_taken_65 : decode cX8_taken 65 = .ok (.aload_n 0, 1) := by decide +kernel
theorem dX8_taken_66 : decode cX8_taken 66 = .ok (.getfield 242, 3) := by decide +kernel
theorem dX8_taken_69 : decode cX8_taken 69 = .ok (.irem, 1) := by decide +kernel
theorem dX8_taken_70 : decode cX8_taken 70 = .ok (.iaload, 1) := by decide +kernel
theorem dX8_taken_71 : decode cX8_taken 71 = .ok (.istore 6, 2) := by decide +kernel
theorem dX8_taken_73 : decode cX8_taken 73 = .ok (.aload_n 0, 1) := by decide +kernel
theorem dX8_taken_74 : decode cX8_taken 74 = .ok (.getfield 55, 3) := by decide +kernel
theorem dX8_taken_77 : decode cX8_taken 77 = .ok (.iload 6, 2) := by decide +kernel
theorem dX8_taken_79 : decode cX8_taken 79 = .ok (.iaload, 1) := by decide +kernel
theorem dX8_taken_80 : decode cX8_taken 80 = .ok (.istore 7, 2) := by decide +kernel
theorem dX8_taken_82 : decode cX8_taken 82 = .ok (.iload 6, 2) := by decide +kernel
theorem dX8_taken_84 : decode cX8_taken 84 = .ok (.iload_n 2, 1) := by decide +kernel
theorem dX8_taken_85 : decode cX8_taken 85 = .ok (.if_icmp .eq 35, 3) := by decide +kernel
theorem dX8_taken_88 : decode cX8_taken 88 = .ok (.iload 7, 2) := by decide +kernel
theorem dX8_taken_90 : decode cX8_taken 90 = .ok (.iload 4, 2) := by decide +kernel
theorem dX8_taken_92 : decode cX8_taken 92 = .ok (.if_icmp .gt 21, 3) := by decide +kernel
theorem dX8_taken_95 : decode cX8_taken 95 = .ok (.iload 7, 2) := by decide +kernel
theorem dX8_taken_97 : decode cX8_taken 97 = .ok (.iload 4, 2) := by decide +kernel
theorem dX8_taken_99 : decode cX8_taken 99 = .ok (.if_icmp .ne 21, 3) := by decide +kernel
theorem dX8_taken_102 : decode cX8_taken 102 = .ok (.iload_n 3, 1) := by decide +kernel
theorem dX8_taken_103 : decode cX8_taken 103 = .ok (.iload_n 2, 1) := by decide +kernel
theorem dX8_taken_104 : decode cX8_taken 104 = .ok (.if_icmp .eq 16, 3) := by decide +kernel
theorem dX8_taken_107 : decode cX8_taken 107 = .ok (.iload 6, 2) := by decide +kernel
theorem dX8_taken_109 : decode cX8_taken 109 = .ok (.iload_n 3, 1) := by decide +kernel
theorem dX8_taken_110 : decode cX8_taken 110 = .ok (.if_icmp .ge 10, 3) := by decide +kernel
theorem dX8_taken_113 : decode cX8_taken 113 = .ok (.iload 6, 2) := by decide +kernel
theorem dX8_taken_115 : decode cX8_taken 115 = .ok (.istore_n 3, 1) := by decide +kernel
theorem dX8_taken_116 : decode cX8_taken 116 = .ok (.iload 7, 2) := by decide +kernel
theorem dX8_taken_118 : decode cX8_taken 118 = .ok (.istore 4, 2) := by decide +kernel
theorem dX8_taken_120 : decode cX8_taken 120 = .ok (.iinc 5 1, 3) := by decide +kernel
theorem dX8_taken_123 : decode cX8_taken 123 = .ok (.goto (-88), 3) := by decide +kernel
theorem dX8_taken_126 : decode cX8_taken 126 = .ok (.iload_n 3, 1) := by decide +kernel
theorem dX8_taken_127 : decode cX8_taken 127 = .ok (.ireturn, 1) := by decide +kernel
theorem dX8_oneYear_0 : decode cX8_oneYear 0 = .ok (.iconst 0, 1) := by decide +kernel
theorem dX8_oneYear_1 : decode cX8_oneYear 1 = .ok (.istore_n 1, 1) := by decide +kernel
theorem dX8_oneYear_2 : decode cX8_oneYear 2 = .ok (.iload_n 1, 1) := by decide +kernel
theorem dX8_oneYear_3 : decode cX8_oneYear 3 = .ok (.aload_n 0, 1) := by decide +kernel
theorem dX8_oneYear_4 : decode cX8_oneYear 4 = .ok (.getfield 242, 3) := by decide +kernel
theorem dX8_oneYear_7 : decode cX8_oneYear 7 = .ok (.if_icmp .ge 20, 3) := by decide +kernel
theorem dX8_oneYear_10 : decode cX8_oneYear 10 = .ok (.aload_n 0, 1) := by decide +kernel
theorem dX8_oneYear_11 : decode cX8_oneYear 11 = .ok (.getfield 49, 3) := by decide +kernel
theorem dX8_oneYear_14 : decode cX8_oneYear 14 = .ok (.iload_n 1, 1) := by decide +kernel
theorem dX8_oneYear_15 : decode cX8_oneYear 15 = .ok (.aload_n 0, 1) := by decide +kernel
theorem dX8_oneYear_16 : decode cX8_oneYear 16 = .ok (.iload_n 1, 1) := by decide +kernel
theorem dX8_oneYear_17 : decode cX8_oneYear 17 = .ok (.invokevirtual 248, 3) := by decide +kernel
theorem dX8_oneYear_20 : decode cX8_oneYear 20 = .ok (.iastore, 1) := by decide +kernel
theorem dX8_oneYear_21 : decode cX8_oneYear 21 = .ok (.iinc 1 1, 3) := by decide +kernel
theorem dX8_oneYear_24 : decode cX8_oneYear 24 = .ok (.goto (-22), 3) := by decide +kernel
theorem dX8_oneYear_27 : decode cX8_oneYear 27 = .ok (.iconst 0, 1) := by decide +kernel
theorem dX8_oneYear_28 : decode cX8_oneYear 28 = .ok (.istore_n 1, 1) := by decide +kernel
theorem dX8_oneYear_29 : decode cX8_oneYear 29 = .ok (.iload_n 1, 1) := by decide +kernel
theorem dX8_oneYear_30 : decode cX8_oneYear 30 = .ok (.aload_n 0, 1) := by decide +kernel
theorem dX8_oneYear_31 : decode cX8_oneYear 31 = .ok (.getfield 242, 3) := by decide +kernel
theorem dX8_oneYear_34 : decode cX8_oneYear 34 = .ok (.if_icmp .ge 21, 3) := by decide +kernel
theorem dX8_oneYear_37 : decode cX8_oneYear 37 = .ok (.aload_n 0, 1) := by decide +kernel
theorem dX8_oneYear_38 : decode cX8_oneYear 38 = .ok (.getfield 46, 3) := by decide +kernel
theorem dX8_oneYear_41 : decode cX8_oneYear 41 = .ok (.iload_n 1, 1) := by decide +kernel
theorem dX8_oneYear_42 : decode cX8_oneYear 42 = .ok (.aload_n 0, 1) := by decide +kernel
theorem dX8_oneYear_43 : decode cX8_oneYear 43 = .ok (.getfield 49, 3) := by decide +kernel
theorem dX8_oneYear_46 : decode cX8_oneYear 46 = .ok (.iload_n 1, 1) := by decide +kernel
theorem dX8_oneYear_47 : decode cX8_oneYear 47 = .ok (.iaload, 1) := by decide +kernel
theorem dX8_oneYear_48 : decode cX8_oneYear 48 = .ok (.iastore, 1) := by decide +kernel
theorem dX8_oneYear_49 : decode cX8_oneYear 49 = .ok (.iinc 1 1, 3) := by decide +kernel
theorem dX8_oneYear_52 : decode cX8_oneYear 52 = .ok (.goto (-23), 3) := by decide +kernel
theorem dX8_oneYear_55 : decode cX8_oneYear 55 = .ok (.return_, 1) := by decide +kernel
theorem dX8_keepJumpers_0 : decode cX8_keepJumpers 0 = .ok (.iconst 0, 1) := by decide +kernel
theorem dX8_keepJumpers_1 : decode cX8_keepJumpers 1 = .ok (.istore_n 1, 1) := by decide +kernel
theorem dX8_keepJumpers_2 : decode cX8_keepJumpers 2 = .ok (.iload_n 1, 1) := by decide +kernel
theorem dX8_keepJumpers_3 : decode cX8_keepJumpers 3 = .ok (.bipush 12, 2) := by decide +kernel
theorem dX8_keepJumpers_5 : decode cX8_keepJumpers 5 = .ok (.if_icmp .ge 21, 3) := by decide +kernel
theorem dX8_keepJumpers_8 : decode cX8_keepJumpers 8 = .ok (.aload_n 0, 1) := by decide +kernel
theorem dX8_keepJumpers_9 : decode cX8_keepJumpers 9 = .ok (.getfield 52, 3) := by decide +kernel
theorem dX8_keepJumpers_12 : decode cX8_keepJumpers 12 = .ok (.iload_n 1, 1) := by decide +kernel
theorem dX8_keepJumpers_13 : decode cX8_keepJumpers 13 = .ok (.aload_n 0, 1) := by decide +kernel
theorem dX8_keepJumpers_14 : decode cX8_keepJumpers 14 = .ok (.getfield 46, 3) := by decide +kernel
theorem dX8_keepJumpers_17 : decode cX8_keepJumpers 17 = .ok (.iload_n 1, 1) := by decide +kernel
theorem dX8_keepJumpers_18 : decode cX8_keepJumpers 18 = .ok (.iaload, 1) := by decide +kernel
theorem dX8_keepJumpers_19 : decode cX8_keepJumpers 19 = .ok (.iastore, 1) := by decide +kernel
theorem dX8_keepJumpers_20 : decode cX8_keepJumpers 20 = .ok (.iinc 1 1, 3) := by decide +kernel
theorem dX8_keepJumpers_23 : decode cX8_keepJumpers 23 = .ok (.goto (-21), 3) := by decide +kernel
theorem dX8_keepJumpers_26 : decode cX8_keepJumpers 26 = .ok (.return_, 1) := by decide +kernel
theorem dX8_jumpersBack_0 : decode cX8_jumpersBack 0 = .ok (.iconst 0, 1) := by decide +kernel
theorem dX8_jumpersBack_1 : decode cX8_jumpersBack 1 = .ok (.istore_n 1, 1) := by decide +kernel
theorem dX8_jumpersBack_2 : decode cX8_jumpersBack 2 = .ok (.iload_n 1, 1) := by decide +kernel
theorem dX8_jumpersBack_3 : decode cX8_jumpersBack 3 = .ok (.bipush 12, 2) := by decide +kernel
theorem dX8_jumpersBack_5 : decode cX8_jumpersBack 5 = .ok (.if_icmp .ge 21, 3) := by decide +kernel
theorem dX8_jumpersBack_8 : decode cX8_jumpersBack 8 = .ok (.aload_n 0, 1) := by decide +kernel
theorem dX8_jumpersBack_9 : decode cX8_jumpersBack 9 = .ok (.getfield 46, 3) := by decide +kernel
theorem dX8_jumpersBack_12 : decode cX8_jumpersBack 12 = .ok (.iload_n 1, 1) := by decide +kernel
theorem dX8_jumpersBack_13 : decode cX8_jumpersBack 13 = .ok (.aload_n 0, 1) := by decide +kernel
theorem dX8_jumpersBack_14 : decode cX8_jumpersBack 14 = .ok (.getfield 52, 3) := by decide +kernel
theorem dX8_jumpersBack_17 : decode cX8_jumpersBack 17 = .ok (.iload_n 1, 1) := by decide +kernel
theorem dX8_jumpersBack_18 : decode cX8_jumpersBack 18 = .ok (.iaload, 1) := by decide +kernel
theorem dX8_jumpersBack_19 : decode cX8_jumpersBack 19 = .ok (.iastore, 1) := by decide +kernel
theorem dX8_jumpersBack_20 : decode cX8_jumpersBack 20 = .ok (.iinc 1 1, 3) := by decide +kernel
theorem dX8_jumpersBack_23 : decode cX8_jumpersBack 23 = .ok (.goto (-21), 3) := by decide +kernel
theorem dX8_jumpersBack_26 : decode cX8_jumpersBack 26 = .ok (.return_, 1) := by decide +kernel
theorem dX8_years_0 : decode cX8_years 0 = .ok (.iload_n 1, 1) := by decide +kernel
theorem dX8_years_1 : decode cX8_years 1 = .ok (.i2l, 1) := by decide +kernel
theorem dX8_years_2 : decode cX8_years 2 = .ok (.lconst 1, 1) := by decide +kernel
theorem dX8_years_3 : decode cX8_years 3 = .ok (.ldc2_w 236, 3) := by decide +kernel
theorem dX8_years_6 : decode cX8_years 6 = .ok (.invokestatic 71, 3) := by decide +kernel
theorem dX8_years_9 : decode cX8_years 9 = .ok (.ifCond .ne 5, 3) := by decide +kernel
theorem dX8_years_12 : decode cX8_years 12 = .ok (.iconst (-1), 1) := by decide +kernel
theorem dX8_years_13 : decode cX8_years 13 = .ok (.ireturn, 1) := by decide +kernel
theorem dX8_years_14 : decode cX8_years 14 = .ok (.aload_n 0, 1) := by decide +kernel
theorem dX8_years_15 : decode cX8_years 15 = .ok (.invokevirtual 251, 3) := by decide +kernel
theorem dX8_years_18 : decode cX8_years 18 = .ok (.aload_n 0, 1) := by decide +kernel
theorem dX8_years_19 : decode cX8_years 19 = .ok (.invokevirtual 254, 3) := by decide +kernel
theorem dX8_years_22 : decode cX8_years 22 = .ok (.iconst 0, 1) := by decide +kernel
theorem dX8_years_23 : decode cX8_years 23 = .ok (.istore_n 2, 1) := by decide +kernel
theorem dX8_years_24 : decode cX8_years 24 = .ok (.iload_n 2, 1) := by decide +kernel
theorem dX8_years_25 : decode cX8_years 25 = .ok (.iload_n 1, 1) := by decide +kernel
theorem dX8_years_26 : decode cX8_years 26 = .ok (.if_icmp .ge 13, 3) := by decide +kernel
theorem dX8_years_29 : decode cX8_years 29 = .ok (.aload_n 0, 1) := by decide +kernel
theorem dX8_years_30 : decode cX8_years 30 = .ok (.invokevirtual 257, 3) := by decide +kernel
theorem dX8_years_33 : decode cX8_years 33 = .ok (.iinc 2 1, 3) := by decide +kernel
theorem dX8_years_36 : decode cX8_years 36 = .ok (.goto (-12), 3) := by decide +kernel
theorem dX8_years_39 : decode cX8_years 39 = .ok (.iconst 0, 1) := by decide +kernel
theorem dX8_years_40 : decode cX8_years 40 = .ok (.istore_n 2, 1) := by decide +kernel
theorem dX8_years_41 : decode cX8_years 41 = .ok (.iconst 0, 1) := by decide +kernel
theorem dX8_years_42 : decode cX8_years 42 = .ok (.istore_n 3, 1) := by decide +kernel
theorem dX8_years_43 : decode cX8_years 43 = .ok (.iload_n 3, 1) := by decide +kernel
theorem dX8_years_44 : decode cX8_years 44 = .ok (.aload_n 0, 1) := by decide +kernel
theorem dX8_years_45 : decode cX8_years 45 = .ok (.getfield 242, 3) := by decide +kernel
theorem dX8_years_48 : decode cX8_years 48 = .ok (.if_icmp .ge 34, 3) := by decide +kernel
theorem dX8_years_51 : decode cX8_years 51 = .ok (.iload_n 2, 1) := by decide +kernel
theorem dX8_years_52 : decode cX8_years 52 = .ok (.aload_n 0, 1) := by decide +kernel
theorem dX8_years_53 : decode cX8_years 53 = .ok (.getfield 46, 3) := by decide +kernel
theorem dX8_years_56 : decode cX8_years 56 = .ok (.iload_n 3, 1) := by decide +kernel
theorem dX8_years_57 : decode cX8_years 57 = .ok (.iaload, 1) := by decide +kernel
theorem dX8_years_58 : decode cX8_years 58 = .ok (.aload_n 0, 1) := by decide +kernel
theorem dX8_years_59 : decode cX8_years 59 = .ok (.getfield 52, 3) := by decide +kernel
theorem dX8_years_62 : decode cX8_years 62 = .ok (.iload_n 3, 1) := by decide +kernel
theorem dX8_years_63 : decode cX8_years 63 = .ok (.iaload, 1) := by decide +kernel
theorem dX8_years_64 : decode cX8_years 64 = .ok (.if_icmp .eq 9, 3) := by decide +kernel
theorem dX8_years_67 : decode cX8_years 67 = .ok (.iconst 1, 1) := by decide +kernel
theorem dX8_years_68 : decode cX8_years 68 = .ok (.iload_n 3, 1) := by decide +kernel
theorem dX8_years_69 : decode cX8_years 69 = .ok (.ishl, 1) := by decide +kernel
theorem dX8_years_70 : decode cX8_years 70 = .ok (.goto 4, 3) := by decide +kernel
theorem dX8_years_73 : decode cX8_years 73 = .ok (.iconst 0, 1) := by decide +kernel
theorem dX8_years_74 : decode cX8_years 74 = .ok (.ior, 1) := by decide +kernel
theorem dX8_years_75 : decode cX8_years 75 = .ok (.istore_n 2, 1) := by decide +kernel
theorem dX8_years_76 : decode cX8_years 76 = .ok (.iinc 3 1, 3) := by decide +kernel
theorem dX8_years_79 : decode cX8_years 79 = .ok (.goto (-36), 3) := by decide +kernel
theorem dX8_years_82 : decode cX8_years 82 = .ok (.iload_n 2, 1) := by decide +kernel
theorem dX8_years_83 : decode cX8_years 83 = .ok (.ireturn, 1) := by decide +kernel
theorem dX8_haveWay_0 : decode cX8_haveWay 0 = .ok (.iconst 0, 1) := by decide +kernel
theorem dX8_haveWay_1 : decode cX8_haveWay 1 = .ok (.istore_n 2, 1) := by decide +kernel
theorem dX8_haveWay_2 : decode cX8_haveWay 2 = .ok (.iconst 0, 1) := by decide +kernel
theorem dX8_haveWay_3 : decode cX8_haveWay 3 = .ok (.istore_n 3, 1) := by decide +kernel
theorem dX8_haveWay_4 : decode cX8_haveWay 4 = .ok (.iload_n 3, 1) := by decide +kernel
theorem dX8_haveWay_5 : decode cX8_haveWay 5 = .ok (.aload_n 0, 1) := by decide +kernel
theorem dX8_haveWay_6 : decode cX8_haveWay 6 = .ok (.getfield 242, 3) := by decide +kernel
theorem dX8_haveWay_9 : decode cX8_haveWay 9 = .ok (.if_icmp .ge 27, 3) := by decide +kernel
theorem dX8_haveWay_12 : decode cX8_haveWay 12 = .ok (.iload_n 2, 1) := by decide +kernel
theorem dX8_haveWay_13 : decode cX8_haveWay 13 = .ok (.aload_n 0, 1) := by decide +kernel
theorem dX8_haveWay_14 : decode cX8_haveWay 14 = .ok (.getfield 46, 3) := by decide +kernel
theorem dX8_haveWay_17 : decode cX8_haveWay 17 = .ok (.iload_n 3, 1) := by decide +kernel
theorem dX8_haveWay_18 : decode cX8_haveWay 18 = .ok (.iaload, 1) := by decide +kernel
theorem dX8_haveWay_19 : decode cX8_haveWay 19 = .ok (.iload_n 1, 1) := by decide +kernel
theorem dX8_haveWay_20 : decode cX8_haveWay 20 = .ok (.if_icmp .ne 7, 3) := by decide +kernel
theorem dX8_haveWay_23 : decode cX8_haveWay 23 = .ok (.iconst 1, 1) := by decide +kernel
theorem dX8_haveWay_24 : decode cX8_haveWay 24 = .ok (.goto 4, 3) := by decide +kernel
theorem dX8_haveWay_27 : decode cX8_haveWay 27 = .ok (.iconst 0, 1) := by decide +kernel
theorem dX8_haveWay_28 : decode cX8_haveWay 28 = .ok (.iadd, 1) := by decide +kernel
theorem dX8_haveWay_29 : decode cX8_haveWay 29 = .ok (.istore_n 2, 1) := by decide +kernel
theorem dX8_haveWay_30 : decode cX8_haveWay 30 = .ok (.iinc 3 1, 3) := by decide +kernel
theorem dX8_haveWay_33 : decode cX8_haveWay 33 = .ok (.goto (-29), 3) := by decide +kernel
theorem dX8_haveWay_36 : decode cX8_haveWay 36 = .ok (.iload_n 2, 1) := by decide +kernel
theorem dX8_haveWay_37 : decode cX8_haveWay 37 = .ok (.ireturn, 1) := by decide +kernel
theorem dX8_who_0 : decode cX8_who 0 = .ok (.iload_n 1, 1) := by decide +kernel
theorem dX8_who_1 : decode cX8_who 1 = .ok (.invokestatic 135, 3) := by decide +kernel
theorem dX8_who_4 : decode cX8_who 4 = .ok (.ifCond .eq 11, 3) := by decide +kernel
theorem dX8_who_7 : decode cX8_who 7 = .ok (.aload_n 0, 1) := by decide +kernel
theorem dX8_who_8 : decode cX8_who 8 = .ok (.iload_n 1, 1) := by decide +kernel
theorem dX8_who_9 : decode cX8_who 9 = .ok (.invokevirtual 260, 3) := by decide +kernel
theorem dX8_who_12 : decode cX8_who 12 = .ok (.goto 4, 3) := by decide +kernel
theorem dX8_who_15 : decode cX8_who 15 = .ok (.iconst (-1), 1) := by decide +kernel
theorem dX8_who_16 : decode cX8_who 16 = .ok (.ireturn, 1) := by decide +kernel
theorem dX8_all_0 : decode cX8_all 0 = .ok (.aload_n 0, 1) := by decide +kernel
theorem dX8_all_1 : decode cX8_all 1 = .ok (.getfield 242, 3) := by decide +kernel
theorem dX8_all_4 : decode cX8_all 4 = .ok (.ifCond .ne 6, 3) := by decide +kernel
theorem dX8_all_7 : decode cX8_all 7 = .ok (.bipush (-2), 2) := by decide +kernel
theorem dX8_all_9 : decode cX8_all 9 = .ok (.ireturn, 1) := by decide +kernel
theorem dX8_all_10 : decode cX8_all 10 = .ok (.aload_n 0, 1) := by decide +kernel
theorem dX8_all_11 : decode cX8_all 11 = .ok (.invokevirtual 251, 3) := by decide +kernel
theorem dX8_all_14 : decode cX8_all 14 = .ok (.aload_n 0, 1) := by decide +kernel
theorem dX8_all_15 : decode cX8_all 15 = .ok (.invokevirtual 254, 3) := by decide +kernel
theorem dX8_all_18 : decode cX8_all 18 = .ok (.iconst 0, 1) := by decide +kernel
theorem dX8_all_19 : decode cX8_all 19 = .ok (.istore_n 1, 1) := by decide +kernel
theorem dX8_all_20 : decode cX8_all 20 = .ok (.aload_n 0, 1) := by decide +kernel
theorem dX8_all_21 : decode cX8_all 21 = .ok (.aload_n 0, 1) := by decide +kernel
theorem dX8_all_22 : decode cX8_all 22 = .ok (.getfield 46, 3) := by decide +kernel
theorem dX8_all_25 : decode cX8_all 25 = .ok (.iconst 0, 1) := by decide +kernel
theorem dX8_all_26 : decode cX8_all 26 = .ok (.iaload, 1) := by decide +kernel
theorem dX8_all_27 : decode cX8_all 27 = .ok (.invokevirtual 260, 3) := by decide +kernel
theorem dX8_all_30 : decode cX8_all 30 = .ok (.aload_n 0, 1) := by decide +kernel
theorem dX8_all_31 : decode cX8_all 31 = .ok (.getfield 242, 3) := by decide +kernel
theorem dX8_all_34 : decode cX8_all 34 = .ok (.if_icmp .ge 19, 3) := by decide +kernel
theorem dX8_all_37 : decode cX8_all 37 = .ok (.iload_n 1, 1) := by decide +kernel
theorem dX8_all_38 : decode cX8_all 38 = .ok (.bipush 40, 2) := by decide +kernel
theorem dX8_all_40 : decode cX8_all 40 = .ok (.if_icmp .gt 13, 3) := by decide +kernel
theorem dX8_all_43 : decode cX8_all 43 = .ok (.aload_n 0, 1) := by decide +kernel
theorem dX8_all_44 : decode cX8_all 44 = .ok (.invokevirtual 257, 3) := by decide +kernel
theorem dX8_all_47 : decode cX8_all 47 = .ok (.iinc 1 1, 3) := by decide +kernel
theorem dX8_all_50 : decode cX8_all 50 = .ok (.goto (-30), 3) := by decide +kernel
theorem dX8_all_53 : decode cX8_all 53 = .ok (.aload_n 0, 1) := by decide +kernel
theorem dX8_all_54 : decode cX8_all 54 = .ok (.invokevirtual 263, 3) := by decide +kernel
theorem dX8_all_57 : decode cX8_all 57 = .ok (.iload_n 1, 1) := by decide +kernel
theorem dX8_all_58 : decode cX8_all 58 = .ok (.bipush 40, 2) := by decide +kernel
theorem dX8_all_60 : decode cX8_all 60 = .ok (.if_icmp .le 8, 3) := by decide +kernel
theorem dX8_all_63 : decode cX8_all 63 = .ok (.bipush (-4), 2) := by decide +kernel
theorem dX8_all_65 : decode cX8_all 65 = .ok (.goto 4, 3) := by decide +kernel
theorem dX8_all_68 : decode cX8_all 68 = .ok (.iload_n 1, 1) := by decide +kernel
theorem dX8_all_69 : decode cX8_all 69 = .ok (.ireturn, 1) := by decide +kernel
theorem dX8_odd_0 : decode cX8_odd 0 = .ok (.aload_n 0, 1) := by decide +kernel
theorem dX8_odd_1 : decode cX8_odd 1 = .ok (.iload_n 1, 1) := by decide +kernel
theorem dX8_odd_2 : decode cX8_odd 2 = .ok (.invokevirtual 245, 3) := by decide +kernel
theorem dX8_odd_5 : decode cX8_odd 5 = .ok (.ifCond .eq 22, 3) := by decide +kernel
theorem dX8_odd_8 : decode cX8_odd 8 = .ok (.iload_n 2, 1) := by decide +kernel
theorem dX8_odd_9 : decode cX8_odd 9 = .ok (.invokestatic 135, 3) := by decide +kernel
theorem dX8_odd_12 : decode cX8_odd 12 = .ok (.ifCond .eq 15, 3) := by decide +kernel
theorem dX8_odd_15 : decode cX8_odd 15 = .ok (.iload_n 3, 1) := by decide +kernel
theorem dX8_odd_16 : decode cX8_odd 16 = .ok (.i2l, 1) := by decide +kernel
theorem dX8_odd_17 : decode cX8_odd 17 = .ok (.lconst 0, 1) := by decide +kernel
theorem dX8_odd_18 : decode cX8_odd 18 = .ok (.ldc2_w 236, 3) := by decide +kernel
theorem dX8_odd_21 : decode cX8_odd 21 = .ok (.invokestatic 71, 3) := by decide +kernel
theorem dX8_odd_24 : decode cX8_odd 24 = .ok (.ifCond .ne 5, 3) := by decide +kernel
theorem dX8_odd_27 : decode cX8_odd 27 = .ok (.iconst (-1), 1) := by decide +kernel
theorem dX8_odd_28 : decode cX8_odd 28 = .ok (.ireturn, 1) := by decide +kernel
theorem dX8_odd_29 : decode cX8_odd 29 = .ok (.aload_n 0, 1) := by decide +kernel
theorem dX8_odd_30 : decode cX8_odd 30 = .ok (.invokevirtual 251, 3) := by decide +kernel
theorem dX8_odd_33 : decode cX8_odd 33 = .ok (.aload_n 0, 1) := by decide +kernel
theorem dX8_odd_34 : decode cX8_odd 34 = .ok (.invokevirtual 254, 3) := by decide +kernel
theorem dX8_odd_37 : decode cX8_odd 37 = .ok (.aload_n 0, 1) := by decide +kernel
theorem dX8_odd_38 : decode cX8_odd 38 = .ok (.getfield 46, 3) := by decide +kernel
theorem dX8_odd_41 : decode cX8_odd 41 = .ok (.iload_n 1, 1) := by decide +kernel
theorem dX8_odd_42 : decode cX8_odd 42 = .ok (.iload_n 2, 1) := by decide +kernel
theorem dX8_odd_43 : decode cX8_odd 43 = .ok (.iastore, 1) := by decide +kernel
theorem dX8_odd_44 : decode cX8_odd 44 = .ok (.iconst 0, 1) := by decide +kernel
theorem dX8_odd_45 : decode cX8_odd 45 = .ok (.istore 4, 2) := by decide +kernel
theorem dX8_odd_47 : decode cX8_odd 47 = .ok (.iload 4, 2) := by decide +kernel
theorem dX8_odd_49 : decode cX8_odd 49 = .ok (.iload_n 3, 1) := by decide +kernel
theorem dX8_odd_50 : decode cX8_odd 50 = .ok (.if_icmp .ge 13, 3) := by decide +kernel
theorem dX8_odd_53 : decode cX8_odd 53 = .ok (.aload_n 0, 1) := by decide +kernel
theorem dX8_odd_54 : decode cX8_odd 54 = .ok (.invokevirtual 257, 3) := by decide +kernel
theorem dX8_odd_57 : decode cX8_odd 57 = .ok (.iinc 4 1, 3) := by decide +kernel
theorem dX8_odd_60 : decode cX8_odd 60 = .ok (.goto (-13), 3) := by decide +kernel
theorem dX8_odd_63 : decode cX8_odd 63 = .ok (.aload_n 0, 1) := by decide +kernel
theorem dX8_odd_64 : decode cX8_odd 64 = .ok (.iload_n 2, 1) := by decide +kernel
theorem dX8_odd_65 : decode cX8_odd 65 = .ok (.invokevirtual 260, 3) := by decide +kernel
theorem dX8_odd_68 : decode cX8_odd 68 = .ok (.istore 4, 2) := by decide +kernel
theorem dX8_odd_70 : decode cX8_odd 70 = .ok (.aload_n 0, 1) := by decide +kernel
theorem dX8_odd_71 : decode cX8_odd 71 = .ok (.invokevirtual 263, 3) := by decide +kernel
theorem dX8_odd_74 : decode cX8_odd 74 = .ok (.iload 4, 2) := by decide +kernel
theorem dX8_odd_76 : decode cX8_odd 76 = .ok (.ireturn, 1) := by decide +kernel
theorem dX8_inLowest_0 : decode cX8_inLowest 0 = .ok (.iload_n 0, 1) := by decide +kernel
theorem dX8_inLowest_1 : decode cX8_inLowest 1 = .ok (.istore_n 3, 1) := by decide +kernel
theorem dX8_inLowest_2 : decode cX8_inLowest 2 = .ok (.iload_n 1, 1) := by decide +kernel
theorem dX8_inLowest_3 : decode cX8_inLowest 3 = .ok (.istore 4, 2) := by decide +kernel
theorem dX8_inLowest_5 : decode cX8_inLowest 5 = .ok (.iload 4, 2) := by decide +kernel
theorem dX8_inLowest_7 : decode cX8_inLowest 7 = .ok (.ifCond .eq 19, 3) := by decide +kernel
theorem dX8_inLowest_10 : decode cX8_inLowest 10 = .ok (.iload_n 3, 1) := by decide +kernel
theorem dX8_inLowest_11 : decode cX8_inLowest 11 = .ok (.iload 4, 2) := by decide +kernel
theorem dX8_inLowest_13 : decode cX8_inLowest 13 = .ok (.irem, 1) := by decide +kernel
theorem dX8_inLowest_14 : decode cX8_inLowest 14 = .ok (.istore 5, 2) := by decide +kernel
theorem dX8_inLowest_16 : decode cX8_inLowest 16 = .ok (.iload 4, 2) := by decide +kernel
theorem dX8_inLowest_18 : decode cX8_inLowest 18 = .ok (.istore_n 3, 1) := by decide +kernel
theorem dX8_inLowest_19 : decode cX8_inLowest 19 = .ok (.iload 5, 2) := by decide +kernel
theorem dX8_inLowest_21 : decode cX8_inLowest 21 = .ok (.istore 4, 2) := by decide +kernel
theorem dX8_inLowest_23 : decode cX8_inLowest 23 = .ok (.goto (-18), 3) := by decide +kernel
theorem dX8_inLowest_26 : decode cX8_inLowest 26 = .ok (.iload_n 2, 1) := by decide +kernel
theorem dX8_inLowest_27 : decode cX8_inLowest 27 = .ok (.ifCond .ne 7, 3) := by decide +kernel
theorem dX8_inLowest_30 : decode cX8_inLowest 30 = .ok (.iload_n 0, 1) := by decide +kernel
theorem dX8_inLowest_31 : decode cX8_inLowest 31 = .ok (.goto 4, 3) := by decide +kernel
theorem dX8_inLowest_34 : decode cX8_inLowest 34 = .ok (.iload_n 1, 1) := by decide +kernel
theorem dX8_inLowest_35 : decode cX8_inLowest 35 = .ok (.iload_n 3, 1) := by decide +kernel
theorem dX8_inLowest_36 : decode cX8_inLowest 36 = .ok (.idiv, 1) := by decide +kernel
theorem dX8_inLowest_37 : decode cX8_inLowest 37 = .ok (.ireturn, 1) := by decide +kernel
theorem dX8_failing_0 : decode cX8_failing 0 = .ok (.iconst 0, 1) := by decide +kernel
theorem dX8_failing_1 : decode cX8_failing 1 = .ok (.istore_n 3, 1) := by decide +kernel
theorem dX8_failing_2 : decode cX8_failing 2 = .ok (.iconst 0, 1) := by decide +kernel
theorem dX8_failing_3 : decode cX8_failing 3 = .ok (.istore 4, 2) := by decide +kernel
theorem dX8_failing_5 : decode cX8_failing 5 = .ok (.iload 4, 2) := by decide +kernel
theorem dX8_failing_7 : decode cX8_failing 7 = .ok (.iload_n 2, 1) := by decide +kernel
theorem dX8_failing_8 : decode cX8_failing 8 = .ok (.if_icmp .gt 25, 3) := by decide +kernel
theorem dX8_failing_11 : decode cX8_failing 11 = .ok (.iload_n 3, 1) := by decide +kernel
theorem dX8_failing_12 : decode cX8_failing 12 = .ok (.iload_n 0, 1) := by decide +kernel
theorem dX8_failing_13 : decode cX8_failing 13 = .ok (.iload 4, 2) := by decide +kernel
theorem dX8_failing_15 : decode cX8_failing 15 = .ok (.isub, 1) := by decide +kernel
theorem dX8_failing_16 : decode cX8_failing 16 = .ok (.iload_n 1, 1) := by decide +kernel
theorem dX8_failing_17 : decode cX8_failing 17 = .ok (.if_icmp .ge 7, 3) := by decide +kernel
theorem dX8_failing_20 : decode cX8_failing 20 = .ok (.iconst 1, 1) := by decide +kernel
theorem dX8_failing_21 : decode cX8_failing 21 = .ok (.goto 4, 3) := by decide +kernel
theorem dX8_failing_24 : decode cX8_failing 24 = .ok (.iconst 0, 1) := by decide +kernel
theorem dX8_failing_25 : decode cX8_failing 25 = .ok (.iadd, 1) := by decide +kernel
theorem dX8_failing_26 : decode cX8_failing 26 = .ok (.istore_n 3, 1) := by decide +kernel
theorem dX8_failing_27 : decode cX8_failing 27 = .ok (.iinc 4 1, 3) := by decide +kernel
theorem dX8_failing_30 : decode cX8_failing 30 = .ok (.goto (-25), 3) := by decide +kernel
theorem dX8_failing_33 : decode cX8_failing 33 = .ok (.iload_n 3, 1) := by decide +kernel
theorem dX8_failing_34 : decode cX8_failing 34 = .ok (.ireturn, 1) := by decide +kernel
theorem dX8_odds_0 : decode cX8_odds 0 = .ok (.aload_n 0, 1) := by decide +kernel
theorem dX8_odds_1 : decode cX8_odds 1 = .ok (.iload_n 1, 1) := by decide +kernel
theorem dX8_odds_2 : decode cX8_odds 2 = .ok (.invokevirtual 139, 3) := by decide +kernel
theorem dX8_odds_5 : decode cX8_odds 5 = .ok (.ifCond .eq 50, 3) := by decide +kernel
theorem dX8_odds_8 : decode cX8_odds 8 = .ok (.iload_n 2, 1) := by decide +kernel
theorem dX8_odds_9 : decode cX8_odds 9 = .ok (.i2l, 1) := by decide +kernel
theorem dX8_odds_10 : decode cX8_odds 10 = .ok (.lconst 0, 1) := by decide +kernel
theorem dX8_odds_11 : decode cX8_odds 11 = .ok (.ldc2_w 238, 3) := by decide +kernel
theorem dX8_odds_14 : decode cX8_odds 14 = .ok (.invokestatic 71, 3) := by decide +kernel
theorem dX8_odds_17 : decode cX8_odds 17 = .ok (.ifCond .eq 38, 3) := by decide +kernel
theorem dX8_odds_20 : decode cX8_odds 20 = .ok (.iload_n 3, 1) := by decide +kernel
theorem dX8_odds_21 : decode cX8_odds 21 = .ok (.i2l, 1) := by decide +kernel
theorem dX8_odds_22 : decode cX8_odds 22 = .ok (.lconst 0, 1) := by decide +kernel
theorem dX8_odds_23 : decode cX8_odds 23 = .ok (.ldc2_w 236, 3) := by decide +kernel
theorem dX8_odds_26 : decode cX8_odds 26 = .ok (.invokestatic 71, 3) := by decide +kernel
theorem dX8_odds_29 : decode cX8_odds 29 = .ok (.ifCond .eq 26, 3) := by decide +kernel
theorem dX8_odds_32 : decode cX8_odds 32 = .ok (.iload 4, 2) := by decide +kernel
theorem dX8_odds_34 : decode cX8_odds 34 = .ok (.iconst 1, 1) := by decide +kernel
theorem dX8_odds_35 : decode cX8_odds 35 = .ok (.if_icmp .eq 9, 3) := by decide +kernel
theorem dX8_odds_38 : decode cX8_odds 38 = .ok (.iload 4, 2) := by decide +kernel
theorem dX8_odds_40 : decode cX8_odds 40 = .ok (.iconst 3, 1) := by decide +kernel
theorem dX8_odds_41 : decode cX8_odds 41 = .ok (.if_icmp .ne 14, 3) := by decide +kernel
theorem dX8_odds_44 : decode cX8_odds 44 = .ok (.iload 5, 2) := by decide +kernel
theorem dX8_odds_46 : decode cX8_odds 46 = .ok (.i2l, 1) := by decide +kernel
theorem dX8_odds_47 : decode cX8_odds 47 = .ok (.lconst 0, 1) := by decide +kernel
theorem dX8_odds_48 : decode cX8_odds 48 = .ok (.lconst 1, 1) := by decide +kernel
theorem dX8_odds_49 : decode cX8_odds 49 = .ok (.invokestatic 71, 3) := by decide +kernel
theorem dX8_odds_52 : decode cX8_odds 52 = .ok (.ifCond .ne 5, 3) := by decide +kernel
theorem dX8_odds_55 : decode cX8_odds 55 = .ok (.iconst (-1), 1) := by decide +kernel
theorem dX8_odds_56 : decode cX8_odds 56 = .ok (.ireturn, 1) := by decide +kernel
theorem dX8_odds_57 : decode cX8_odds 57 = .ok (.aload_n 0, 1) := by decide +kernel
theorem dX8_odds_58 : decode cX8_odds 58 = .ok (.iload_n 1, 1) := by decide +kernel
theorem dX8_odds_59 : decode cX8_odds 59 = .ok (.invokevirtual 187, 3) := by decide +kernel
theorem dX8_odds_62 : decode cX8_odds 62 = .ok (.istore 6, 2) := by decide +kernel
theorem dX8_odds_64 : decode cX8_odds 64 = .ok (.iload 6, 2) := by decide +kernel
theorem dX8_odds_66 : decode cX8_odds 66 = .ok (.bipush (-4), 2) := by decide +kernel
theorem dX8_odds_68 : decode cX8_odds 68 = .ok (.if_icmp .ne 6, 3) := by decide +kernel
theorem dX8_odds_71 : decode cX8_odds 71 = .ok (.bipush (-2), 2) := by decide +kernel
theorem dX8_odds_73 : decode cX8_odds 73 = .ok (.ireturn, 1) := by decide +kernel
theorem dX8_odds_74 : decode cX8_odds 74 = .ok (.iload 6, 2) := by decide +kernel
theorem dX8_odds_76 : decode cX8_odds 76 = .ok (.iload_n 2, 1) := by decide +kernel
theorem dX8_odds_77 : decode cX8_odds 77 = .ok (.iload_n 3, 1) := by decide +kernel
theorem dX8_odds_78 : decode cX8_odds 78 = .ok (.invokestatic 266, 3) := by decide +kernel
theorem dX8_odds_81 : decode cX8_odds 81 = .ok (.istore 7, 2) := by decide +kernel
theorem dX8_odds_83 : decode cX8_odds 83 = .ok (.iload_n 3, 1) := by decide +kernel
theorem dX8_odds_84 : decode cX8_odds 84 = .ok (.iconst 1, 1) := by decide +kernel
theorem dX8_odds_85 : decode cX8_odds 85 = .ok (.iadd, 1) := by decide +kernel
theorem dX8_odds_86 : decode cX8_odds 86 = .ok (.istore 8, 2) := by decide +kernel
theorem dX8_odds_88 : decode cX8_odds 88 = .ok (.iload 4, 2) := by decide +kernel
theorem dX8_odds_90 : decode cX8_odds 90 = .ok (.iconst 1, 1) := by decide +kernel
theorem dX8_odds_91 : decode cX8_odds 91 = .ok (.if_icmp .ne 18, 3) := by decide +kernel
theorem dX8_odds_94 : decode cX8_odds 94 = .ok (.iload 8, 2) := by decide +kernel
theorem dX8_odds_96 : decode cX8_odds 96 = .ok (.iload 7, 2) := by decide +kernel
theorem dX8_odds_98 : decode cX8_odds 98 = .ok (.isub, 1) := by decide +kernel
theorem dX8_odds_99 : decode cX8_odds 99 = .ok (.iload 8, 2) := by decide +kernel
theorem dX8_odds_101 : decode cX8_odds 101 = .ok (.iload 5, 2) := by decide +kernel
theorem dX8_odds_103 : decode cX8_odds 103 = .ok (.invokestatic 270, 3) := by decide +kernel
theorem dX8_odds_106 : decode cX8_odds 106 = .ok (.goto 33, 3) := by decide +kernel
theorem dX8_odds_109 : decode cX8_odds 109 = .ok (.iload 8, 2) := by decide +kernel
theorem dX8_odds_111 : decode cX8_odds 111 = .ok (.iload 8, 2) := by decide +kernel
theorem dX8_odds_113 : decode cX8_odds 113 = .ok (.imul, 1) := by decide +kernel
theorem dX8_odds_114 : decode cX8_odds 114 = .ok (.iload 8, 2) := by decide +kernel
theorem dX8_odds_116 : decode cX8_odds 116 = .ok (.imul, 1) := by decide +kernel
theorem dX8_odds_117 : decode cX8_odds 117 = .ok (.iload 7, 2) := by decide +kernel
theorem dX8_odds_119 : decode cX8_odds 119 = .ok (.iload 7, 2) := by decide +kernel
theorem dX8_odds_121 : decode cX8_odds 121 = .ok (.imul, 1) := by decide +kernel
theorem dX8_odds_122 : decode cX8_odds 122 = .ok (.iload 7, 2) := by decide +kernel
theorem dX8_odds_124 : decode cX8_odds 124 = .ok (.imul, 1) := by decide +kernel
theorem dX8_odds_125 : decode cX8_odds 125 = .ok (.isub, 1) := by decide +kernel
theorem dX8_odds_126 : decode cX8_odds 126 = .ok (.iload 8, 2) := by decide +kernel
theorem dX8_odds_128 : decode cX8_odds 128 = .ok (.iload 8, 2) := by decide +kernel
theorem dX8_odds_130 : decode cX8_odds 130 = .ok (.imul, 1) := by decide +kernel
theorem dX8_odds_131 : decode cX8_odds 131 = .ok (.iload 8, 2) := by decide +kernel
theorem dX8_odds_133 : decode cX8_odds 133 = .ok (.imul, 1) := by decide +kernel
theorem dX8_odds_134 : decode cX8_odds 134 = .ok (.iload 5, 2) := by decide +kernel
theorem dX8_odds_136 : decode cX8_odds 136 = .ok (.invokestatic 270, 3) := by decide +kernel
theorem dX8_odds_139 : decode cX8_odds 139 = .ok (.ireturn, 1) := by decide +kernel
theorem dX8_asks_0 : decode cX8_asks 0 = .ok (.aload_n 0, 1) := by decide +kernel
theorem dX8_asks_1 : decode cX8_asks 1 = .ok (.iload_n 1, 1) := by decide +kernel
theorem dX8_asks_2 : decode cX8_asks 2 = .ok (.invokevirtual 139, 3) := by decide +kernel
theorem dX8_asks_5 : decode cX8_asks 5 = .ok (.ifCond .eq 46, 3) := by decide +kernel
theorem dX8_asks_8 : decode cX8_asks 8 = .ok (.iload_n 2, 1) := by decide +kernel
theorem dX8_asks_9 : decode cX8_asks 9 = .ok (.i2l, 1) := by decide +kernel
theorem dX8_asks_10 : decode cX8_asks 10 = .ok (.lconst 0, 1) := by decide +kernel
theorem dX8_asks_11 : decode cX8_asks 11 = .ok (.ldc2_w 236, 3) := by decide +kernel
theorem dX8_asks_14 : decode cX8_asks 14 = .ok (.invokestatic 71, 3) := by decide +kernel
theorem dX8_asks_17 : decode cX8_asks 17 = .ok (.ifCond .eq 34, 3) := by decide +kernel
theorem dX8_asks_20 : decode cX8_asks 20 = .ok (.iload_n 3, 1) := by decide +kernel
theorem dX8_asks_21 : decode cX8_asks 21 = .ok (.i2l, 1) := by decide +kernel
theorem dX8_asks_22 : decode cX8_asks 22 = .ok (.lconst 1, 1) := by decide +kernel
theorem dX8_asks_23 : decode cX8_asks 23 = .ok (.ldc2_w 240, 3) := by decide +kernel
theorem dX8_asks_26 : decode cX8_asks 26 = .ok (.invokestatic 71, 3) := by decide +kernel
theorem dX8_asks_29 : decode cX8_asks 29 = .ok (.ifCond .eq 22, 3) := by decide +kernel
theorem dX8_asks_32 : decode cX8_asks 32 = .ok (.iload 4, 2) := by decide +kernel
theorem dX8_asks_34 : decode cX8_asks 34 = .ok (.i2l, 1) := by decide +kernel
theorem dX8_asks_35 : decode cX8_asks 35 = .ok (.lconst 1, 1) := by decide +kernel
theorem dX8_asks_36 : decode cX8_asks 36 = .ok (.ldc2_w 240, 3) := by decide +kernel
theorem dX8_asks_39 : decode cX8_asks 39 = .ok (.invokestatic 71, 3) := by decide +kernel
theorem dX8_asks_42 : decode cX8_asks 42 = .ok (.ifCond .eq 9, 3) := by decide +kernel
theorem dX8_asks_45 : decode cX8_asks 45 = .ok (.iload_n 3, 1) := by decide +kernel
theorem dX8_asks_46 : decode cX8_asks 46 = .ok (.iload 4, 2) := by decide +kernel
theorem dX8_asks_48 : decode cX8_asks 48 = .ok (.if_icmp .lt 5, 3) := by decide +kernel
theorem dX8_asks_51 : decode cX8_asks 51 = .ok (.iconst (-1), 1) := by decide +kernel
theorem dX8_asks_52 : decode cX8_asks 52 = .ok (.ireturn, 1) := by decide +kernel
theorem dX8_asks_53 : decode cX8_asks 53 = .ok (.aload_n 0, 1) := by decide +kernel
theorem dX8_asks_54 : decode cX8_asks 54 = .ok (.iload_n 1, 1) := by decide +kernel
theorem dX8_asks_55 : decode cX8_asks 55 = .ok (.invokevirtual 187, 3) := by decide +kernel
theorem dX8_asks_58 : decode cX8_asks 58 = .ok (.istore 5, 2) := by decide +kernel
theorem dX8_asks_60 : decode cX8_asks 60 = .ok (.iload 5, 2) := by decide +kernel
theorem dX8_asks_62 : decode cX8_asks 62 = .ok (.bipush (-4), 2) := by decide +kernel
theorem dX8_asks_64 : decode cX8_asks 64 = .ok (.if_icmp .ne 6, 3) := by decide +kernel
theorem dX8_asks_67 : decode cX8_asks 67 = .ok (.bipush (-2), 2) := by decide +kernel
theorem dX8_asks_69 : decode cX8_asks 69 = .ok (.ireturn, 1) := by decide +kernel
theorem dX8_asks_70 : decode cX8_asks 70 = .ok (.iload_n 2, 1) := by decide +kernel
theorem dX8_asks_71 : decode cX8_asks 71 = .ok (.iconst 1, 1) := by decide +kernel
theorem dX8_asks_72 : decode cX8_asks 72 = .ok (.iadd, 1) := by decide +kernel
theorem dX8_asks_73 : decode cX8_asks 73 = .ok (.iload_n 2, 1) := by decide +kernel
theorem dX8_asks_74 : decode cX8_asks 74 = .ok (.iconst 1, 1) := by decide +kernel
theorem dX8_asks_75 : decode cX8_asks 75 = .ok (.iadd, 1) := by decide +kernel
theorem dX8_asks_76 : decode cX8_asks 76 = .ok (.imul, 1) := by decide +kernel
theorem dX8_asks_77 : decode cX8_asks 77 = .ok (.iload_n 2, 1) := by decide +kernel
theorem dX8_asks_78 : decode cX8_asks 78 = .ok (.iconst 1, 1) := by decide +kernel
theorem dX8_asks_79 : decode cX8_asks 79 = .ok (.iadd, 1) := by decide +kernel
theorem dX8_asks_80 : decode cX8_asks 80 = .ok (.imul, 1) := by decide +kernel
theorem dX8_asks_81 : decode cX8_asks 81 = .ok (.istore 6, 2) := by decide +kernel
theorem dX8_asks_83 : decode cX8_asks 83 = .ok (.sipush 999, 3) := by decide +kernel
theorem dX8_asks_86 : decode cX8_asks 86 = .ok (.istore 7, 2) := by decide +kernel
theorem dX8_asks_88 : decode cX8_asks 88 = .ok (.iload 7, 2) := by decide +kernel
theorem dX8_asks_90 : decode cX8_asks 90 = .ok (.ifCond .lt 43, 3) := by decide +kernel
theorem dX8_asks_93 : decode cX8_asks 93 = .ok (.iload 5, 2) := by decide +kernel
theorem dX8_asks_95 : decode cX8_asks 95 = .ok (.iload 7, 2) := by decide +kernel
theorem dX8_asks_97 : decode cX8_asks 97 = .ok (.iload_n 2, 1) := by decide +kernel
theorem dX8_asks_98 : decode cX8_asks 98 = .ok (.invokestatic 266, 3) := by decide +kernel
theorem dX8_asks_101 : decode cX8_asks 101 = .ok (.istore 8, 2) := by decide +kernel
theorem dX8_asks_103 : decode cX8_asks 103 = .ok (.iload 6, 2) := by decide +kernel
theorem dX8_asks_105 : decode cX8_asks 105 = .ok (.iload 8, 2) := by decide +kernel
theorem dX8_asks_107 : decode cX8_asks 107 = .ok (.iload 8, 2) := by decide +kernel
theorem dX8_asks_109 : decode cX8_asks 109 = .ok (.imul, 1) := by decide +kernel
theorem dX8_asks_110 : decode cX8_asks 110 = .ok (.iload 8, 2) := by decide +kernel
theorem dX8_asks_112 : decode cX8_asks 112 = .ok (.imul, 1) := by decide +kernel
theorem dX8_asks_113 : decode cX8_asks 113 = .ok (.isub, 1) := by decide +kernel
theorem dX8_asks_114 : decode cX8_asks 114 = .ok (.iload 4, 2) := by decide +kernel
theorem dX8_asks_116 : decode cX8_asks 116 = .ok (.imul, 1) := by decide +kernel
theorem dX8_asks_117 : decode cX8_asks 117 = .ok (.iload_n 3, 1) := by decide +kernel
theorem dX8_asks_118 : decode cX8_asks 118 = .ok (.iload 6, 2) := by decide +kernel
theorem dX8_asks_120 : decode cX8_asks 120 = .ok (.imul, 1) := by decide +kernel
theorem dX8_asks_121 : decode cX8_asks 121 = .ok (.if_icmp .lt 6, 3) := by decide +kernel
theorem dX8_asks_124 : decode cX8_asks 124 = .ok (.iload 7, 2) := by decide +kernel
theorem dX8_asks_126 : decode cX8_asks 126 = .ok (.ireturn, 1) := by decide +kernel
theorem dX8_asks_127 : decode cX8_asks 127 = .ok (.iinc 7 (-1), 3) := by decide +kernel
theorem dX8_asks_130 : decode cX8_asks 130 = .ok (.goto (-42), 3) := by decide +kernel
theorem dX8_asks_133 : decode cX8_asks 133 = .ok (.bipush (-4), 2) := by decide +kernel
theorem dX8_asks_135 : decode cX8_asks 135 = .ok (.ireturn, 1) := by decide +kernel
theorem dX8_sheet_0 : decode cX8_sheet 0 = .ok (.iload_n 1, 1) := by decide +kernel
theorem dX8_sheet_1 : decode cX8_sheet 1 = .ok (.i2l, 1) := by decide +kernel
theorem dX8_sheet_2 : decode cX8_sheet 2 = .ok (.lconst 0, 1) := by decide +kernel
theorem dX8_sheet_3 : decode cX8_sheet 3 = .ok (.ldc2_w 142, 3) := by decide +kernel
theorem dX8_sheet_6 : decode cX8_sheet 6 = .ok (.invokestatic 71, 3) := by decide +kernel
theorem dX8_sheet_9 : decode cX8_sheet 9 = .ok (.ifCond .eq 21, 3) := by decide +kernel
theorem dX8_sheet_12 : decode cX8_sheet 12 = .ok (.iload_n 2, 1) := by decide +kernel
theorem dX8_sheet_13 : decode cX8_sheet 13 = .ok (.i2l, 1) := by decide +kernel
theorem dX8_sheet_14 : decode cX8_sheet 14 = .ok (.lconst 0, 1) := by decide +kernel
theorem dX8_sheet_15 : decode cX8_sheet 15 = .ok (.ldc2_w 144, 3) := by decide +kernel
theorem dX8_sheet_18 : decode cX8_sheet 18 = .ok (.invokestatic 71, 3) := by decide +kernel
theorem dX8_sheet_21 : decode cX8_sheet 21 = .ok (.ifCond .eq 9, 3) := by decide +kernel
theorem dX8_sheet_24 : decode cX8_sheet 24 = .ok (.iload_n 3, 1) := by decide +kernel
theorem dX8_sheet_25 : decode cX8_sheet 25 = .ok (.bipush 64, 2) := by decide +kernel
theorem dX8_sheet_27 : decode cX8_sheet 27 = .ok (.if_icmp .le 5, 3) := by decide +kernel
theorem dX8_sheet_30 : decode cX8_sheet 30 = .ok (.iconst (-1), 1) := by decide +kernel
theorem dX8_sheet_31 : decode cX8_sheet 31 = .ok (.ireturn, 1) := by decide +kernel
theorem dX8_sheet_32 : decode cX8_sheet 32 = .ok (.iload_n 3, 1) := by decide +kernel
theorem dX8_sheet_33 : decode cX8_sheet 33 = .ok (.ifCond .ge 6, 3) := by decide +kernel
theorem dX8_sheet_36 : decode cX8_sheet 36 = .ok (.bipush (-14), 2) := by decide +kernel
theorem dX8_sheet_38 : decode cX8_sheet 38 = .ok (.ireturn, 1) := by decide +kernel
theorem dX8_sheet_39 : decode cX8_sheet 39 = .ok (.aload_n 0, 1) := by decide +kernel
theorem dX8_sheet_40 : decode cX8_sheet 40 = .ok (.getfield 58, 3) := by decide +kernel
theorem dX8_sheet_43 : decode cX8_sheet 43 = .ok (.iload_n 1, 1) := by decide +kernel
theorem dX8_sheet_44 : decode cX8_sheet 44 = .ok (.iload_n 2, 1) := by decide +kernel
theorem dX8_sheet_45 : decode cX8_sheet 45 = .ok (.iastore, 1) := by decide +kernel
theorem dX8_sheet_46 : decode cX8_sheet 46 = .ok (.aload_n 0, 1) := by decide +kernel
theorem dX8_sheet_47 : decode cX8_sheet 47 = .ok (.getfield 61, 3) := by decide +kernel
theorem dX8_sheet_50 : decode cX8_sheet 50 = .ok (.iload_n 1, 1) := by decide +kernel
theorem dX8_sheet_51 : decode cX8_sheet 51 = .ok (.iload_n 3, 1) := by decide +kernel
theorem dX8_sheet_52 : decode cX8_sheet 52 = .ok (.iastore, 1) := by decide +kernel
theorem dX8_sheet_53 : decode cX8_sheet 53 = .ok (.iconst 0, 1) := by decide +kernel
theorem dX8_sheet_54 : decode cX8_sheet 54 = .ok (.istore 4, 2) := by decide +kernel
theorem dX8_sheet_56 : decode cX8_sheet 56 = .ok (.iload 4, 2) := by decide +kernel
theorem dX8_sheet_58 : decode cX8_sheet 58 = .ok (.bipush 64, 2) := by decide +kernel
theorem dX8_sheet_60 : decode cX8_sheet 60 = .ok (.if_icmp .ge 22, 3) := by decide +kernel
theorem dX8_sheet_63 : decode cX8_sheet 63 = .ok (.aload_n 0, 1) := by decide +kernel
theorem dX8_sheet_64 : decode cX8_sheet 64 = .ok (.getfield 64, 3) := by decide +kernel
theorem dX8_sheet_67 : decode cX8_sheet 67 = .ok (.bipush 64, 2) := by decide +kernel
theorem dX8_sheet_69 : decode cX8_sheet 69 = .ok (.iload_n 1, 1) := by decide +kernel
theorem dX8_sheet_70 : decode cX8_sheet 70 = .ok (.imul, 1) := by decide +kernel
theorem dX8_sheet_71 : decode cX8_sheet 71 = .ok (.iload 4, 2) := by decide +kernel
theorem dX8_sheet_73 : decode cX8_sheet 73 = .ok (.iadd, 1) := by decide +kernel
theorem dX8_sheet_74 : decode cX8_sheet 74 = .ok (.iconst 0, 1) := by decide +kernel
theorem dX8_sheet_75 : decode cX8_sheet 75 = .ok (.iastore, 1) := by decide +kernel
theorem dX8_sheet_76 : decode cX8_sheet 76 = .ok (.iinc 4 1, 3) := by decide +kernel
theorem dX8_sheet_79 : decode cX8_sheet 79 = .ok (.goto (-23), 3) := by decide +kernel
theorem dX8_sheet_82 : decode cX8_sheet 82 = .ok (.iconst 1, 1) := by decide +kernel
theorem dX8_sheet_83 : decode cX8_sheet 83 = .ok (.ireturn, 1) := by decide +kernel
theorem dX8_lay_0 : decode cX8_lay 0 = .ok (.iload_n 1, 1) := by decide +kernel
theorem dX8_lay_1 : decode cX8_lay 1 = .ok (.i2l, 1) := by decide +kernel
theorem dX8_lay_2 : decode cX8_lay 2 = .ok (.lconst 0, 1) := by decide +kernel
theorem dX8_lay_3 : decode cX8_lay 3 = .ok (.ldc2_w 142, 3) := by decide +kernel
theorem dX8_lay_6 : decode cX8_lay 6 = .ok (.invokestatic 71, 3) := by decide +kernel
theorem dX8_lay_9 : decode cX8_lay 9 = .ok (.ifCond .ne 5, 3) := by decide +kernel
theorem dX8_lay_12 : decode cX8_lay 12 = .ok (.iconst (-1), 1) := by decide +kernel
theorem dX8_lay_13 : decode cX8_lay 13 = .ok (.ireturn, 1) := by decide +kernel
theorem dX8_lay_14 : decode cX8_lay 14 = .ok (.aload_n 0, 1) := by decide +kernel
theorem dX8_lay_15 : decode cX8_lay 15 = .ok (.getfield 58, 3) := by decide +kernel
theorem dX8_lay_18 : decode cX8_lay 18 = .ok (.iload_n 1, 1) := by decide +kernel
theorem dX8_lay_19 : decode cX8_lay 19 = .ok (.iaload, 1) := by decide +kernel
theorem dX8_lay_20 : decode cX8_lay 20 = .ok (.bipush (-4), 2) := by decide +kernel
theorem dX8_lay_22 : decode cX8_lay 22 = .ok (.if_icmp .ne 6, 3) := by decide +kernel
theorem dX8_lay_25 : decode cX8_lay 25 = .ok (.bipush (-11), 2) := by decide +kernel
theorem dX8_lay_27 : decode cX8_lay 27 = .ok (.ireturn, 1) := by decide +kernel
theorem dX8_lay_28 : decode cX8_lay 28 = .ok (.iload_n 2, 1) := by decide +kernel
theorem dX8_lay_29 : decode cX8_lay 29 = .ok (.i2l, 1) := by decide +kernel
theorem dX8_lay_30 : decode cX8_lay 30 = .ok (.lconst 0, 1) := by decide +kernel
theorem dX8_lay_31 : decode cX8_lay 31 = .ok (.aload_n 0, 1) := by decide +kernel
theorem dX8_lay_32 : decode cX8_lay 32 = .ok (.getfield 61, 3) := by decide +kernel
theorem dX8_lay_35 : decode cX8_lay 35 = .ok (.iload_n 1, 1) := by decide +kernel
theorem dX8_lay_36 : decode cX8_lay 36 = .ok (.iaload, 1) := by decide +kernel
theorem dX8_lay_37 : decode cX8_lay 37 = .ok (.iconst 1, 1) := by decide +kernel
theorem dX8_lay_38 : decode cX8_lay 38 = .ok (.isub, 1) := by decide +kernel
theorem dX8_lay_39 : decode cX8_lay 39 = .ok (.i2l, 1) := by decide +kernel
theorem dX8_lay_40 : decode cX8_lay 40 = .ok (.invokestatic 71, 3) := by decide +kernel
theorem dX8_lay_43 : decode cX8_lay 43 = .ok (.ifCond .ne 6, 3) := by decide +kernel
theorem dX8_lay_46 : decode cX8_lay 46 = .ok (.bipush (-12), 2) := by decide +kernel
theorem dX8_lay_48 : decode cX8_lay 48 = .ok (.ireturn, 1) := by decide +kernel
theorem dX8_lay_49 : decode cX8_lay 49 = .ok (.aload_n 0, 1) := by decide +kernel
theorem dX8_lay_50 : decode cX8_lay 50 = .ok (.getfield 64, 3) := by decide +kernel
theorem dX8_lay_53 : decode cX8_lay 53 = .ok (.bipush 64, 2) := by decide +kernel
theorem dX8_lay_55 : decode cX8_lay 55 = .ok (.iload_n 1, 1) := by decide +kernel
theorem dX8_lay_56 : decode cX8_lay 56 = .ok (.imul, 1) := by decide +kernel
theorem dX8_lay_57 : decode cX8_lay 57 = .ok (.iload_n 2, 1) := by decide +kernel
theorem dX8_lay_58 : decode cX8_lay 58 = .ok (.iadd, 1) := by decide +kernel
theorem dX8_lay_59 : decode cX8_lay 59 = .ok (.aload_n 0, 1) := by decide +kernel
theorem dX8_lay_60 : decode cX8_lay 60 = .ok (.getfield 58, 3) := by decide +kernel
theorem dX8_lay_63 : decode cX8_lay 63 = .ok (.iload_n 1, 1) := by decide +kernel
theorem dX8_lay_64 : decode cX8_lay 64 = .ok (.iaload, 1) := by decide +kernel
theorem dX8_lay_65 : decode cX8_lay 65 = .ok (.ifCond .ne 13, 3) := by decide +kernel
theorem dX8_lay_68 : decode cX8_lay 68 = .ok (.iload_n 3, 1) := by decide +kernel
theorem dX8_lay_69 : decode cX8_lay 69 = .ok (.bipush 24, 2) := by decide +kernel
theorem dX8_lay_71 : decode cX8_lay 71 = .ok (.ishl, 1) := by decide +kernel
theorem dX8_lay_72 : decode cX8_lay 72 = .ok (.bipush 24, 2) := by decide +kernel
theorem dX8_lay_74 : decode cX8_lay 74 = .ok (.ishr, 1) := by decide +kernel
theorem dX8_lay_75 : decode cX8_lay 75 = .ok (.goto 24, 3) := by decide +kernel
theorem dX8_lay_78 : decode cX8_lay 78 = .ok (.aload_n 0, 1) := by decide +kernel
theorem dX8_lay_79 : decode cX8_lay 79 = .ok (.getfield 58, 3) := by decide +kernel
theorem dX8_lay_82 : decode cX8_lay 82 = .ok (.iload_n 1, 1) := by decide +kernel
theorem dX8_lay_83 : decode cX8_lay 83 = .ok (.iaload, 1) := by decide +kernel
theorem dX8_lay_84 : decode cX8_lay 84 = .ok (.iconst 1, 1) := by decide +kernel
theorem dX8_lay_85 : decode cX8_lay 85 = .ok (.if_icmp .ne 13, 3) := by decide +kernel
theorem dX8_lay_88 : decode cX8_lay 88 = .ok (.iload_n 3, 1) := by decide +kernel
theorem dX8_lay_89 : decode cX8_lay 89 = .ok (.bipush 16, 2) := by decide +kernel
theorem dX8_lay_91 : decode cX8_lay 91 = .ok (.ishl, 1) := by decide +kernel
theorem dX8_lay_92 : decode cX8_lay 92 = .ok (.bipush 16, 2) := by decide +kernel
theorem dX8_lay_94 : decode cX8_lay 94 = .ok (.ishr, 1) := by decide +kernel
theorem dX8_lay_95 : decode cX8_lay 95 = .ok (.goto 4, 3) := by decide +kernel
theorem dX8_lay_98 : decode cX8_lay 98 = .ok (.iload_n 3, 1) := by decide +kernel
theorem dX8_lay_99 : decode cX8_lay 99 = .ok (.iastore, 1) := by decide +kernel
theorem dX8_lay_100 : decode cX8_lay 100 = .ok (.iconst 1, 1) := by decide +kernel
theorem dX8_lay_101 : decode cX8_lay 101 = .ok (.ireturn, 1) := by decide +kernel
theorem dX8_film_0 : decode cX8_film 0 = .ok (.iload_n 1, 1) := by decide +kernel
theorem dX8_film_1 : decode cX8_film 1 = .ok (.invokestatic 135, 3) := by decide +kernel
theorem dX8_film_4 : decode cX8_film 4 = .ok (.ifCond .eq 55, 3) := by decide +kernel
theorem dX8_film_7 : decode cX8_film 7 = .ok (.iload_n 2, 1) := by decide +kernel
theorem dX8_film_8 : decode cX8_film 8 = .ok (.i2l, 1) := by decide +kernel
theorem dX8_film_9 : decode cX8_film 9 = .ok (.lconst 0, 1) := by decide +kernel
theorem dX8_film_10 : decode cX8_film 10 = .ok (.ldc2_w 142, 3) := by decide +kernel
theorem dX8_film_13 : decode cX8_film 13 = .ok (.invokestatic 71, 3) := by decide +kernel
theorem dX8_film_16 : decode cX8_film 16 = .ok (.ifCond .eq 43, 3) := by decide +kernel
theorem dX8_film_19 : decode cX8_film 19 = .ok (.iload_n 3, 1) := by decide +kernel
theorem dX8_film_20 : decode cX8_film 20 = .ok (.i2l, 1) := by decide +kernel
theorem dX8_film_21 : decode cX8_film 21 = .ok (.lconst 0, 1) := by decide +kernel
theorem dX8_film_22 : decode cX8_film 22 = .ok (.ldc2_w 144, 3) := by decide +kernel
theorem dX8_film_25 : decode cX8_film 25 = .ok (.invokestatic 71, 3) := by decide +kernel
theorem dX8_film_28 : decode cX8_film 28 = .ok (.ifCond .eq 31, 3) := by decide +kernel
theorem dX8_film_31 : decode cX8_film 31 = .ok (.iload 5, 2) := by decide +kernel
theorem dX8_film_33 : decode cX8_film 33 = .ok (.i2l, 1) := by decide +kernel
theorem dX8_film_34 : decode cX8_film 34 = .ok (.ldc2_w 144, 3) := by decide +kernel
theorem dX8_film_37 : decode cX8_film 37 = .ok (.ldc2_w 146, 3) := by decide +kernel
theorem dX8_film_40 : decode cX8_film 40 = .ok (.invokestatic 71, 3) := by decide +kernel
theorem dX8_film_43 : decode cX8_film 43 = .ok (.ifCond .eq 16, 3) := by decide +kernel
theorem dX8_film_46 : decode cX8_film 46 = .ok (.iload 6, 2) := by decide +kernel
theorem dX8_film_48 : decode cX8_film 48 = .ok (.i2l, 1) := by decide +kernel
theorem dX8_film_49 : decode cX8_film 49 = .ok (.lconst 1, 1) := by decide +kernel
theorem dX8_film_50 : decode cX8_film 50 = .ok (.ldc2_w 144, 3) := by decide +kernel
theorem dX8_film_53 : decode cX8_film 53 = .ok (.invokestatic 71, 3) := by decide +kernel
theorem dX8_film_56 : decode cX8_film 56 = .ok (.ifCond .ne 5, 3) := by decide +kernel
theorem dX8_film_59 : decode cX8_film 59 = .ok (.iconst (-1), 1) := by decide +kernel
theorem dX8_film_60 : decode cX8_film 60 = .ok (.ireturn, 1) := by decide +kernel
theorem dX8_film_61 : decode cX8_film 61 = .ok (.iconst 0, 1) := by decide +kernel
theorem dX8_film_62 : decode cX8_film 62 = .ok (.istore 7, 2) := by decide +kernel
theorem dX8_film_64 : decode cX8_film 64 = .ok (.iconst 0, 1) := by decide +kernel
theorem dX8_film_65 : decode cX8_film 65 = .ok (.istore 8, 2) := by decide +kernel
theorem dX8_film_67 : decode cX8_film 67 = .ok (.iconst 1, 1) := by decide +kernel
theorem dX8_film_68 : decode cX8_film 68 = .ok (.istore 9, 2) := by decide +kernel
theorem dX8_film_70 : decode cX8_film 70 = .ok (.iconst 0, 1) := by decide +kernel
theorem dX8_film_71 : decode cX8_film 71 = .ok (.istore 10, 2) := by decide +kernel
theorem dX8_film_73 : decode cX8_film 73 = .ok (.iload 10, 2) := by decide +kernel
theorem dX8_film_75 : decode cX8_film 75 = .ok (.bipush 8, 2) := by decide +kernel
theorem dX8_film_77 : decode cX8_film 77 = .ok (.iload 5, 2) := by decide +kernel
theorem dX8_film_79 : decode cX8_film 79 = .ok (.imul, 1) := by decide +kernel
theorem dX8_film_80 : decode cX8_film 80 = .ok (.if_icmp .ge 145, 3) := by decide +kernel
theorem dX8_film_83 : decode cX8_film 83 = .ok (.iload 7, 2) := by decide +kernel
theorem dX8_film_85 : decode cX8_film 85 = .ok (.ifCond .ne 140, 3) := by decide +kernel
theorem dX8_film_88 : decode cX8_film 88 = .ok (.aload_n 0, 1) := by decide +kernel
theorem dX8_film_89 : decode cX8_film 89 = .ok (.getfield 58, 3) := by decide +kernel
theorem dX8_film_92 : decode cX8_film 92 = .ok (.iload_n 2, 1) := by decide +kernel
theorem dX8_film_93 : decode cX8_film 93 = .ok (.iaload, 1) := by decide +kernel
theorem dX8_film_94 : decode cX8_film 94 = .ok (.bipush (-4), 2) := by decide +kernel
theorem dX8_film_96 : decode cX8_film 96 = .ok (.if_icmp .ne 7, 3) := by decide +kernel
theorem dX8_film_99 : decode cX8_film 99 = .ok (.iconst 1, 1) := by decide +kernel
theorem dX8_film_100 : decode cX8_film 100 = .ok (.goto 45, 3) := by decide +kernel
theorem dX8_film_103 : decode cX8_film 103 = .ok (.aload_n 0, 1) := by decide +kernel
theorem dX8_film_104 : decode cX8_film 104 = .ok (.getfield 58, 3) := by decide +kernel
theorem dX8_film_107 : decode cX8_film 107 = .ok (.iload_n 2, 1) := by decide +kernel
theorem dX8_film_108 : decode cX8_film 108 = .ok (.iaload, 1) := by decide +kernel
theorem dX8_film_109 : decode cX8_film 109 = .ok (.iload_n 3, 1) := by decide +kernel
theorem dX8_film_110 : decode cX8_film 110 = .ok (.if_icmp .eq 7, 3) := by decide +kernel
theorem dX8_film_113 : decode cX8_film 113 = .ok (.iconst 3, 1) := by decide +kernel
theorem dX8_film_114 : decode cX8_film 114 = .ok (.goto 31, 3) := by decide +kernel
theorem dX8_film_117 : decode cX8_film 117 = .ok (.iload 4, 2) := by decide +kernel
theorem dX8_film_119 : decode cX8_film 119 = .ok (.i2l, 1) := by decide +kernel
theorem dX8_film_120 : decode cX8_film 120 = .ok (.iload 10, 2) := by decide +kernel
theorem dX8_film_122 : decode cX8_film 122 = .ok (.i2l, 1) := by decide +kernel
theorem dX8_film_123 : decode cX8_film 123 = .ok (.ladd, 1) := by decide +kernel
theorem dX8_film_124 : decode cX8_film 124 = .ok (.lconst 0, 1) := by decide +kernel
theorem dX8_film_125 : decode cX8_film 125 = .ok (.aload_n 0, 1) := by decide +kernel
theorem dX8_film_126 : decode cX8_film 126 = .ok (.getfield 61, 3) := by decide +kernel
theorem dX8_film_129 : decode cX8_film 129 = .ok (.iload_n 2, 1) := by decide +kernel
theorem dX8_film_130 : decode cX8_film 130 = .ok (.iaload, 1) := by decide +kernel
theorem dX8_film_131 : decode cX8_film 131 = .ok (.iconst 1, 1) := by decide +kernel
theorem dX8_film_132 : decode cX8_film 132 = .ok (.isub, 1) := by decide +kernel
theorem dX8_film_133 : decode cX8_film 133 = .ok (.i2l, 1) := by decide +kernel
theorem dX8_film_134 : decode cX8_film 134 = .ok (.invokestatic 71, 3) := by decide +kernel
theorem dX8_film_137 : decode cX8_film 137 = .ok (.ifCond .ne 7, 3) := by decide +kernel
theorem dX8_film_140 : decode cX8_film 140 = .ok (.iconst 2, 1) := by decide +kernel
theorem dX8_film_141 : decode cX8_film 141 = .ok (.goto 4, 3) := by decide +kernel
theorem dX8_film_144 : decode cX8_film 144 = .ok (.iconst 0, 1) := by decide +kernel
theorem dX8_film_145 : decode cX8_film 145 = .ok (.istore 7, 2) := by decide +kernel
theorem dX8_film_147 : decode cX8_film 147 = .ok (.iload 7, 2) := by decide +kernel
theorem dX8_film_149 : decode cX8_film 149 = .ok (.ifCond .ne 70, 3) := by decide +kernel
theorem dX8_film_152 : decode cX8_film 152 = .ok (.iload 9, 2) := by decide +kernel
theorem dX8_film_154 : decode cX8_film 154 = .ok (.ifCond .eq 35, 3) := by decide +kernel
theorem dX8_film_157 : decode cX8_film 157 = .ok (.aload_n 0, 1) := by decide +kernel
theorem dX8_film_158 : decode cX8_film 158 = .ok (.getfield 64, 3) := by decide +kernel
theorem dX8_film_161 : decode cX8_film 161 = .ok (.bipush 64, 2) := by decide +kernel
theorem dX8_film_163 : decode cX8_film 163 = .ok (.iload_n 2, 1) := by decide +kernel
theorem dX8_film_164 : decode cX8_film 164 = .ok (.imul, 1) := by decide +kernel
theorem dX8_film_165 : decode cX8_film 165 = .ok (.iload 4, 2) := by decide +kernel
theorem dX8_film_167 : decode cX8_film 167 = .ok (.iadd, 1) := by decide +kernel
theorem dX8_film_168 : decode cX8_film 168 = .ok (.iload 10, 2) := by decide +kernel
theorem dX8_film_170 : decode cX8_film 170 = .ok (.iadd, 1) := by decide +kernel
theorem dX8_film_171 : decode cX8_film 171 = .ok (.iaload, 1) := by decide +kernel
theorem dX8_film_172 : decode cX8_film 172 = .ok (.i2l, 1) := by decide +kernel
theorem dX8_film_173 : decode cX8_film 173 = .ok (.ldc2_w 158, 3) := by decide +kernel
theorem dX8_film_176 : decode cX8_film 176 = .ok (.ldc2_w 160, 3) := by decide +kernel
theorem dX8_film_179 : decode cX8_film 179 = .ok (.invokestatic 71, 3) := by decide +kernel
theorem dX8_film_182 : decode cX8_film 182 = .ok (.ifCond .eq 7, 3) := by decide +kernel
theorem dX8_film_185 : decode cX8_film 185 = .ok (.iconst 1, 1) := by decide +kernel
theorem dX8_film_186 : decode cX8_film 186 = .ok (.goto 4, 3) := by decide +kernel
theorem dX8_film_189 : decode cX8_film 189 = .ok (.iconst 0, 1) := by decide +kernel
theorem dX8_film_190 : decode cX8_film 190 = .ok (.istore 9, 2) := by decide +kernel
theorem dX8_film_192 : decode cX8_film 192 = .ok (.iload 10, 2) := by decide +kernel
theorem dX8_film_194 : decode cX8_film 194 = .ok (.bipush 8, 2) := by decide +kernel
theorem dX8_film_196 : decode cX8_film 196 = .ok (.irem, 1) := by decide +kernel
theorem dX8_film_197 : decode cX8_film 197 = .ok (.bipush 7, 2) := by decide +kernel
theorem dX8_film_199 : decode cX8_film 199 = .ok (.if_icmp .ne 20, 3) := by decide +kernel
theorem dX8_film_202 : decode cX8_film 202 = .ok (.iload 9, 2) := by decide +kernel
theorem dX8_film_204 : decode cX8_film 204 = .ok (.ifCond .ne 12, 3) := by decide +kernel
theorem dX8_film_207 : decode cX8_film 207 = .ok (.bipush (-20), 2) := by decide +kernel
theorem dX8_film_209 : decode cX8_film 209 = .ok (.iload 10, 2) := by decide +kernel
theorem dX8_film_211 : decode cX8_film 211 = .ok (.bipush 8, 2) := by decide +kernel
theorem dX8_film_213 : decode cX8_film 213 = .ok (.idiv, 1) := by decide +kernel
theorem dX8_film_214 : decode cX8_film 214 = .ok (.isub, 1) := by decide +kernel
theorem dX8_film_215 : decode cX8_film 215 = .ok (.ireturn, 1) := by decide +kernel
theorem dX8_film_216 : decode cX8_film 216 = .ok (.iinc 8 1, 3) := by decide +kernel
theorem dX8_film_219 : decode cX8_film 219 = .ok (.iinc 10 1, 3) := by decide +kernel
theorem dX8_film_222 : decode cX8_film 222 = .ok (.goto (-149), 3) := by decide +kernel
theorem dX8_film_225 : decode cX8_film 225 = .ok (.aload_n 0, 1) := by decide +kernel
theorem dX8_film_226 : decode cX8_film 226 = .ok (.iload 7, 2) := by decide +kernel
theorem dX8_film_228 : decode cX8_film 228 = .ok (.putfield 273, 3) := by decide +kernel
theorem dX8_film_231 : decode cX8_film 231 = .ok (.iload 8, 2) := by decide +kernel
theorem dX8_film_233 : decode cX8_film 233 = .ok (.iconst 2, 1) := by decide +kernel
theorem dX8_film_234 : decode cX8_film 234 = .ok (.if_icmp .ge 5, 3) := by decide +kernel
theorem dX8_film_237 : decode cX8_film 237 = .ok (.iconst 0, 1) := by decide +kernel
theorem dX8_film_238 : decode cX8_film 238 = .ok (.ireturn, 1) := by decide +kernel
theorem dX8_film_239 : decode cX8_film 239 = .ok (.aload_n 0, 1) := by decide +kernel
theorem dX8_film_240 : decode cX8_film 240 = .ok (.iload_n 1, 1) := by decide +kernel
theorem dX8_film_241 : decode cX8_film 241 = .ok (.invokevirtual 148, 3) := by decide +kernel
theorem dX8_film_244 : decode cX8_film 244 = .ok (.aload_n 0, 1) := by decide +kernel
theorem dX8_film_245 : decode cX8_film 245 = .ok (.getfield 37, 3) := by decide +kernel
theorem dX8_film_248 : decode cX8_film 248 = .ok (.iload_n 1, 1) := by decide +kernel
theorem dX8_film_249 : decode cX8_film 249 = .ok (.iload 8, 2) := by decide +kernel
theorem dX8_film_251 : decode cX8_film 251 = .ok (.iastore, 1) := by decide +kernel
theorem dX8_film_252 : decode cX8_film 252 = .ok (.aload_n 0, 1) := by decide +kernel
theorem dX8_film_253 : decode cX8_film 253 = .ok (.getfield 40, 3) := by decide +kernel
theorem dX8_film_256 : decode cX8_film 256 = .ok (.iload_n 1, 1) := by decide +kernel
theorem dX8_film_257 : decode cX8_film 257 = .ok (.iload 6, 2) := by decide +kernel
theorem dX8_film_259 : decode cX8_film 259 = .ok (.iastore, 1) := by decide +kernel
theorem dX8_film_260 : decode cX8_film 260 = .ok (.iconst 0, 1) := by decide +kernel
theorem dX8_film_261 : decode cX8_film 261 = .ok (.istore 10, 2) := by decide +kernel
theorem dX8_film_263 : decode cX8_film 263 = .ok (.iload 10, 2) := by decide +kernel
theorem dX8_film_265 : decode cX8_film 265 = .ok (.bipush 8, 2) := by decide +kernel
theorem dX8_film_267 : decode cX8_film 267 = .ok (.iload 8, 2) := by decide +kernel
theorem dX8_film_269 : decode cX8_film 269 = .ok (.imul, 1) := by decide +kernel
theorem dX8_film_270 : decode cX8_film 270 = .ok (.if_icmp .ge 36, 3) := by decide +kernel
theorem dX8_film_273 : decode cX8_film 273 = .ok (.aload_n 0, 1) := by decide +kernel
theorem dX8_film_274 : decode cX8_film 274 = .ok (.getfield 34, 3) := by decide +kernel
theorem dX8_film_277 : decode cX8_film 277 = .ok (.bipush 64, 2) := by decide +kernel
theorem dX8_film_279 : decode cX8_film 279 = .ok (.iload_n 1, 1) := by decide +kernel
theorem dX8_film_280 : decode cX8_film 280 = .ok (.imul, 1) := by decide +kernel
theorem dX8_film_281 : decode cX8_film 281 = .ok (.iload 10, 2) := by decide +kernel
theorem dX8_film_283 : decode cX8_film 283 = .ok (.iadd, 1) := by decide +kernel
theorem dX8_film_284 : decode cX8_film 284 = .ok (.aload_n 0, 1) := by decide +kernel
theorem dX8_film_285 : decode cX8_film 285 = .ok (.getfield 64, 3) := by decide +kernel
theorem dX8_film_288 : decode cX8_film 288 = .ok (.bipush 64, 2) := by decide +kernel
theorem dX8_film_290 : decode cX8_film 290 = .ok (.iload_n 2, 1) := by decide +kernel
theorem dX8_film_291 : decode cX8_film 291 = .ok (.imul, 1) := by decide +kernel
theorem dX8_film_292 : decode cX8_film 292 = .ok (.iload 4, 2) := by decide +kernel
theorem dX8_film_294 : decode cX8_film 294 = .ok (.iadd, 1) := by decide +kernel
theorem dX8_film_295 : decode cX8_film 295 = .ok (.iload 10, 2) := by decide +kernel
theorem dX8_film_297 : decode cX8_film 297 = .ok (.iadd, 1) := by decide +kernel
theorem dX8_film_298 : decode cX8_film 298 = .ok (.iaload, 1) := by decide +kernel
theorem dX8_film_299 : decode cX8_film 299 = .ok (.iastore, 1) := by decide +kernel
theorem dX8_film_300 : decode cX8_film 300 = .ok (.iinc 10 1, 3) := by decide +kernel
theorem dX8_film_303 : decode cX8_film 303 = .ok (.goto (-40), 3) := by decide +kernel
theorem dX8_film_306 : decode cX8_film 306 = .ok (.iload 8, 2) := by decide +kernel
theorem dX8_film_308 : decode cX8_film 308 = .ok (.ireturn, 1) := by decide +kernel
theorem dX8_torn_0 : decode cX8_torn 0 = .ok (.aload_n 0, 1) := by decide +kernel
theorem dX8_torn_1 : decode cX8_torn 1 = .ok (.getfield 273, 3) := by decide +kernel
theorem dX8_torn_4 : decode cX8_torn 4 = .ok (.ireturn, 1) := by decide +kernel
theorem dX8_count_0 : decode cX8_count 0 = .ok (.iconst 0, 1) := by decide +kernel
theorem dX8_count_1 : decode cX8_count 1 = .ok (.istore_n 2, 1) := by decide +kernel
theorem dX8_count_2 : decode cX8_count 2 = .ok (.iconst 0, 1) := by decide +kernel
theorem dX8_count_3 : decode cX8_count 3 = .ok (.istore_n 3, 1) := by decide +kernel
theorem dX8_count_4 : decode cX8_count 4 = .ok (.iconst 0, 1) := by decide +kernel
theorem dX8_count_5 : decode cX8_count 5 = .ok (.istore 4, 2) := by decide +kernel
theorem dX8_count_7 : decode cX8_count 7 = .ok (.iconst 0, 1) := by decide +kernel
theorem dX8_count_8 : decode cX8_count 8 = .ok (.istore 5, 2) := by decide +kernel
theorem dX8_count_10 : decode cX8_count 10 = .ok (.iload 5, 2) := by decide +kernel
theorem dX8_count_12 : decode cX8_count 12 = .ok (.bipush 6, 2) := by decide +kernel
theorem dX8_count_14 : decode cX8_count 14 = .ok (.if_icmp .ge 56, 3) := by decide +kernel
theorem dX8_count_17 : decode cX8_count 17 = .ok (.iload_n 2, 1) := by decide +kernel
theorem dX8_count_18 : decode cX8_count 18 = .ok (.aload_n 0, 1) := by decide +kernel
theorem dX8_count_19 : decode cX8_count 19 = .ok (.getfield 37, 3) := by decide +kernel
theorem dX8_count_22 : decode cX8_count 22 = .ok (.iload 5, 2) := by decide +kernel
theorem dX8_count_24 : decode cX8_count 24 = .ok (.iaload, 1) := by decide +kernel
theorem dX8_count_25 : decode cX8_count 25 = .ok (.ifCond .le 7, 3) := by decide +kernel
theorem dX8_count_28 : decode cX8_count 28 = .ok (.iconst 1, 1) := by decide +kernel
theorem dX8_count_29 : decode cX8_count 29 = .ok (.goto 4, 3) := by decide +kernel
theorem dX8_count_32 : decode cX8_count 32 = .ok (.iconst 0, 1) := by decide +kernel
theorem dX8_count_33 : decode cX8_count 33 = .ok (.iadd, 1) := by decide +kernel
theorem dX8_count_34 : decode cX8_count 34 = .ok (.istore_n 2, 1) := by decide +kernel
theorem dX8_count_35 : decode cX8_count 35 = .ok (.iload_n 3, 1) := by decide +kernel
theorem dX8_count_36 : decode cX8_count 36 = .ok (.aload_n 0, 1) := by decide +kernel
theorem dX8_count_37 : decode cX8_count 37 = .ok (.getfield 37, 3) := by decide +kernel
theorem dX8_count_40 : decode cX8_count 40 = .ok (.iload 5, 2) := by decide +kernel
theorem dX8_count_42 : decode cX8_count 42 = .ok (.iaload, 1) := by decide +kernel
theorem dX8_count_43 : decode cX8_count 43 = .ok (.iadd, 1) := by decide +kernel
theorem dX8_count_44 : decode cX8_count 44 = .ok (.istore_n 3, 1) := by decide +kernel
theorem dX8_count_45 : decode cX8_count 45 = .ok (.iload 4, 2) := by decide +kernel
theorem dX8_count_47 : decode cX8_count 47 = .ok (.aload_n 0, 1) := by decide +kernel
theorem dX8_count_48 : decode cX8_count 48 = .ok (.iload 5, 2) := by decide +kernel
theorem dX8_count_50 : decode cX8_count 50 = .ok (.invokevirtual 260, 3) := by decide +kernel
theorem dX8_count_53 : decode cX8_count 53 = .ok (.ifCond .le 7, 3) := by decide +kernel
theorem dX8_count_56 : decode cX8_count 56 = .ok (.iconst 1, 1) := by decide +kernel
theorem dX8_count_57 : decode cX8_count 57 = .ok (.goto 4, 3) := by decide +kernel
theorem dX8_count_60 : decode cX8_count 60 = .ok (.iconst 0, 1) := by decide +kernel
theorem dX8_count_61 : decode cX8_count 61 = .ok (.iadd, 1) := by decide +kernel
theorem dX8_count_62 : decode cX8_count 62 = .ok (.istore 4, 2) := by decide +kernel
theorem dX8_count_64 : decode cX8_count 64 = .ok (.iinc 5 1, 3) := by decide +kernel
theorem dX8_count_67 : decode cX8_count 67 = .ok (.goto (-57), 3) := by decide +kernel
theorem dX8_count_70 : decode cX8_count 70 = .ok (.iload_n 1, 1) := by decide +kernel
theorem dX8_count_71 : decode cX8_count 71 = .ok (.tableswitch 77 0 5 #[37, 39, 41, 46, 49, 54], 37) := by decide +kernel
theorem dX8_count_108 : decode cX8_count 108 = .ok (.iload_n 2, 1) := by decide +kernel
theorem dX8_count_109 : decode cX8_count 109 = .ok (.ireturn, 1) := by decide +kernel
theorem dX8_count_110 : decode cX8_count 110 = .ok (.iload_n 3, 1) := by decide +kernel
theorem dX8_count_111 : decode cX8_count 111 = .ok (.ireturn, 1) := by decide +kernel
theorem dX8_count_112 : decode cX8_count 112 = .ok (.aload_n 0, 1) := by decide +kernel
theorem dX8_count_113 : decode cX8_count 113 = .ok (.getfield 242, 3) := by decide +kernel
theorem dX8_count_116 : decode cX8_count 116 = .ok (.ireturn, 1) := by decide +kernel
theorem dX8_count_117 : decode cX8_count 117 = .ok (.iload 4, 2) := by decide +kernel
theorem dX8_count_119 : decode cX8_count 119 = .ok (.ireturn, 1) := by decide +kernel
theorem dX8_count_120 : decode cX8_count 120 = .ok (.aload_n 0, 1) := by decide +kernel
theorem dX8_count_121 : decode cX8_count 121 = .ok (.getfield 67, 3) := by decide +kernel
theorem dX8_count_124 : decode cX8_count 124 = .ok (.ireturn, 1) := by decide +kernel
theorem dX8_count_125 : decode cX8_count 125 = .ok (.aload_n 0, 1) := by decide +kernel
theorem dX8_count_126 : decode cX8_count 126 = .ok (.getfield 58, 3) := by decide +kernel
theorem dX8_count_129 : decode cX8_count 129 = .ok (.iconst 0, 1) := by decide +kernel
theorem dX8_count_130 : decode cX8_count 130 = .ok (.iaload, 1) := by decide +kernel
theorem dX8_count_131 : decode cX8_count 131 = .ok (.bipush (-4), 2) := by decide +kernel
theorem dX8_count_133 : decode cX8_count 133 = .ok (.if_icmp .ne 8, 3) := by decide +kernel
theorem dX8_count_136 : decode cX8_count 136 = .ok (.bipush (-4), 2) := by decide +kernel
theorem dX8_count_138 : decode cX8_count 138 = .ok (.goto 9, 3) := by decide +kernel
theorem dX8_count_141 : decode cX8_count 141 = .ok (.aload_n 0, 1) := by decide +kernel
theorem dX8_count_142 : decode cX8_count 142 = .ok (.getfield 61, 3) := by decide +kernel
theorem dX8_count_145 : decode cX8_count 145 = .ok (.iconst 0, 1) := by decide +kernel
theorem dX8_count_146 : decode cX8_count 146 = .ok (.iaload, 1) := by decide +kernel
theorem dX8_count_147 : decode cX8_count 147 = .ok (.ireturn, 1) := by decide +kernel
theorem dX8_count_148 : decode cX8_count 148 = .ok (.iconst (-1), 1) := by decide +kernel
theorem dX8_count_149 : decode cX8_count 149 = .ok (.ireturn, 1) := by decide +kernel
end
section
/-! the shape of the world: for each tag what its cells are; how many there are -/
abbrev Sh : Type := (Nat × List (Option (Nat × Nat))) ⊕ (Nat × Nat) ⊕ (Nat × Nat × Nat)
def nth {α : Type} : List α → Nat → Option α
  | [], _ => none
  | a :: _, 0 => some a
  | _ :: l, n + 1 => nth l n
def shL : List Sh := [.inl (7, [some (1, 0), some (3, 0), some (5, 0), some (7, 0), some (8, 6), some (10, 0), some (18, 0), some (19, 0), some (23, 0), none]), .inl (5, [some (2, 0), none]), .inr (.inl (0, 200)), .inl (1, [some (4, 0), none, none, none, none, none, none]), .inr (.inl (0, 18)), .inl (3, [some (6, 0)]), .inr (.inl (0, 18)), .inr (.inr (2, 6, 8)), .inl (6, [some (9, 0), none, none]), .inr (.inl (0, 64)), .inl (0, [some (5, 0), some (11, 0), some (12, 0), some (13, 0), some (14, 0), some (15, 0), some (16, 0), none, some (17, 0)]), .inr (.inl (0, 8)), .inr (.inl (0, 8)), .inr (.inl (0, 8)), .inr (.inl (0, 8)), .inr (.inl (1, 8)), .inr (.inl (1, 8)), .inr (.inl (0, 128)), .inr (.inl (0, 6)), .inl (2, [some (20, 0), some (21, 0), some (22, 0), none]), .inr (.inl (0, 12)), .inr (.inl (0, 12)), .inr (.inl (0, 12)), .inr (.inr (3, 4, 24)), .inl (4, [none, none, some (25, 0)]), .inr (.inl (0, 64)), .inl (8, [some (27, 0), none, none, none, none, none, none, none, none, some (28, 0), some (29, 0), some (30, 0), some (31, 0), some (32, 0), some (33, 0), some (34, 0), none, some (35, 0), some (36, 0), some (37, 0), some (38, 0), some (39, 0), none, some (40, 0), some (41, 0), some (42, 0), some (43, 0), some (44, 0), some (45, 0), none]), .inr (.inl (0, 200)), .inr (.inl (0, 14)), .inr (.inl (0, 55)), .inr (.inl (0, 18)), .inr (.inl (0, 18)), .inr (.inl (0, 18)), .inr (.inl (0, 18)), .inr (.inl (0, 18)), .inr (.inl (0, 384)), .inr (.inl (0, 6)), .inr (.inl (0, 6)), .inr (.inl (0, 64)), .inr (.inl (0, 12)), .inr (.inl (0, 12)), .inr (.inl (0, 12)), .inr (.inl (0, 6)), .inr (.inl (0, 4)), .inr (.inl (0, 4)), .inr (.inl (0, 256))]
def cntL : List Nat := [1, 1, 1, 1, 1, 1, 1, 1, 7, 7, 1, 1, 1, 1, 1, 1, 1, 1, 1, 1, 1, 1, 1, 1, 4, 4, 1, 1, 1, 1, 1, 1, 1, 1, 1, 1, 1, 1, 1, 1, 1, 1, 1, 1, 1, 1]
def sh (t : Nat) : Option Sh := nth shL t
def keys : List (Nat × Nat) := [(0, 0), (1, 0), (2, 0), (3, 0), (4, 0), (5, 0), (6, 0), (7, 0), (8, 0), (8, 1), (8, 2), (8, 3), (8, 4), (8, 5), (8, 6), (9, 0), (9, 1), (9, 2), (9, 3), (9, 4), (9, 5), (9, 6), (10, 0), (11, 0), (12, 0), (13, 0), (14, 0), (15, 0), (16, 0), (17, 0), (18, 0), (19, 0), (20, 0), (21, 0), (22, 0), (23, 0), (24, 0), (24, 1), (24, 2), (24, 3), (25, 0), (25, 1), (25, 2), (25, 3), (26, 0), (27, 0), (28, 0), (29, 0), (30, 0), (31, 0), (32, 0), (33, 0), (34, 0), (35, 0), (36, 0), (37, 0), (38, 0), (39, 0), (40, 0), (41, 0), (42, 0), (43, 0), (44, 0), (45, 0)]
/-! tags by name -/
abbrev g_oab : Nat := 0
abbrev g_tape : Nat := 1
abbrev g_tapeB : Nat := 2
abbrev g_reader : Nat := 3
abbrev g_draft : Nat := 4
abbrev g_rules : Nat := 5
abbrev g_values : Nat := 6
abbrev g_ways : Nat := 7
abbrev g_way : Nat := 8
abbrev g_nums : Nat := 9
abbrev g_judge : Nat := 10
abbrev g_lAcr : Nat := 11
abbrev g_mAcr : Nat := 12
abbrev g_lUp : Nat := 13
abbrev g_lPart : Nat := 14
abbrev g_bent : Nat := 15
abbrev g_hasty : Nat := 16
abbrev g_chgd : Nat := 17
abbrev g_worths : Nat := 18
abbrev g_ring : Nat := 19
abbrev g_held : Nat := 20
abbrev g_now : Nat := 21
abbrev g_then : Nat := 22
abbrev g_sheets : Nat := 23
abbrev g_sheet : Nat := 24
abbrev g_cells : Nat := 25
abbrev g_model : Nat := 26
abbrev g_m_tape : Nat := 27
abbrev g_m_cuts : Nat := 28
abbrev g_m_letters : Nat := 29
abbrev g_m_plain : Nat := 30
abbrev g_m_leasts : Nat := 31
abbrev g_m_mosts : Nat := 32
abbrev g_m_holds : Nat := 33
abbrev g_m_reads : Nat := 34
abbrev g_m_numbers : Nat := 35
abbrev g_m_tenths : Nat := 36
abbrev g_m_feet : Nat := 37
abbrev g_m_kept : Nat := 38
abbrev g_m_jumpers : Nat := 39
abbrev g_m_then : Nat := 40
abbrev g_m_before : Nat := 41
abbrev g_m_worths : Nat := 42
abbrev g_m_lanes : Nat := 43
abbrev g_m_lengths : Nat := 44
abbrev g_m_cells : Nat := 45
abbrev g_USUAL : Nat := 60
abbrev g_LEAST : Nat := 61
abbrev g_MOST : Nat := 62
abbrev g_script : Nat := 63
abbrev g_str : Nat := 64
abbrev g_strB : Nat := 65
end
section
/-! THE ABSTRACT MACHINE: values with tags for references, a heap of whole numbers by tag, instance and place -/
abbrev AV : Type := Int32 ⊕ Int64 ⊕ (Nat × Nat)
abbrev vI (x : Int32) : AV := .inl x
abbrev vL (x : Int64) : AV := .inr (.inl x)
abbrev vR (t i : Nat) : AV := .inr (.inr (t, i))
abbrev Hp : Type := Nat → Nat → Nat → Int32
/-- the world's constants: slots of classes, classes of arrays, addresses -/
abbrev GE : Type := va_G × (Nat → ClassId) × (Nat → Nat → Nat)
def cv (G : GE) : AV → Value
  | .inl x => .int x
  | .inr (.inl x) => .long x
  | .inr (.inr (t, i)) => .ref (G.2.2 t i)
def fv (G : GE) (h : Hp) (t i k : Nat) : Option (Nat × Nat) → Value
  | none => .int (h t i k)
  | some (t', j) => .ref (G.2.2 t' (i + j))
def fvs (G : GE) (h : Hp) (t i : Nat) : Nat → List (Option (Nat × Nat)) → List Value
  | _, [] => []
  | k, d :: ds => fv G h t i k d :: fvs G h t i (k + 1) ds
def entS (G : GE) (h : Hp) (t i : Nat) : Option Sh → va_E
  | some (.inl (ci, fs)) => .inr (ci, fvs G h t i 0 fs)
  | some (.inr (.inl (kd, n))) => .inl (G.2.1 kd, n, .inl (h t i))
  | some (.inr (.inr (kd, n, et))) => .inl (G.2.1 kd, n, .inr (.inr (.inr (.inr (fun j => some (G.2.2 et j))))))
  | none => .inr (0, [])
def ent (G : GE) (h : Hp) (t i : Nat) : va_E := entS G h t i (sh t)
def wsG (G : GE) (h : Hp) : va_W := keys.map fun q => (G.2.2 q.1 q.2, ent G h q.1 q.2)
def tysG (G : GE) : List (ClassId × FieldType) := [(G.2.1 0, .int), (G.2.1 1, .boolean), (G.2.1 2, .object RX6), (G.2.1 3, .object RX4)]
def Ac (G : GE) : Nat → Prop := fun q => ∃ t i, (t, i) ∈ keys ∧ q = G.2.2 t i
def Inj (G : GE) : Prop := ∀ t i t' i', (t, i) ∈ keys → (t', i') ∈ keys → G.2.2 t i = G.2.2 t' i' → t = t' ∧ i = i'
theorem keys_nodup : keys.Nodup := by decide
theorem wsG_at {G : GE} {h : Hp} {q : Nat} {t i : Nat} (hq : keys[q]? = some (t, i)) : (wsG G h)[q]? = some (G.2.2 t i, ent G h t i) := by
  unfold wsG
  rw [List.getElem?_map, hq]
  rfl
theorem wsG_of {G : GE} {h : Hp} {k : Nat} {p : Nat × va_E} (hk : (wsG G h)[k]? = some p) : ∃ t i, keys[k]? = some (t, i) ∧ p = (G.2.2 t i, ent G h t i) := by
  unfold wsG at hk
  rw [List.getElem?_map] at hk
  cases hq : keys[k]? with
  | none => rw [hq] at hk; cases hk
  | some z => rw [hq] at hk; exact ⟨z.1, z.2, rfl, (Option.some.inj hk).symm⟩
theorem keys_inj {i j : Nat} {z : Nat × Nat} (h1 : keys[i]? = some z) (h2 : keys[j]? = some z) : i = j := by
  obtain ⟨hi, e1⟩ := List.getElem?_eq_some_iff.mp h1
  obtain ⟨hj, e2⟩ := List.getElem?_eq_some_iff.mp h2
  have a1 := List.Nodup.idxOf_getElem keys_nodup i hi
  have a2 := List.Nodup.idxOf_getElem keys_nodup j hj
  rw [e1] at a1
  rw [e2] at a2
  exact a1.symm.trans a2
theorem wsG_D {G : GE} (hG : Inj G) (h : Hp) : va_D (Ac G) (wsG G h) := by
  refine ⟨fun i j p q hp hq e => ?_, fun k q hk => ?_⟩
  · obtain ⟨t, a, h1, rfl⟩ := wsG_of hp
    obtain ⟨t', a', h2, rfl⟩ := wsG_of hq
    obtain ⟨rfl, rfl⟩ := hG t a t' a' (List.mem_of_getElem? h1) (List.mem_of_getElem? h2) e
    exact keys_inj h1 h2
  · obtain ⟨t, a, h1, rfl⟩ := wsG_of hk
    exact ⟨t, a, List.mem_of_getElem? h1, rfl⟩
/-- one cell becomes another: the world of another heap -/
theorem wsG_set {G : GE} {h h' : Hp} {q t i : Nat} (hq : keys[q]? = some (t, i)) (ho : ∀ t' i', (t', i') ≠ (t, i) → ent G h' t' i' = ent G h t' i') {e : va_E} (he : ent G h' t i = e) : (wsG G h).set q (G.2.2 t i, e) = wsG G h' := by
  apply List.ext_getElem?
  intro k
  rw [List.getElem?_set]
  by_cases hk : q = k
  · subst hk
    have h1 := wsG_at (G := G) (h := h) hq
    have h2 := wsG_at (G := G) (h := h') hq
    have hlt : q < (wsG G h).length := (List.getElem?_eq_some_iff.mp h1).1
    rw [if_pos rfl, if_pos hlt, h2, he]
  · rw [if_neg hk]
    cases hz : keys[k]? with
    | none => simp [wsG, hz]
    | some z =>
      obtain ⟨t', i'⟩ := z
      rw [wsG_at hz, wsG_at hz, ho t' i']
      rintro ⟨rfl, rfl⟩
      exact hk (keys_inj hq hz)
/-! heaps -/
def hset (h : Hp) (t i k : Nat) (v : Int32) : Hp := fun t' i' k' => if t' = t ∧ i' = i ∧ k' = k then v else h t' i' k'
def hsetA (h : Hp) (t i : Nat) (f : Nat → Int32) : Hp := fun t' i' k' => if t' = t ∧ i' = i then f k' else h t' i' k'
theorem entS_congr {G : GE} {h h' : Hp} {t i : Nat} (e : h' t i = h t i) (o : Option Sh) : entS G h' t i o = entS G h t i o := by
  rcases o with _ | ⟨ci, fs⟩ | ⟨kd, n⟩ | ⟨kd, n, et⟩
  · rfl
  · show Sum.inr (ci, fvs G h' t i 0 fs) = Sum.inr (ci, fvs G h t i 0 fs)
    have : ∀ k, fvs G h' t i k fs = fvs G h t i k fs := by
      induction fs with
      | nil => intro k; rfl
      | cons d ds ih =>
        intro k
        show fv G h' t i k d :: _ = fv G h t i k d :: _
        rw [ih (k + 1)]
        cases d with
        | none => show Value.int (h' t i k) :: _ = Value.int (h t i k) :: _; rw [e]
        | some z => rfl
    rw [this 0]
  · show Sum.inl (G.2.1 kd, n, Sum.inl (h' t i)) = Sum.inl (G.2.1 kd, n, Sum.inl (h t i))
    rw [e]
  · rfl
theorem hset_other {h : Hp} {t i k : Nat} {v : Int32} {t' i' : Nat} (hne : (t', i') ≠ (t, i)) : hset h t i k v t' i' = h t' i' := by
  funext k'
  unfold hset
  rw [if_neg]
  rintro ⟨rfl, rfl, -⟩
  exact hne rfl
theorem hsetA_other {h : Hp} {t i : Nat} {f : Nat → Int32} {t' i' : Nat} (hne : (t', i') ≠ (t, i)) : hsetA h t i f t' i' = h t' i' := by
  funext k'
  unfold hsetA
  rw [if_neg]
  rintro ⟨rfl, rfl⟩
  exact hne rfl
theorem hset_arr (h : Hp) (t i k : Nat) (v : Int32) : hset h t i k v t i = upd (h t i) k v := by
  funext k'
  unfold hset upd
  by_cases hk : k' = k
  · rw [if_pos ⟨rfl, rfl, hk⟩, if_pos hk]
  · rw [if_neg (fun z => hk z.2.2), if_neg hk]
theorem hsetA_arr (h : Hp) (t i : Nat) (f : Nat → Int32) : hsetA h t i f t i = f := by
  funext k'
  unfold hsetA
  rw [if_pos ⟨rfl, rfl⟩]
theorem fvs_get {G : GE} {h : Hp} {t i : Nat} : ∀ (fs : List (Option (Nat × Nat))) (k0 k : Nat) (d : Option (Nat × Nat)), nth fs k = some d → (fvs G h t i k0 fs)[k]? = some (fv G h t i (k0 + k) d)
  | [], _, _, _, hk => by cases hk
  | _ :: _, k0, 0, d, hk => by
    obtain rfl := Option.some.inj hk
    rfl
  | _ :: ds, k0, k + 1, d, hk => by
    have := fvs_get (G := G) (h := h) (t := t) (i := i) ds (k0 + 1) k d hk
    show (fvs G h t i (k0 + 1) ds)[k]? = _
    rw [this, Nat.add_assoc, Nat.add_comm 1 k]
theorem fvs_length {G : GE} {h : Hp} {t i : Nat} : ∀ (fs : List (Option (Nat × Nat))) (k0 : Nat), (fvs G h t i k0 fs).length = fs.length
  | [], _ => rfl
  | _ :: ds, k0 => by
    show (fvs G h t i (k0 + 1) ds).length + 1 = ds.length + 1
    rw [fvs_length ds (k0 + 1)]
theorem nth_lt {α : Type} : ∀ (l : List α) (k : Nat) (d : α), nth l k = some d → k < l.length
  | [], _, _, h => by cases h
  | _ :: l, 0, _, _ => Nat.succ_pos _
  | _ :: l, k + 1, d, h => Nat.succ_lt_succ (nth_lt l k d h)
theorem nth_mem {α : Type} : ∀ (l : List α) (k : Nat) (d : α), nth l k = some d → d ∈ l
  | [], _, _, h => by cases h
  | a :: l, 0, _, h => by obtain rfl := Option.some.inj h; exact List.mem_cons_self
  | _ :: l, k + 1, d, h => List.mem_cons_of_mem _ (nth_mem l k d h)
theorem fvs_set {G : GE} {h : Hp} {t i : Nat} {v : Int32} : ∀ (fs : List (Option (Nat × Nat))) (k0 k : Nat), nth fs k = some none → fvs G (hset h t i (k0 + k) v) t i k0 fs = (fvs G h t i k0 fs).set k (.int v)
  | [], _, _, hk => by cases hk
  | d :: ds, k0, 0, hk => by
    obtain rfl := Option.some.inj hk
    show Value.int (hset h t i (k0 + 0) v t i k0) :: fvs G (hset h t i (k0 + 0) v) t i (k0 + 1) ds = Value.int v :: fvs G h t i (k0 + 1) ds
    have e1 : hset h t i (k0 + 0) v t i k0 = v := by unfold hset; rw [if_pos ⟨rfl, rfl, rfl⟩]
    have e2 : ∀ (l : List (Option (Nat × Nat))) (k1 : Nat), k0 < k1 → fvs G (hset h t i (k0 + 0) v) t i k1 l = fvs G h t i k1 l := by
      intro l
      induction l with
      | nil => intro k1 _; rfl
      | cons z zs ih =>
        intro k1 hk1
        show fv G (hset h t i (k0 + 0) v) t i k1 z :: _ = fv G h t i k1 z :: _
        rw [ih (k1 + 1) (Nat.lt_succ_of_lt hk1)]
        cases z with
        | none =>
          show Value.int (hset h t i (k0 + 0) v t i k1) :: _ = Value.int (h t i k1) :: _
          have : hset h t i (k0 + 0) v t i k1 = h t i k1 := by unfold hset; rw [if_neg]; rintro ⟨-, -, e⟩; omega
          rw [this]
        | some _ => rfl
    rw [e1, e2 ds (k0 + 1) (Nat.lt_succ_self _)]
  | d :: ds, k0, k + 1, hk => by
    have e : k0 + (k + 1) = (k0 + 1) + k := by omega
    have := fvs_set (G := G) (h := h) (t := t) (i := i) (v := v) ds (k0 + 1) k hk
    show fv G (hset h t i (k0 + (k + 1)) v) t i k0 d :: fvs G (hset h t i (k0 + (k + 1)) v) t i (k0 + 1) ds = fv G h t i k0 d :: (fvs G h t i (k0 + 1) ds).set k (.int v)
    rw [e, this]
    cases d with
    | none =>
      show Value.int (hset h t i (k0 + 1 + k) v t i k0) :: _ = Value.int (h t i k0) :: _
      have : hset h t i (k0 + 1 + k) v t i k0 = h t i k0 := by unfold hset; rw [if_neg]; rintro ⟨-, -, e⟩; omega
      rw [this]
    | some _ => rfl
/-! which references are good -/
def okV : AV → Prop
  | .inr (.inr (t, i)) => (t, i) ∈ keys ∨ 60 ≤ t
  | _ => True
def okS (l : List AV) : Prop := ∀ v ∈ l, okV v
def okL (l : List (Option AV)) : Prop := ∀ v, some v ∈ l → okV v
theorem okS.tl {v : AV} {l : List AV} (h : okS (v :: l)) : okS l := fun w hw => h w (List.mem_cons_of_mem _ hw)
theorem okS.hd {v : AV} {l : List AV} (h : okS (v :: l)) : okV v := h v List.mem_cons_self
theorem okS.co {v : AV} {l : List AV} (hv : okV v) (h : okS l) : okS (v :: l) := fun w hw => (List.mem_cons.mp hw).elim (fun e => e ▸ hv) (h w)
theorem okS.ci {x : Int32} {l : List AV} (h : okS l) : okS (vI x :: l) := okS.co trivial h
theorem okS.cl {x : Int64} {l : List AV} (h : okS l) : okS (vL x :: l) := okS.co trivial h
theorem sh_lt {t : Nat} {z : Sh} (h : sh t = some z) : t < 60 := Nat.lt_of_lt_of_le (nth_lt shL t z h) (by decide)
theorem okV.key {t i : Nat} {z : Sh} (h : okV (vR t i)) (hs : sh t = some z) : ∃ q : Nat, keys[q]? = some (t, i) := by
  rcases h with h | h
  · exact List.getElem?_of_mem h
  · exact absurd (sh_lt hs) (Nat.not_lt.mpr h)
def fldOk : Bool := keys.all fun q => match sh q.1 with
  | some (.inl (_, fs)) => fs.all fun d => match d with
    | some (t', j) => decide ((t', q.2 + j) ∈ keys)
    | none => true
  | some (.inr (.inr (_, n, et))) => (List.range n).all fun j => decide ((et, j) ∈ keys)
  | _ => true
theorem fldOk_true : fldOk = true := by decide +kernel
theorem fld_ok {t i ci : Nat} {fs : List (Option (Nat × Nat))} {k t' j : Nat} (hq : (t, i) ∈ keys) (hs : sh t = some (.inl (ci, fs))) (hk : nth fs k = some (some (t', j))) : (t', i + j) ∈ keys := by
  have h1 := List.all_eq_true.mp fldOk_true (t, i) hq
  simp only [hs] at h1
  have h2 := List.all_eq_true.mp h1 _ (nth_mem fs k _ hk)
  exact of_decide_eq_true h2
theorem arr_ok {t i kd n et j : Nat} (hq : (t, i) ∈ keys) (hs : sh t = some (.inr (.inr (kd, n, et)))) (hj : j < n) : (et, j) ∈ keys := by
  have h1 := List.all_eq_true.mp fldOk_true (t, i) hq
  simp only [hs] at h1
  exact of_decide_eq_true (List.all_eq_true.mp h1 j (List.mem_range.mpr hj))
/-! locals -/
def lset {α : Type} : List α → Nat → α → List α
  | [], _, _ => []
  | _ :: l, 0, v => v :: l
  | a :: l, n + 1, v => a :: lset l n v
def asc (G : GE) : Nat → List (Option AV) → List (Nat × Value)
  | _, [] => []
  | k, none :: l => asc G (k + 1) l
  | k, some v :: l => (k, cv G v) :: asc G (k + 1) l
theorem asc_mem {G : GE} : ∀ (l : List (Option AV)) (k i : Nat) (v : AV), nth l i = some (some v) → (k + i, cv G v) ∈ asc G k l
  | [], _, _, _, h => by cases h
  | a :: l, k, 0, v, h => by
    obtain rfl := Option.some.inj h
    exact List.mem_cons_self
  | none :: l, k, i + 1, v, h => by
    have := asc_mem (G := G) l (k + 1) i v h
    rw [show k + (i + 1) = k + 1 + i by omega]
    exact this
  | some w :: l, k, i + 1, v, h => by
    have := asc_mem (G := G) l (k + 1) i v h
    rw [show k + (i + 1) = k + 1 + i by omega]
    exact List.mem_cons_of_mem _ this
theorem asc_of {G : GE} : ∀ (l : List (Option AV)) (k j : Nat) (w : Value), (j, w) ∈ asc G k l → ∃ i v, j = k + i ∧ nth l i = some (some v) ∧ w = cv G v
  | [], _, _, _, h => by cases h
  | none :: l, k, j, w, h => by
    obtain ⟨i, v, h1, h2, h3⟩ := asc_of (G := G) l (k + 1) j w h
    exact ⟨i + 1, v, by omega, h2, h3⟩
  | some a :: l, k, j, w, h => by
    rcases List.mem_cons.mp h with h | h
    · exact ⟨0, a, by have := congrArg Prod.fst h; simpa using this, rfl, congrArg Prod.snd h⟩
    · obtain ⟨i, v, h1, h2, h3⟩ := asc_of (G := G) l (k + 1) j w h
      exact ⟨i + 1, v, by omega, h2, h3⟩
def lk (G : GE) (ls : Array Slot) (n : Nat) (lv : List (Option AV)) : Prop := lv_has ls n (asc G 0 lv)
theorem lk_get {G : GE} {ls : Array Slot} {n : Nat} {lv : List (Option AV)} (h : lk G ls n lv) {i : Nat} {v : AV} (hi : nth lv i = some (some v)) : ls[i]? = some (.val (cv G v)) := by
  have := asc_mem (G := G) lv 0 i v hi
  rw [Nat.zero_add] at this
  exact h.2.2 _ this
theorem lv_has_sub {ls : Array Slot} {n : Nat} {l l' : List (Nat × Value)} (h : lv_has ls n l) (hs : ∀ q ∈ l', q ∈ l) : lv_has ls n l' := ⟨h.1, h.2.1, fun q hq => h.2.2 q (hs q hq)⟩
def noL (lv : List (Option AV)) : Nat → Bool
  | 0 => true
  | i + 1 => match nth lv i with
    | some (some (.inr (.inl _))) => false
    | _ => true
theorem nth_lset {α : Type} : ∀ (l : List α) (i k : Nat) (v w : α), nth (lset l i v) k = some w → (k = i ∧ w = v) ∨ (k ≠ i ∧ nth l k = some w)
  | [], i, k, v, w, h => by cases h
  | a :: l, 0, 0, v, w, h => Or.inl ⟨rfl, (Option.some.inj h).symm⟩
  | a :: l, 0, k + 1, v, w, h => Or.inr ⟨by omega, h⟩
  | a :: l, i + 1, 0, v, w, h => Or.inr ⟨by omega, h⟩
  | a :: l, i + 1, k + 1, v, w, h => by
    rcases nth_lset l i k v w h with ⟨h1, h2⟩ | ⟨h1, h2⟩
    · exact Or.inl ⟨by omega, h2⟩
    · exact Or.inr ⟨by omega, h2⟩
theorem lk_set {G : GE} {ls' : Array Slot} {n : Nat} {lv : List (Option AV)} {i : Nat} {v : AV} (hn : noL lv i = true) (h : lv_has ls' n ((i, cv G v) :: (asc G 0 lv).filter (fun q => !(q.1 == i) && !(q.1 + 1 == i && q.2.category == 2)))) : lk G ls' n (lset lv i (some v)) := by
  refine lv_has_sub h fun q hq => ?_
  obtain ⟨j, w⟩ := q
  obtain ⟨k, u, h1, h2, h3⟩ := asc_of _ _ _ _ hq
  rw [Nat.zero_add] at h1
  subst h1
  rcases nth_lset lv i j (some v) (some u) h2 with ⟨rfl, e⟩ | ⟨hne, hu⟩
  · obtain rfl := Option.some.inj e
    rw [h3]
    exact List.mem_cons_self
  · refine List.mem_cons_of_mem _ (List.mem_filter.mpr ⟨?_, ?_⟩)
    · have := asc_mem (G := G) lv 0 j u hu
      rw [Nat.zero_add] at this
      rw [h3]
      exact this
    · have a1 : (j == i) = false := beq_false_of_ne hne
      have a2 : (j + 1 == i && w.category == 2) = false := by
        by_cases hji : j + 1 = i
        · subst hji
          have hn' : (match nth lv j with | some (some (.inr (.inl _))) => false | _ => true) = true := hn
          rw [hu] at hn'
          rcases u with x | x | ⟨t, y⟩
          · rw [h3]; simp [cv, Value.category]
          · cases hn'
          · rw [h3]; simp [cv, Value.category]
        · rw [beq_false_of_ne hji]; rfl
      show (!(j == i) && !(j + 1 == i && w.category == 2)) = true
      rw [a1, a2]; rfl
theorem okL_set {lv : List (Option AV)} {i : Nat} {v : AV} (h : okL lv) (hv : okV v) : okL (lset lv i (some v)) := by
  have key : ∀ (l : List (Option AV)) (i : Nat), okL l → okL (lset l i (some v)) := by
    intro l
    induction l with
    | nil => intro i h; exact h
    | cons a l ih =>
      intro i h w hw
      cases i with
      | zero =>
        rcases List.mem_cons.mp hw with e | hw
        · obtain rfl := Option.some.inj e; exact hv
        · exact h w (List.mem_cons_of_mem _ hw)
      | succ i =>
        rcases List.mem_cons.mp hw with e | hw
        · exact h w (by rw [e]; exact List.mem_cons_self)
        · exact ih i (fun u hu => h u (List.mem_cons_of_mem _ hu)) w hw
  exact key lv i h
theorem okL_get {lv : List (Option AV)} {i : Nat} {v : AV} (h : okL lv) (hi : nth lv i = some (some v)) : okV v := h v (nth_mem _ _ _ hi)
end
section
/-! CONTEXT, CONTRACTS AND THE JUDGEMENT -/
/-- a method: name, bytes, number of locals, answer's type, depth of its calls -/
abbrev MI : Type := MethodName × ByteArray × Nat × Option FieldType × Nat
def rmD (d : Nat) : Room := { frames := d, cells := 0, slots := 0, locals := 38 * d }
def tUSUAL : List Int32 := [5, 5, 5, 5, 9, 9, 9, 20, 5, 2, 15, 10, 2, 6, 1, 0, 0, 1]
def tLEAST : List Int32 := [1, 1, 1, 1, 1, 1, 1, 0, 1, 1, 0, 0, 0, 1, 1, 0, 0, 1]
def tMOST : List Int32 := [20, 20, 20, 20, 18, 18, 18, 60, 20, 9, 99, 30, 9, 18, 2, 2, 20, 5]
abbrev RO : Type := Nat → Option (Nat × (Nat → Int32))
def roM : RO
  | 60 => some (18, fun j => tUSUAL.getD j 0)
  | 61 => some (18, fun j => tLEAST.getD j 0)
  | 62 => some (18, fun j => tMOST.getD j 0)
  | _ => none
def statL : List (String × Nat) := [("USUAL", 60), ("LEAST", 61), ("MOST", 62)]
def nestW : List Cond := [.methodLinkNest RX1 65 yX7_within RX7, .methodLinkNest RX6 15 yX7_within RX7, .methodLinkNest RX0 107 yX7_dividedDown RX7, .methodLinkNest RX2 25 yX7_within RX7, .methodLinkNest RX4 17 yX7_within RX7]
def strText : String := "weightbend  rise  run   fall  mark  stand near  quick feet  pit   habit seen  "
def strBytes : List Int32 := [119, 101, 105, 103, 104, 116, 98, 101, 110, 100, 32, 32, 114, 105, 115, 101, 32, 32, 114, 117, 110, 32, 32, 32, 102, 97, 108, 108, 32, 32, 109, 97, 114, 107, 32, 32, 115, 116, 97, 110, 100, 32, 110, 101, 97, 114, 32, 32, 113, 117, 105, 99, 107, 32, 102, 101, 101, 116, 32, 32, 112, 105, 116, 32, 32, 32, 104, 97, 98, 105, 116, 32, 115, 101, 101, 110, 32, 32]
/-- what nobody writes: the rules' tables, the text of names, who may call whom in the nest -/
def Stat (G : GE) (U : State) (H : Heap) : Prop :=
  (∀ q ∈ statL, va_Z RX3 q.1 "[I" (.ref (G.2.2 q.2 0)) (Ac G) U H) ∧
  (∀ t n f, roM t = some (n, f) → va_T .int (G.2.2 t 0) n (fun j => .int (f j)) (Ac G) U H) ∧
  (va_Nw (.methodLinkNest RX1 65 yX7_within RX7) U ∧ va_Nw (.methodLinkNest RX6 15 yX7_within RX7) U ∧ va_Nw (.methodLinkNest RX0 107 yX7_dividedDown RX7) U ∧ va_Nw (.methodLinkNest RX2 25 yX7_within RX7) U ∧ va_Nw (.methodLinkNest RX4 17 yX7_within RX7) U) ∧
  vk_R RX1 95 strText (G.2.2 64 0) U ∧ vk_S 1 [78] [strBytes] (fun _ => G.2.2 64 0) (fun _ => G.2.2 65 0) (Ac G) U H ∧ va_Z RJ0 "COMPACT_STRINGS" "Z" (.int 1) (Ac G) U H
theorem Stat.warm {G : GE} {s U : State} {H : Heap} (hW : s.WarmedH U.vm) (h : Stat G s H) : Stat G U H := by
  obtain ⟨h1, h2, ⟨n1, n2, n3, n4, n5⟩, h4, h5, h6⟩ := h
  exact ⟨fun q hq => (h1 q hq).moved hW.alike, fun t n f hf => (h2 t n f hf).moved hW.alike, ⟨n1.warmM hW, n2.warmM hW, n3.warmM hW, n4.warmM hW, n5.warmM hW⟩, h4.warm hW, h5.moved hW.alike, h6.moved hW.alike⟩
theorem Stat.kept {G : GE} {U : State} {H H1 : Heap} (hq : ∀ a : Nat, a < H.size → ¬ Ac G a → H1[a]? = H[a]?) (h : Stat G U H) : Stat G U H1 := by
  obtain ⟨h1, h2, h3, h4, h5, h6⟩ := h
  exact ⟨fun q hq' => (h1 q hq').kept hq, fun t n f hf => (h2 t n f hf).kept hq, h3, h4, h5.kept hq, h6.kept hq⟩
theorem Stat.same {G : GE} {s U : State} {H : Heap} (hv : U.vm = s.vm) (h : Stat G s H) : Stat G U H := by
  obtain ⟨h1, h2, ⟨n1, n2, n3, n4, n5⟩, h4, h5, h6⟩ := h
  have ha : s.vm.Alike U.vm := by rw [hv]; exact Vm.Alike.refl s.vm
  exact ⟨fun q hq => (h1 q hq).moved ha, fun t n f hf => (h2 t n f hf).moved ha, ⟨va_Nw.same rfl hv.symm n1, va_Nw.same rfl hv.symm n2, va_Nw.same rfl hv.symm n3, va_Nw.same rfl hv.symm n4, va_Nw.same rfl hv.symm n5⟩, h4.same hv, h5.moved ha, h6.moved ha⟩
def World (G : GE) (h : Hp) (U : State) : Prop := va_P G.1 vwCl (wsG G h) U.heap ∧ va_K G.1 vwCl (tysG G) U ∧ Inj G ∧ Stat G U U.heap
def wA (mi : MI) : List Cond := .code mi.1 mi.2.1 mi.2.2.1 mi.2.2.2.1 :: TB
abbrev QT : Type := Option Int32 → Hp → Prop
def Qc (G : GE) (Q : QT) : Array Value → State → Outcome → State → Prop := fun _ st oc t => (∃ (r : Option Int32) (h' : Hp), oc = .returned (r.map Value.int) ∧ Q r h' ∧ va_P G.1 vwCl (wsG G h') t.heap) ∧ va_F (Ac G) st t
/-- the contract: called on these arguments and this heap the method returns, and Q holds of its answer and the heap behind it -/
def CT (l : Launch) (G : GE) (mi : MI) (as : List AV) (h : Hp) (Q : QT) : Prop :=
  okS as → Met l mi.1 (wA mi) (rmD mi.2.2.2.2) (va_Pc (as.map (cv G)) (World G h)) (Qc G Q) 0 0 (Ac G)
/-- the frame's kind: read-only rows beside those of every method, room, cells and slots so far, what is to be reached -/
abbrev FK : Type := RO × Room × Nat × Nat × (State → Array Value → List Frame → State → Prop)
def fkM (G : GE) (mi : MI) (Q : QT) : FK := (roM, rmD mi.2.2.2.2, 0, 0, fun s args below => MQ below (Qc G Q) args s 0 0 (Ac G))
def Cx (G : GE) (mi : MI) (fk : FK) (p : Program) (s : State) (m : MethodId) (args : Array Value) (meth : Method) (c : Code) : Prop :=
  p.tables.exec = Jvm.exec ∧ c.code = mi.2.1 ∧ c.maxLocals = mi.2.2.1 ∧ s.vm.findClass mi.1.cls = some m.cls ∧ (∀ w ∈ TB, w.before args s = true) ∧ va_K G.1 vwCl (tysG G) s ∧ Inj G ∧ Stat G s s.heap ∧ (∀ t n f, fk.1 t = some (n, f) → va_T .int (G.2.2 t 0) n (fun j => .int (f j)) (Ac G) s s.heap) ∧ meth.locks = false ∧ meth.sig.returnType = mi.2.2.2.1
/-- from this place, with these locals, this stack and this heap, the machine comes where the frame's kind says -/
def Ev (l : Launch) (G : GE) (mi : MI) (fk : FK) (pc : Nat) (lv : List (Option AV)) (st : List AV) (h : Hp) : Prop :=
  ∀ (p : Program) (e : Env) (s : State) (m : MethodId) (args : Array Value) (below : List Frame) (meth : Method) (c : Code), Cx G mi fk p s m args meth c →
  ∀ (H : Heap) (locs : List Loc) (ls : Array Slot), va_P G.1 vwCl (wsG G h) H → va_S (Ac G) s.heap H locs → lk G ls mi.2.2.1 lv → okL lv → okS st →
    W p l e fk.2.1 s m args below meth c H locs fk.2.2.1 fk.2.2.2.1 (fk.2.2.2.2 s args below) (F0 m pc ls (st.map (cv G)))
/-! a contract out of a walk -/
def lvA : List AV → List (Option AV)
  | [] => []
  | .inr (.inl x) :: l => some (vL x) :: none :: lvA l
  | v :: l => some v :: lvA l
def lvOf (as : List AV) (n : Nat) : List (Option AV) := lvA as ++ List.replicate (n - (lvA as).length) none
theorem asc_app {G : GE} : ∀ (l : List (Option AV)) (k n : Nat), asc G k (l ++ List.replicate n none) = asc G k l
  | [], k, n => by
    induction n generalizing k with
    | zero => rfl
    | succ n ih => show asc G (k + 1) (List.replicate n none) = []; exact ih (k + 1)
  | none :: l, k, n => asc_app l (k + 1) n
  | some v :: l, k, n => by
    show (k, cv G v) :: asc G (k + 1) (l ++ List.replicate n none) = (k, cv G v) :: asc G (k + 1) l
    rw [asc_app l (k + 1) n]
theorem asc_args {G : GE} : ∀ (as : List AV) (k : Nat), asc G k (lvA as) = lv_args k (as.map (cv G))
  | [], k => rfl
  | .inl x :: l, k => by
    show (k, Value.int x) :: asc G (k + 1) (lvA l) = (k, Value.int x) :: lv_args (k + 1) (l.map (cv G))
    rw [asc_args l (k + 1)]
  | .inr (.inl x) :: l, k => by
    show (k, Value.long x) :: asc G (k + 1 + 1) (lvA l) = (k, Value.long x) :: lv_args (k + 2) (l.map (cv G))
    rw [asc_args l (k + 1 + 1)]
  | .inr (.inr (t, i)) :: l, k => by
    show (k, Value.ref (G.2.2 t i)) :: asc G (k + 1) (lvA l) = (k, Value.ref (G.2.2 t i)) :: lv_args (k + 1) (l.map (cv G))
    rw [asc_args l (k + 1)]
theorem lg_len {G : GE} : ∀ (as : List AV), (lg_sl (as.map (cv G))).length = (lvA as).length
  | [] => rfl
  | .inl x :: l => by show (lg_sl (l.map (cv G))).length + 1 = (lvA l).length + 1; rw [lg_len l]
  | .inr (.inl x) :: l => by show (lg_sl (l.map (cv G))).length + 1 + 1 = (lvA l).length + 1 + 1; rw [lg_len l]
  | .inr (.inr (t, i)) :: l => by show (lg_sl (l.map (cv G))).length + 1 = (lvA l).length + 1; rw [lg_len l]
theorem okL_of {as : List AV} {n : Nat} (h : okS as) : okL (lvOf as n) := by
  have key : ∀ (as : List AV), okS as → okL (lvA as) := by
    intro as
    induction as with
    | nil => intro _ v hv; cases hv
    | cons a as ih =>
      intro h v hv
      rcases a with x | x | ⟨t, i⟩
      · rcases List.mem_cons.mp hv with e | hv
        · obtain rfl := Option.some.inj e; trivial
        · exact ih h.tl v hv
      · rcases List.mem_cons.mp hv with e | hv
        · obtain rfl := Option.some.inj e; trivial
        · rcases List.mem_cons.mp hv with e | hv
          · cases e
          · exact ih h.tl v hv
      · rcases List.mem_cons.mp hv with e | hv
        · obtain rfl := Option.some.inj e; exact h.hd
        · exact ih h.tl v hv
  intro v hv
  rcases List.mem_append.mp hv with h1 | h1
  · exact key as h v h1
  · cases (List.mem_replicate.mp h1).2
theorem CT.of {l : Launch} {G : GE} {mi : MI} {as : List AV} {h : Hp} {Q : QT} (hp : plainName mi.1.cls = true) (hn : (lvA as).length ≤ mi.2.2.1) (k : Ev l G mi (fkM G mi Q) 0 (lvOf as mi.2.2.1) [] h) : CT l G mi as h Q := by
  intro hok
  refine Met.ofW (cc := mi.2.1) (maxL := mi.2.2.1) (ret := mi.2.2.2.1) hp rfl ?_
  intro p e s m args below meth c s₁ B hml hv
  obtain ⟨rfl, hP, hK, hI, hSt⟩ := hv
  have hts := atoms_spec (ws := wA mi) B.pre
  rw [lg_entry_eq]
  refine k p e s m _ below meth c ⟨B.exec, B.bytes, hml, findClass_of_methodNamed B.named, fun w hw => hts w (List.mem_cons_of_mem _ hw), hK, hI, hSt, hSt.2.1, B.notSynchronized, B.returns⟩ s.heap [] _ hP va_S.rf ?_ (okL_of hok) (fun v hv => by cases hv)
  have h1 := lv_entry (as.map (cv G)) (n := mi.2.2.1) (by rw [lg_len]; exact hn)
  unfold lk lvOf
  rw [asc_app, asc_args]
  exact h1
end
section
/-! ROWS: one an instruction -/
theorem cv_cat {G : GE} {v : AV} (hc : ∀ x, v ≠ vL x) : (cv G v).category = 1 := by
  rcases v with x | x | ⟨t, i⟩
  · rfl
  · exact absurd rfl (hc x)
  · rfl
theorem E_iadd {l : Launch} {G : GE} {mi : MI} {fk : FK} {pc : Nat} {lv : List (Option AV)} {st : List AV} {h : Hp} {x y : Int32} (hd : decode mi.2.1 pc = .ok (.iadd, 1)) (k : Ev l G mi fk (pc + 1) lv (vI (x + y) :: st) h) : Ev l G mi fk pc lv (vI y :: vI x :: st) h := by
  intro p e s m args below meth c X H locs ls hP hS hl okl oks
  exact lv_iadd X.1 X.2.1 hd (k p e s m args below meth c X H locs ls hP hS hl okl oks.tl.tl.ci)
theorem E_isub {l : Launch} {G : GE} {mi : MI} {fk : FK} {pc : Nat} {lv : List (Option AV)} {st : List AV} {h : Hp} {x y : Int32} (hd : decode mi.2.1 pc = .ok (.isub, 1)) (k : Ev l G mi fk (pc + 1) lv (vI (x - y) :: st) h) : Ev l G mi fk pc lv (vI y :: vI x :: st) h := by
  intro p e s m args below meth c X H locs ls hP hS hl okl oks
  exact lv_isub X.1 X.2.1 hd (k p e s m args below meth c X H locs ls hP hS hl okl oks.tl.tl.ci)
theorem E_imul {l : Launch} {G : GE} {mi : MI} {fk : FK} {pc : Nat} {lv : List (Option AV)} {st : List AV} {h : Hp} {x y : Int32} (hd : decode mi.2.1 pc = .ok (.imul, 1)) (k : Ev l G mi fk (pc + 1) lv (vI (x * y) :: st) h) : Ev l G mi fk pc lv (vI y :: vI x :: st) h := by
  intro p e s m args below meth c X H locs ls hP hS hl okl oks
  exact lv_imul X.1 X.2.1 hd (k p e s m args below meth c X H locs ls hP hS hl okl oks.tl.tl.ci)
theorem E_iand {l : Launch} {G : GE} {mi : MI} {fk : FK} {pc : Nat} {lv : List (Option AV)} {st : List AV} {h : Hp} {x y : Int32} (hd : decode mi.2.1 pc = .ok (.iand, 1)) (k : Ev l G mi fk (pc + 1) lv (vI (x &&& y) :: st) h) : Ev l G mi fk pc lv (vI y :: vI x :: st) h := by
  intro p e s m args below meth c X H locs ls hP hS hl okl oks
  exact lv_iand X.1 X.2.1 hd (k p e s m args below meth c X H locs ls hP hS hl okl oks.tl.tl.ci)
theorem E_ior {l : Launch} {G : GE} {mi : MI} {fk : FK} {pc : Nat} {lv : List (Option AV)} {st : List AV} {h : Hp} {x y : Int32} (hd : decode mi.2.1 pc = .ok (.ior, 1)) (k : Ev l G mi fk (pc + 1) lv (vI (x ||| y) :: st) h) : Ev l G mi fk pc lv (vI y :: vI x :: st) h := by
  intro p e s m args below meth c X H locs ls hP hS hl okl oks
  exact lv_ior X.1 X.2.1 hd (k p e s m args below meth c X H locs ls hP hS hl okl oks.tl.tl.ci)
theorem E_ixor {l : Launch} {G : GE} {mi : MI} {fk : FK} {pc : Nat} {lv : List (Option AV)} {st : List AV} {h : Hp} {x y : Int32} (hd : decode mi.2.1 pc = .ok (.ixor, 1)) (k : Ev l G mi fk (pc + 1) lv (vI (x ^^^ y) :: st) h) : Ev l G mi fk pc lv (vI y :: vI x :: st) h := by
  intro p e s m args below meth c X H locs ls hP hS hl okl oks
  exact lv_ixor X.1 X.2.1 hd (k p e s m args below meth c X H locs ls hP hS hl okl oks.tl.tl.ci)
theorem E_ishl {l : Launch} {G : GE} {mi : MI} {fk : FK} {pc : Nat} {lv : List (Option AV)} {st : List AV} {h : Hp} {x y : Int32} (hd : decode mi.2.1 pc = .ok (.ishl, 1)) (k : Ev l G mi fk (pc + 1) lv (vI (x <<< (y &&& 31)) :: st) h) : Ev l G mi fk pc lv (vI y :: vI x :: st) h := by
  intro p e s m args below meth c X H locs ls hP hS hl okl oks
  exact lv_ishl X.1 X.2.1 hd (k p e s m args below meth c X H locs ls hP hS hl okl oks.tl.tl.ci)
theorem E_ishr {l : Launch} {G : GE} {mi : MI} {fk : FK} {pc : Nat} {lv : List (Option AV)} {st : List AV} {h : Hp} {x y : Int32} (hd : decode mi.2.1 pc = .ok (.ishr, 1)) (k : Ev l G mi fk (pc + 1) lv (vI (x >>> (y &&& 31)) :: st) h) : Ev l G mi fk pc lv (vI y :: vI x :: st) h := by
  intro p e s m args below meth c X H locs ls hP hS hl okl oks
  exact lv_ishr X.1 X.2.1 hd (k p e s m args below meth c X H locs ls hP hS hl okl oks.tl.tl.ci)
theorem E_iushr {l : Launch} {G : GE} {mi : MI} {fk : FK} {pc : Nat} {lv : List (Option AV)} {st : List AV} {h : Hp} {x y : Int32} (hd : decode mi.2.1 pc = .ok (.iushr, 1)) (k : Ev l G mi fk (pc + 1) lv (vI ((x.toUInt32 >>> (y.toUInt32 &&& Int32.toUInt32 31)).toInt32) :: st) h) : Ev l G mi fk pc lv (vI y :: vI x :: st) h := by
  intro p e s m args below meth c X H locs ls hP hS hl okl oks
  exact lv_iushr X.1 X.2.1 hd rfl (k p e s m args below meth c X H locs ls hP hS hl okl oks.tl.tl.ci)
theorem E_idiv {l : Launch} {G : GE} {mi : MI} {fk : FK} {pc : Nat} {lv : List (Option AV)} {st : List AV} {h : Hp} {x y : Int32} (hd : decode mi.2.1 pc = .ok (.idiv, 1)) (hy : ¬ y = 0) (k : Ev l G mi fk (pc + 1) lv (vI (x / y) :: st) h) : Ev l G mi fk pc lv (vI y :: vI x :: st) h := by
  intro p e s m args below meth c X H locs ls hP hS hl okl oks
  exact lv_idiv X.1 X.2.1 hd hy (k p e s m args below meth c X H locs ls hP hS hl okl oks.tl.tl.ci)
theorem E_irem {l : Launch} {G : GE} {mi : MI} {fk : FK} {pc : Nat} {lv : List (Option AV)} {st : List AV} {h : Hp} {x y : Int32} (hd : decode mi.2.1 pc = .ok (.irem, 1)) (hy : ¬ y = 0) (k : Ev l G mi fk (pc + 1) lv (vI (x - x / y * y) :: st) h) : Ev l G mi fk pc lv (vI y :: vI x :: st) h := by
  intro p e s m args below meth c X H locs ls hP hS hl okl oks
  exact lv_irem X.1 X.2.1 hd hy (k p e s m args below meth c X H locs ls hP hS hl okl oks.tl.tl.ci)
theorem E_ineg {l : Launch} {G : GE} {mi : MI} {fk : FK} {pc : Nat} {lv : List (Option AV)} {st : List AV} {h : Hp} {x : Int32} (hd : decode mi.2.1 pc = .ok (.ineg, 1)) (k : Ev l G mi fk (pc + 1) lv (vI (-x) :: st) h) : Ev l G mi fk pc lv (vI x :: st) h := by
  intro p e s m args below meth c X H locs ls hP hS hl okl oks
  exact lv_ineg X.1 X.2.1 hd (k p e s m args below meth c X H locs ls hP hS hl okl oks.tl.ci)
theorem E_i2b {l : Launch} {G : GE} {mi : MI} {fk : FK} {pc : Nat} {lv : List (Option AV)} {st : List AV} {h : Hp} {x : Int32} (hd : decode mi.2.1 pc = .ok (.i2b, 1)) (k : Ev l G mi fk (pc + 1) lv (vI (x.toInt8.toInt32) :: st) h) : Ev l G mi fk pc lv (vI x :: st) h := by
  intro p e s m args below meth c X H locs ls hP hS hl okl oks
  exact lv_i2b X.1 X.2.1 hd rfl (k p e s m args below meth c X H locs ls hP hS hl okl oks.tl.ci)
theorem E_i2s {l : Launch} {G : GE} {mi : MI} {fk : FK} {pc : Nat} {lv : List (Option AV)} {st : List AV} {h : Hp} {x : Int32} (hd : decode mi.2.1 pc = .ok (.i2s, 1)) (k : Ev l G mi fk (pc + 1) lv (vI (x.toInt16.toInt32) :: st) h) : Ev l G mi fk pc lv (vI x :: st) h := by
  intro p e s m args below meth c X H locs ls hP hS hl okl oks
  exact lv_i2s X.1 X.2.1 hd rfl (k p e s m args below meth c X H locs ls hP hS hl okl oks.tl.ci)
theorem E_i2c {l : Launch} {G : GE} {mi : MI} {fk : FK} {pc : Nat} {lv : List (Option AV)} {st : List AV} {h : Hp} {x : Int32} (hd : decode mi.2.1 pc = .ok (.i2c, 1)) (k : Ev l G mi fk (pc + 1) lv (vI ((x.toUInt32 % 65536).toInt32) :: st) h) : Ev l G mi fk pc lv (vI x :: st) h := by
  intro p e s m args below meth c X H locs ls hP hS hl okl oks
  exact lv_i2c X.1 X.2.1 hd rfl (k p e s m args below meth c X H locs ls hP hS hl okl oks.tl.ci)
theorem E_i2l {l : Launch} {G : GE} {mi : MI} {fk : FK} {pc : Nat} {lv : List (Option AV)} {st : List AV} {h : Hp} {x : Int32} (hd : decode mi.2.1 pc = .ok (.i2l, 1)) (k : Ev l G mi fk (pc + 1) lv (vL x.toInt64 :: st) h) : Ev l G mi fk pc lv (vI x :: st) h := by
  intro p e s m args below meth c X H locs ls hP hS hl okl oks
  exact lv_i2l X.1 X.2.1 hd rfl (k p e s m args below meth c X H locs ls hP hS hl okl oks.tl.cl)
theorem E_l2i {l : Launch} {G : GE} {mi : MI} {fk : FK} {pc : Nat} {lv : List (Option AV)} {st : List AV} {h : Hp} {x : Int64} (hd : decode mi.2.1 pc = .ok (.l2i, 1)) (k : Ev l G mi fk (pc + 1) lv (vI x.toInt32 :: st) h) : Ev l G mi fk pc lv (vL x :: st) h := by
  intro p e s m args below meth c X H locs ls hP hS hl okl oks
  exact lv_l2i X.1 X.2.1 hd rfl (k p e s m args below meth c X H locs ls hP hS hl okl oks.tl.ci)
theorem E_ladd {l : Launch} {G : GE} {mi : MI} {fk : FK} {pc : Nat} {lv : List (Option AV)} {st : List AV} {h : Hp} {x y : Int64} (hd : decode mi.2.1 pc = .ok (.ladd, 1)) (k : Ev l G mi fk (pc + 1) lv (vL (x + y) :: st) h) : Ev l G mi fk pc lv (vL y :: vL x :: st) h := by
  intro p e s m args below meth c X H locs ls hP hS hl okl oks
  exact lv_ladd X.1 X.2.1 hd (k p e s m args below meth c X H locs ls hP hS hl okl oks.tl.tl.cl)
theorem E_land {l : Launch} {G : GE} {mi : MI} {fk : FK} {pc : Nat} {lv : List (Option AV)} {st : List AV} {h : Hp} {x y : Int64} (hd : decode mi.2.1 pc = .ok (.land, 1)) (k : Ev l G mi fk (pc + 1) lv (vL (x &&& y) :: st) h) : Ev l G mi fk pc lv (vL y :: vL x :: st) h := by
  intro p e s m args below meth c X H locs ls hP hS hl okl oks
  exact lv_land X.1 X.2.1 hd (k p e s m args below meth c X H locs ls hP hS hl okl oks.tl.tl.cl)
theorem E_lor {l : Launch} {G : GE} {mi : MI} {fk : FK} {pc : Nat} {lv : List (Option AV)} {st : List AV} {h : Hp} {x y : Int64} (hd : decode mi.2.1 pc = .ok (.lor, 1)) (k : Ev l G mi fk (pc + 1) lv (vL (x ||| y) :: st) h) : Ev l G mi fk pc lv (vL y :: vL x :: st) h := by
  intro p e s m args below meth c X H locs ls hP hS hl okl oks
  exact lv_lor X.1 X.2.1 hd (k p e s m args below meth c X H locs ls hP hS hl okl oks.tl.tl.cl)
theorem E_lshl {l : Launch} {G : GE} {mi : MI} {fk : FK} {pc : Nat} {lv : List (Option AV)} {st : List AV} {h : Hp} {x : Int64} {y : Int32} (hd : decode mi.2.1 pc = .ok (.lshl, 1)) (k : Ev l G mi fk (pc + 1) lv (vL (x <<< (y.toInt64 &&& 63)) :: st) h) : Ev l G mi fk pc lv (vI y :: vL x :: st) h := by
  intro p e s m args below meth c X H locs ls hP hS hl okl oks
  exact lv_lshl X.1 X.2.1 hd rfl (k p e s m args below meth c X H locs ls hP hS hl okl oks.tl.tl.cl)
theorem E_lshr {l : Launch} {G : GE} {mi : MI} {fk : FK} {pc : Nat} {lv : List (Option AV)} {st : List AV} {h : Hp} {x : Int64} {y : Int32} (hd : decode mi.2.1 pc = .ok (.lshr, 1)) (k : Ev l G mi fk (pc + 1) lv (vL (x >>> (y.toInt64 &&& 63)) :: st) h) : Ev l G mi fk pc lv (vI y :: vL x :: st) h := by
  intro p e s m args below meth c X H locs ls hP hS hl okl oks
  exact lv_lshr X.1 X.2.1 hd rfl (k p e s m args below meth c X H locs ls hP hS hl okl oks.tl.tl.cl)
theorem E_lushr {l : Launch} {G : GE} {mi : MI} {fk : FK} {pc : Nat} {lv : List (Option AV)} {st : List AV} {h : Hp} {x : Int64} {y : Int32} (hd : decode mi.2.1 pc = .ok (.lushr, 1)) (k : Ev l G mi fk (pc + 1) lv (vL ((x.toUInt64 >>> (y.toInt64.toUInt64 &&& Int64.toUInt64 63)).toInt64) :: st) h) : Ev l G mi fk pc lv (vI y :: vL x :: st) h := by
  intro p e s m args below meth c X H locs ls hP hS hl okl oks
  exact lv_lushr X.1 X.2.1 hd rfl (k p e s m args below meth c X H locs ls hP hS hl okl oks.tl.tl.cl)
theorem E_lcmp {l : Launch} {G : GE} {mi : MI} {fk : FK} {pc : Nat} {lv : List (Option AV)} {st : List AV} {h : Hp} {x y : Int64} (hd : decode mi.2.1 pc = .ok (.lcmp, 1)) (k : Ev l G mi fk (pc + 1) lv (vI (lg_cmp x y) :: st) h) : Ev l G mi fk pc lv (vL y :: vL x :: st) h := by
  intro p e s m args below meth c X H locs ls hP hS hl okl oks
  exact W.lcmp X.1 X.2.1 hd (k p e s m args below meth c X H locs ls hP hS hl okl oks.tl.tl.ci)
theorem E_iconst {l : Launch} {G : GE} {mi : MI} {fk : FK} {pc : Nat} {lv : List (Option AV)} {st : List AV} {h : Hp} {n : Int} (v : Int32) (hd : decode mi.2.1 pc = .ok (.iconst n, 1)) (hv : Int32.ofInt n = v) (k : Ev l G mi fk (pc + 1) lv (vI v :: st) h) : Ev l G mi fk pc lv st h := by
  intro p e s m args below meth c X H locs ls hP hS hl okl oks
  exact lv_iconst X.1 X.2.1 hd hv (k p e s m args below meth c X H locs ls hP hS hl okl oks.ci)
theorem E_bipush {l : Launch} {G : GE} {mi : MI} {fk : FK} {pc : Nat} {lv : List (Option AV)} {st : List AV} {h : Hp} {n : Int} (v : Int32) (hd : decode mi.2.1 pc = .ok (.bipush n, 2)) (hv : (Int8.ofInt n).toInt32 = v) (k : Ev l G mi fk (pc + 2) lv (vI v :: st) h) : Ev l G mi fk pc lv st h := by
  intro p e s m args below meth c X H locs ls hP hS hl okl oks
  exact lv_bipush X.1 X.2.1 hd hv (k p e s m args below meth c X H locs ls hP hS hl okl oks.ci)
theorem E_sipush {l : Launch} {G : GE} {mi : MI} {fk : FK} {pc : Nat} {lv : List (Option AV)} {st : List AV} {h : Hp} {n : Int} (v : Int32) (hd : decode mi.2.1 pc = .ok (.sipush n, 3)) (hv : (Int16.ofInt n).toInt32 = v) (k : Ev l G mi fk (pc + 3) lv (vI v :: st) h) : Ev l G mi fk pc lv st h := by
  intro p e s m args below meth c X H locs ls hP hS hl okl oks
  exact lv_sipush X.1 X.2.1 hd hv (k p e s m args below meth c X H locs ls hP hS hl okl oks.ci)
theorem E_lconst {l : Launch} {G : GE} {mi : MI} {fk : FK} {pc : Nat} {lv : List (Option AV)} {st : List AV} {h : Hp} {n : Fin 2} (v : Int64) (hd : decode mi.2.1 pc = .ok (.lconst n, 1)) (hv : Int64.ofNat (n : Nat) = v) (k : Ev l G mi fk (pc + 1) lv (vL v :: st) h) : Ev l G mi fk pc lv st h := by
  intro p e s m args below meth c X H locs ls hP hS hl okl oks
  exact lv_lconst X.1 X.2.1 hd hv (k p e s m args below meth c X H locs ls hP hS hl okl oks.cl)
theorem E_ldc {l : Launch} {G : GE} {mi : MI} {fk : FK} {pc : Nat} {lv : List (Option AV)} {st : List AV} {h : Hp} {n : Nat} (v : Int32) (hd : decode mi.2.1 pc = .ok (.ldc n, 2)) (hw : Cond.constant mi.1.cls n v ∈ TB) (k : Ev l G mi fk (pc + 2) lv (vI v :: st) h) : Ev l G mi fk pc lv st h := by
  intro p e s m args below meth c X H locs ls hP hS hl okl oks
  exact lv_ldc X.1 X.2.1 X.2.2.2.1 (X.2.2.2.2.1 _ hw) hd (k p e s m args below meth c X H locs ls hP hS hl okl oks.ci)
theorem E_ldcw {l : Launch} {G : GE} {mi : MI} {fk : FK} {pc : Nat} {lv : List (Option AV)} {st : List AV} {h : Hp} {n : Nat} (v : Int32) (hd : decode mi.2.1 pc = .ok (.ldc_w n, 3)) (hw : Cond.constant mi.1.cls n v ∈ TB) (k : Ev l G mi fk (pc + 3) lv (vI v :: st) h) : Ev l G mi fk pc lv st h := by
  intro p e s m args below meth c X H locs ls hP hS hl okl oks
  exact lv_ldcw X.1 X.2.1 X.2.2.2.1 (X.2.2.2.2.1 _ hw) hd (k p e s m args below meth c X H locs ls hP hS hl okl oks.ci)
theorem E_ldc2 {l : Launch} {G : GE} {mi : MI} {fk : FK} {pc : Nat} {lv : List (Option AV)} {st : List AV} {h : Hp} {n : Nat} (v : Int64) (hd : decode mi.2.1 pc = .ok (.ldc2_w n, 3)) (hw : Cond.constantLong mi.1.cls n v ∈ TB) (k : Ev l G mi fk (pc + 3) lv (vL v :: st) h) : Ev l G mi fk pc lv st h := by
  intro p e s m args below meth c X H locs ls hP hS hl okl oks
  exact lv_ldc2 X.1 X.2.1 X.2.2.2.1 (X.2.2.2.2.1 _ hw) hd (k p e s m args below meth c X H locs ls hP hS hl okl oks.cl)
theorem E_iload_n {l : Launch} {G : GE} {mi : MI} {fk : FK} {pc : Nat} {lv : List (Option AV)} {st : List AV} {h : Hp} {j : Fin 4} (i : Nat) {x : Int32} (hd : decode mi.2.1 pc = .ok (.iload_n j, 1)) (hi : (j : Nat) = i) (hv : nth lv i = some (some (vI x))) (k : Ev l G mi fk (pc + 1) lv (vI x :: st) h) : Ev l G mi fk pc lv st h := by
  intro p e s m args below meth c X H locs ls hP hS hl okl oks
  exact lv_iload_n X.1 X.2.1 hd hi (lk_get hl hv) (k p e s m args below meth c X H locs ls hP hS hl okl (okS.co (okL_get okl hv) oks))
theorem E_iload {l : Launch} {G : GE} {mi : MI} {fk : FK} {pc : Nat} {lv : List (Option AV)} {st : List AV} {h : Hp} (i : Nat) {x : Int32} (hd : decode mi.2.1 pc = .ok (.iload i, 2)) (hv : nth lv i = some (some (vI x))) (k : Ev l G mi fk (pc + 2) lv (vI x :: st) h) : Ev l G mi fk pc lv st h := by
  intro p e s m args below meth c X H locs ls hP hS hl okl oks
  exact lv_iload X.1 X.2.1 hd (lk_get hl hv) (k p e s m args below meth c X H locs ls hP hS hl okl (okS.co (okL_get okl hv) oks))
theorem E_lload_n {l : Launch} {G : GE} {mi : MI} {fk : FK} {pc : Nat} {lv : List (Option AV)} {st : List AV} {h : Hp} {j : Fin 4} (i : Nat) {x : Int64} (hd : decode mi.2.1 pc = .ok (.lload_n j, 1)) (hi : (j : Nat) = i) (hv : nth lv i = some (some (vL x))) (k : Ev l G mi fk (pc + 1) lv (vL x :: st) h) : Ev l G mi fk pc lv st h := by
  intro p e s m args below meth c X H locs ls hP hS hl okl oks
  exact lv_lload_n X.1 X.2.1 hd hi (lk_get hl hv) (k p e s m args below meth c X H locs ls hP hS hl okl (okS.co (okL_get okl hv) oks))
theorem E_lload {l : Launch} {G : GE} {mi : MI} {fk : FK} {pc : Nat} {lv : List (Option AV)} {st : List AV} {h : Hp} (i : Nat) {x : Int64} (hd : decode mi.2.1 pc = .ok (.lload i, 2)) (hv : nth lv i = some (some (vL x))) (k : Ev l G mi fk (pc + 2) lv (vL x :: st) h) : Ev l G mi fk pc lv st h := by
  intro p e s m args below meth c X H locs ls hP hS hl okl oks
  exact lv_lload X.1 X.2.1 hd (lk_get hl hv) (k p e s m args below meth c X H locs ls hP hS hl okl (okS.co (okL_get okl hv) oks))
theorem E_aload_n {l : Launch} {G : GE} {mi : MI} {fk : FK} {pc : Nat} {lv : List (Option AV)} {st : List AV} {h : Hp} {j : Fin 4} (i : Nat) {t y : Nat} (hd : decode mi.2.1 pc = .ok (.aload_n j, 1)) (hi : (j : Nat) = i) (hv : nth lv i = some (some (vR t y))) (k : Ev l G mi fk (pc + 1) lv (vR t y :: st) h) : Ev l G mi fk pc lv st h := by
  intro p e s m args below meth c X H locs ls hP hS hl okl oks
  exact lv_aload_n X.1 X.2.1 hd hi (lk_get hl hv) (k p e s m args below meth c X H locs ls hP hS hl okl (okS.co (okL_get okl hv) oks))
theorem E_aload {l : Launch} {G : GE} {mi : MI} {fk : FK} {pc : Nat} {lv : List (Option AV)} {st : List AV} {h : Hp} (i : Nat) {t y : Nat} (hd : decode mi.2.1 pc = .ok (.aload i, 2)) (hv : nth lv i = some (some (vR t y))) (k : Ev l G mi fk (pc + 2) lv (vR t y :: st) h) : Ev l G mi fk pc lv st h := by
  intro p e s m args below meth c X H locs ls hP hS hl okl oks
  exact lv_aload X.1 X.2.1 hd (lk_get hl hv) (k p e s m args below meth c X H locs ls hP hS hl okl (okS.co (okL_get okl hv) oks))
theorem E_istore_n {l : Launch} {G : GE} {mi : MI} {fk : FK} {pc : Nat} {lv : List (Option AV)} {st : List AV} {h : Hp} {j : Fin 4} (i : Nat) {x : Int32} (hd : decode mi.2.1 pc = .ok (.istore_n j, 1)) (hi : (j : Nat) = i) (hb : i < mi.2.2.1) (hn : noL lv i = true) (k : Ev l G mi fk (pc + 1) (lset lv i (some (vI x))) st h) : Ev l G mi fk pc lv (vI x :: st) h := by
  intro p e s m args below meth c X H locs ls hP hS hl okl oks
  exact lv_istore_n X.1 X.2.1 hd hi hl hb rfl (fun ls9 h9 => k p e s m args below meth c X H locs ls9 hP hS (lk_set hn h9) (okL_set okl trivial) oks.tl)
theorem E_istore {l : Launch} {G : GE} {mi : MI} {fk : FK} {pc : Nat} {lv : List (Option AV)} {st : List AV} {h : Hp} (i : Nat) {x : Int32} (hd : decode mi.2.1 pc = .ok (.istore i, 2)) (hb : i < mi.2.2.1) (hn : noL lv i = true) (k : Ev l G mi fk (pc + 2) (lset lv i (some (vI x))) st h) : Ev l G mi fk pc lv (vI x :: st) h := by
  intro p e s m args below meth c X H locs ls hP hS hl okl oks
  exact lv_istore X.1 X.2.1 hd hl hb rfl (fun ls9 h9 => k p e s m args below meth c X H locs ls9 hP hS (lk_set hn h9) (okL_set okl trivial) oks.tl)
theorem E_astore_n {l : Launch} {G : GE} {mi : MI} {fk : FK} {pc : Nat} {lv : List (Option AV)} {st : List AV} {h : Hp} {j : Fin 4} (i : Nat) {t y : Nat} (hd : decode mi.2.1 pc = .ok (.astore_n j, 1)) (hi : (j : Nat) = i) (hb : i < mi.2.2.1) (hn : noL lv i = true) (k : Ev l G mi fk (pc + 1) (lset lv i (some (vR t y))) st h) : Ev l G mi fk pc lv (vR t y :: st) h := by
  intro p e s m args below meth c X H locs ls hP hS hl okl oks
  exact lv_astore_n X.1 X.2.1 hd hi hl hb rfl (fun ls9 h9 => k p e s m args below meth c X H locs ls9 hP hS (lk_set hn h9) (okL_set okl oks.hd) oks.tl)
theorem E_astore {l : Launch} {G : GE} {mi : MI} {fk : FK} {pc : Nat} {lv : List (Option AV)} {st : List AV} {h : Hp} (i : Nat) {t y : Nat} (hd : decode mi.2.1 pc = .ok (.astore i, 2)) (hb : i < mi.2.2.1) (hn : noL lv i = true) (k : Ev l G mi fk (pc + 2) (lset lv i (some (vR t y))) st h) : Ev l G mi fk pc lv (vR t y :: st) h := by
  intro p e s m args below meth c X H locs ls hP hS hl okl oks
  exact lv_astore X.1 X.2.1 hd hl hb rfl (fun ls9 h9 => k p e s m args below meth c X H locs ls9 hP hS (lk_set hn h9) (okL_set okl oks.hd) oks.tl)
theorem E_iinc {l : Launch} {G : GE} {mi : MI} {fk : FK} {pc : Nat} {lv : List (Option AV)} {st : List AV} {h : Hp} (i : Nat) {n : Int} {x : Int32} (d : Int32) (hd : decode mi.2.1 pc = .ok (.iinc i n, 3)) (hb : i < mi.2.2.1) (hn : noL lv i = true) (hv : nth lv i = some (some (vI x))) (hc : Int32.ofInt n = d) (k : Ev l G mi fk (pc + 3) (lset lv i (some (vI (x + d)))) st h) : Ev l G mi fk pc lv st h := by
  intro p e s m args below meth c X H locs ls hP hS hl okl oks
  obtain ⟨q, hq⟩ := List.getElem?_of_mem (asc_mem (G := G) lv 0 i _ hv)
  rw [Nat.zero_add] at hq
  exact lv_iinc X.1 X.2.1 hd hl hq (by rw [hc]) hb rfl (fun ls9 h9 => k p e s m args below meth c X H locs ls9 hP hS (lk_set hn h9) (okL_set okl trivial) oks)
theorem E_dup {l : Launch} {G : GE} {mi : MI} {fk : FK} {pc : Nat} {lv : List (Option AV)} {st : List AV} {h : Hp} {v : AV} (hd : decode mi.2.1 pc = .ok (.dup, 1)) (hc : ∀ x, v ≠ vL x) (k : Ev l G mi fk (pc + 1) lv (v :: v :: st) h) : Ev l G mi fk pc lv (v :: st) h := by
  intro p e s m args below meth c X H locs ls hP hS hl okl oks
  exact lv_dup X.1 X.2.1 hd (cv_cat hc) (k p e s m args below meth c X H locs ls hP hS hl okl (okS.co oks.hd oks))
theorem E_dup2 {l : Launch} {G : GE} {mi : MI} {fk : FK} {pc : Nat} {lv : List (Option AV)} {st : List AV} {h : Hp} {v w : AV} (hd : decode mi.2.1 pc = .ok (.dup2, 1)) (hc : ∀ x, v ≠ vL x) (hc2 : ∀ x, w ≠ vL x) (k : Ev l G mi fk (pc + 1) lv (v :: w :: v :: w :: st) h) : Ev l G mi fk pc lv (v :: w :: st) h := by
  intro p e s m args below meth c X H locs ls hP hS hl okl oks
  exact lv_dup2_11 X.1 X.2.1 hd (cv_cat hc) (cv_cat hc2) (k p e s m args below meth c X H locs ls hP hS hl okl (okS.co oks.hd (okS.co oks.tl.hd oks)))
theorem E_pop {l : Launch} {G : GE} {mi : MI} {fk : FK} {pc : Nat} {lv : List (Option AV)} {st : List AV} {h : Hp} {v : AV} (hd : decode mi.2.1 pc = .ok (.pop, 1)) (hc : ∀ x, v ≠ vL x) (k : Ev l G mi fk (pc + 1) lv st h) : Ev l G mi fk pc lv (v :: st) h := by
  intro p e s m args below meth c X H locs ls hP hS hl okl oks
  exact lv_pop X.1 X.2.1 hd (cv_cat hc) (k p e s m args below meth c X H locs ls hP hS hl okl oks.tl)
theorem E_if_eq {l : Launch} {G : GE} {mi : MI} {fk : FK} {pc : Nat} {lv : List (Option AV)} {st : List AV} {h : Hp} {x : Int32} {off : Int} (tgt : Nat) (hd : decode mi.2.1 pc = .ok (.ifCond .eq off, 3)) (ht : (pc : Int) + off = (tgt : Int)) (kt : x = 0 → Ev l G mi fk tgt lv st h) (kf : ¬ x = 0 → Ev l G mi fk (pc + 3) lv st h) : Ev l G mi fk pc lv (vI x :: st) h := by
  intro p e s m args below meth c X H locs ls hP hS hl okl oks
  exact lv_if_eq X.1 X.2.1 hd ht (fun q => kt q p e s m args below meth c X H locs ls hP hS hl okl oks.tl) (fun q => kf q p e s m args below meth c X H locs ls hP hS hl okl oks.tl)
theorem E_if_ne {l : Launch} {G : GE} {mi : MI} {fk : FK} {pc : Nat} {lv : List (Option AV)} {st : List AV} {h : Hp} {x : Int32} {off : Int} (tgt : Nat) (hd : decode mi.2.1 pc = .ok (.ifCond .ne off, 3)) (ht : (pc : Int) + off = (tgt : Int)) (kt : ¬ x = 0 → Ev l G mi fk tgt lv st h) (kf : x = 0 → Ev l G mi fk (pc + 3) lv st h) : Ev l G mi fk pc lv (vI x :: st) h := by
  intro p e s m args below meth c X H locs ls hP hS hl okl oks
  exact lv_if_ne X.1 X.2.1 hd ht (fun q => kt q p e s m args below meth c X H locs ls hP hS hl okl oks.tl) (fun q => kf q p e s m args below meth c X H locs ls hP hS hl okl oks.tl)
theorem E_if_lt {l : Launch} {G : GE} {mi : MI} {fk : FK} {pc : Nat} {lv : List (Option AV)} {st : List AV} {h : Hp} {x : Int32} {off : Int} (tgt : Nat) (hd : decode mi.2.1 pc = .ok (.ifCond .lt off, 3)) (ht : (pc : Int) + off = (tgt : Int)) (kt : x < 0 → Ev l G mi fk tgt lv st h) (kf : ¬ x < 0 → Ev l G mi fk (pc + 3) lv st h) : Ev l G mi fk pc lv (vI x :: st) h := by
  intro p e s m args below meth c X H locs ls hP hS hl okl oks
  exact lv_if_lt X.1 X.2.1 hd ht (fun q => kt q p e s m args below meth c X H locs ls hP hS hl okl oks.tl) (fun q => kf q p e s m args below meth c X H locs ls hP hS hl okl oks.tl)
theorem E_if_ge {l : Launch} {G : GE} {mi : MI} {fk : FK} {pc : Nat} {lv : List (Option AV)} {st : List AV} {h : Hp} {x : Int32} {off : Int} (tgt : Nat) (hd : decode mi.2.1 pc = .ok (.ifCond .ge off, 3)) (ht : (pc : Int) + off = (tgt : Int)) (kt : 0 ≤ x → Ev l G mi fk tgt lv st h) (kf : ¬ 0 ≤ x → Ev l G mi fk (pc + 3) lv st h) : Ev l G mi fk pc lv (vI x :: st) h := by
  intro p e s m args below meth c X H locs ls hP hS hl okl oks
  exact lv_if_ge X.1 X.2.1 hd ht (fun q => kt q p e s m args below meth c X H locs ls hP hS hl okl oks.tl) (fun q => kf q p e s m args below meth c X H locs ls hP hS hl okl oks.tl)
theorem E_if_gt {l : Launch} {G : GE} {mi : MI} {fk : FK} {pc : Nat} {lv : List (Option AV)} {st : List AV} {h : Hp} {x : Int32} {off : Int} (tgt : Nat) (hd : decode mi.2.1 pc = .ok (.ifCond .gt off, 3)) (ht : (pc : Int) + off = (tgt : Int)) (kt : 0 < x → Ev l G mi fk tgt lv st h) (kf : ¬ 0 < x → Ev l G mi fk (pc + 3) lv st h) : Ev l G mi fk pc lv (vI x :: st) h := by
  intro p e s m args below meth c X H locs ls hP hS hl okl oks
  exact lv_if_gt X.1 X.2.1 hd ht (fun q => kt q p e s m args below meth c X H locs ls hP hS hl okl oks.tl) (fun q => kf q p e s m args below meth c X H locs ls hP hS hl okl oks.tl)
theorem E_if_le {l : Launch} {G : GE} {mi : MI} {fk : FK} {pc : Nat} {lv : List (Option AV)} {st : List AV} {h : Hp} {x : Int32} {off : Int} (tgt : Nat) (hd : decode mi.2.1 pc = .ok (.ifCond .le off, 3)) (ht : (pc : Int) + off = (tgt : Int)) (kt : x ≤ 0 → Ev l G mi fk tgt lv st h) (kf : ¬ x ≤ 0 → Ev l G mi fk (pc + 3) lv st h) : Ev l G mi fk pc lv (vI x :: st) h := by
  intro p e s m args below meth c X H locs ls hP hS hl okl oks
  exact lv_if_le X.1 X.2.1 hd ht (fun q => kt q p e s m args below meth c X H locs ls hP hS hl okl oks.tl) (fun q => kf q p e s m args below meth c X H locs ls hP hS hl okl oks.tl)
theorem E_icmp_eq {l : Launch} {G : GE} {mi : MI} {fk : FK} {pc : Nat} {lv : List (Option AV)} {st : List AV} {h : Hp} {x y : Int32} {off : Int} (tgt : Nat) (hd : decode mi.2.1 pc = .ok (.if_icmp .eq off, 3)) (ht : (pc : Int) + off = (tgt : Int)) (kt : x = y → Ev l G mi fk tgt lv st h) (kf : ¬ x = y → Ev l G mi fk (pc + 3) lv st h) : Ev l G mi fk pc lv (vI y :: vI x :: st) h := by
  intro p e s m args below meth c X H locs ls hP hS hl okl oks
  exact lv_icmp_eq X.1 X.2.1 hd ht (fun q => kt q p e s m args below meth c X H locs ls hP hS hl okl oks.tl.tl) (fun q => kf q p e s m args below meth c X H locs ls hP hS hl okl oks.tl.tl)
theorem E_icmp_ne {l : Launch} {G : GE} {mi : MI} {fk : FK} {pc : Nat} {lv : List (Option AV)} {st : List AV} {h : Hp} {x y : Int32} {off : Int} (tgt : Nat) (hd : decode mi.2.1 pc = .ok (.if_icmp .ne off, 3)) (ht : (pc : Int) + off = (tgt : Int)) (kt : ¬ x = y → Ev l G mi fk tgt lv st h) (kf : x = y → Ev l G mi fk (pc + 3) lv st h) : Ev l G mi fk pc lv (vI y :: vI x :: st) h := by
  intro p e s m args below meth c X H locs ls hP hS hl okl oks
  exact lv_icmp_ne X.1 X.2.1 hd ht (fun q => kt q p e s m args below meth c X H locs ls hP hS hl okl oks.tl.tl) (fun q => kf q p e s m args below meth c X H locs ls hP hS hl okl oks.tl.tl)
theorem E_icmp_lt {l : Launch} {G : GE} {mi : MI} {fk : FK} {pc : Nat} {lv : List (Option AV)} {st : List AV} {h : Hp} {x y : Int32} {off : Int} (tgt : Nat) (hd : decode mi.2.1 pc = .ok (.if_icmp .lt off, 3)) (ht : (pc : Int) + off = (tgt : Int)) (kt : x < y → Ev l G mi fk tgt lv st h) (kf : ¬ x < y → Ev l G mi fk (pc + 3) lv st h) : Ev l G mi fk pc lv (vI y :: vI x :: st) h := by
  intro p e s m args below meth c X H locs ls hP hS hl okl oks
  exact lv_icmp_lt X.1 X.2.1 hd ht (fun q => kt q p e s m args below meth c X H locs ls hP hS hl okl oks.tl.tl) (fun q => kf q p e s m args below meth c X H locs ls hP hS hl okl oks.tl.tl)
theorem E_icmp_ge {l : Launch} {G : GE} {mi : MI} {fk : FK} {pc : Nat} {lv : List (Option AV)} {st : List AV} {h : Hp} {x y : Int32} {off : Int} (tgt : Nat) (hd : decode mi.2.1 pc = .ok (.if_icmp .ge off, 3)) (ht : (pc : Int) + off = (tgt : Int)) (kt : y ≤ x → Ev l G mi fk tgt lv st h) (kf : ¬ y ≤ x → Ev l G mi fk (pc + 3) lv st h) : Ev l G mi fk pc lv (vI y :: vI x :: st) h := by
  intro p e s m args below meth c X H locs ls hP hS hl okl oks
  exact lv_icmp_ge X.1 X.2.1 hd ht (fun q => kt q p e s m args below meth c X H locs ls hP hS hl okl oks.tl.tl) (fun q => kf q p e s m args below meth c X H locs ls hP hS hl okl oks.tl.tl)
theorem E_icmp_gt {l : Launch} {G : GE} {mi : MI} {fk : FK} {pc : Nat} {lv : List (Option AV)} {st : List AV} {h : Hp} {x y : Int32} {off : Int} (tgt : Nat) (hd : decode mi.2.1 pc = .ok (.if_icmp .gt off, 3)) (ht : (pc : Int) + off = (tgt : Int)) (kt : y < x → Ev l G mi fk tgt lv st h) (kf : ¬ y < x → Ev l G mi fk (pc + 3) lv st h) : Ev l G mi fk pc lv (vI y :: vI x :: st) h := by
  intro p e s m args below meth c X H locs ls hP hS hl okl oks
  exact lv_icmp_gt X.1 X.2.1 hd ht (fun q => kt q p e s m args below meth c X H locs ls hP hS hl okl oks.tl.tl) (fun q => kf q p e s m args below meth c X H locs ls hP hS hl okl oks.tl.tl)
theorem E_icmp_le {l : Launch} {G : GE} {mi : MI} {fk : FK} {pc : Nat} {lv : List (Option AV)} {st : List AV} {h : Hp} {x y : Int32} {off : Int} (tgt : Nat) (hd : decode mi.2.1 pc = .ok (.if_icmp .le off, 3)) (ht : (pc : Int) + off = (tgt : Int)) (kt : x ≤ y → Ev l G mi fk tgt lv st h) (kf : ¬ x ≤ y → Ev l G mi fk (pc + 3) lv st h) : Ev l G mi fk pc lv (vI y :: vI x :: st) h := by
  intro p e s m args below meth c X H locs ls hP hS hl okl oks
  exact lv_icmp_le X.1 X.2.1 hd ht (fun q => kt q p e s m args below meth c X H locs ls hP hS hl okl oks.tl.tl) (fun q => kf q p e s m args below meth c X H locs ls hP hS hl okl oks.tl.tl)
theorem E_goto {l : Launch} {G : GE} {mi : MI} {fk : FK} {pc : Nat} {lv : List (Option AV)} {st : List AV} {h : Hp} {off : Int} (tgt : Nat) (hd : decode mi.2.1 pc = .ok (.goto off, 3)) (ht : (pc : Int) + off = (tgt : Int)) (k : Ev l G mi fk tgt lv st h) : Ev l G mi fk pc lv st h := by
  intro p e s m args below meth c X H locs ls hP hS hl okl oks
  exact lv_goto X.1 X.2.1 hd ht (k p e s m args below meth c X H locs ls hP hS hl okl oks)
theorem E_tabIn {l : Launch} {G : GE} {mi : MI} {fk : FK} {pc : Nat} {lv : List (Option AV)} {st : List AV} {h : Hp} {dflt lo hi : Int} {offs : Array Int} {len : Nat} {x : Int32} {off : Int} (tgt : Nat) (hd : decode mi.2.1 pc = .ok (.tableswitch dflt lo hi offs, len)) (h1 : ¬ x.toInt < lo) (h2 : ¬ hi < x.toInt) (ho : offs[(x.toInt - lo).toNat]? = some off) (ht : (pc : Int) + off = (tgt : Int)) (k : Ev l G mi fk tgt lv st h) : Ev l G mi fk pc lv (vI x :: st) h := by
  intro p e s m args below meth c X H locs ls hP hS hl okl oks
  exact lv_tableIn X.1 X.2.1 hd h1 h2 ho ht (k p e s m args below meth c X H locs ls hP hS hl okl oks.tl)
theorem E_tabOut {l : Launch} {G : GE} {mi : MI} {fk : FK} {pc : Nat} {lv : List (Option AV)} {st : List AV} {h : Hp} {dflt lo hi : Int} {offs : Array Int} {len : Nat} {x : Int32} (tgt : Nat) (hd : decode mi.2.1 pc = .ok (.tableswitch dflt lo hi offs, len)) (h1 : x.toInt < lo ∨ hi < x.toInt) (ht : (pc : Int) + dflt = (tgt : Int)) (k : Ev l G mi fk tgt lv st h) : Ev l G mi fk pc lv (vI x :: st) h := by
  intro p e s m args below meth c X H locs ls hP hS hl okl oks
  exact lv_tableOut X.1 X.2.1 hd h1 ht (k p e s m args below meth c X H locs ls hP hS hl okl oks.tl)
end
section
/-! FIELDS -/
/-- field k of class ci may be read through place idx of own's pool -/
def FL (own : String) (idx ci k : Nat) : Prop := ∃ (C : String) (T : u_T) (N : Nat), vwCl[ci]? = some (C, T, N) ∧ k < N ∧ Cond.fieldLink own idx (T k).1 (T k).2.1 (T k).2.2.1 ∈ TB ∧ (∀ w ∈ u_ws C T N, w ∈ TB)
def FP (own : String) (idx ci k : Nat) : Prop := ∃ (C : String) (T : u_T) (N : Nat) (ty0 : Nat → FieldType), vwCl[ci]? = some (C, T, N) ∧ k < N ∧ Cond.fieldLink own idx (T k).1 (T k).2.1 (T k).2.2.1 ∈ TB ∧ (∀ w ∈ u_ws C T N, w ∈ TB) ∧ (∀ k, k < N → parseFieldDescriptor (T k).2.2.1 = some (ty0 k)) ∧ (∀ a, a < N → ∀ b, b < N → a ≠ b → (T a).2.1 ≠ (T b).2.1) ∧ (T k).2.2.2 = false ∧ ty0 k = .int
theorem E_getI {l : Launch} {G : GE} {mi : MI} {fk : FK} {pc : Nat} {lv : List (Option AV)} {st : List AV} {h : Hp} {idx ci k t i : Nat} {fs : List (Option (Nat × Nat))} (hd : decode mi.2.1 pc = .ok (.getfield idx, 3)) (hf : FL mi.1.cls idx ci k) (hs : sh t = some (.inl (ci, fs))) (hk : nth fs k = some none) (kk : Ev l G mi fk (pc + 3) lv (vI (h t i k) :: st) h) : Ev l G mi fk pc lv (vR t i :: st) h := by
  intro p e s m args below meth c X H locs ls hP hS hl okl oks
  obtain ⟨C, T, N, hc, hkN, hw, hu⟩ := hf
  obtain ⟨q, hq⟩ := okV.key oks.hd hs
  have he : (wsG G h)[q]? = some (G.2.2 t i, .inr (ci, fvs G h t i 0 fs)) := by rw [wsG_at hq]; unfold ent; rw [hs]; rfl
  have hv := fvs_get (G := G) (h := h) (t := t) (i := i) fs 0 k none hk
  rw [Nat.zero_add] at hv
  exact va_get X.1 X.2.1 X.2.2.2.2.1 hu X.2.2.2.1 X.2.2.2.2.2.1 hP q he hc k hkN (X.2.2.2.2.1 _ hw) (fun _ z => z) hv hd (kk p e s m args below meth c X H locs ls hP hS hl okl oks.tl.ci)
theorem E_getR {l : Launch} {G : GE} {mi : MI} {fk : FK} {pc : Nat} {lv : List (Option AV)} {st : List AV} {h : Hp} {idx ci k t i t' j : Nat} {fs : List (Option (Nat × Nat))} (hd : decode mi.2.1 pc = .ok (.getfield idx, 3)) (hf : FL mi.1.cls idx ci k) (hs : sh t = some (.inl (ci, fs))) (hk : nth fs k = some (some (t', j))) (kk : Ev l G mi fk (pc + 3) lv (vR t' (i + j) :: st) h) : Ev l G mi fk pc lv (vR t i :: st) h := by
  intro p e s m args below meth c X H locs ls hP hS hl okl oks
  obtain ⟨C, T, N, hc, hkN, hw, hu⟩ := hf
  obtain ⟨q, hq⟩ := okV.key oks.hd hs
  have he : (wsG G h)[q]? = some (G.2.2 t i, .inr (ci, fvs G h t i 0 fs)) := by rw [wsG_at hq]; unfold ent; rw [hs]; rfl
  have hv := fvs_get (G := G) (h := h) (t := t) (i := i) fs 0 k _ hk
  rw [Nat.zero_add] at hv
  exact va_get X.1 X.2.1 X.2.2.2.2.1 hu X.2.2.2.1 X.2.2.2.2.2.1 hP q he hc k hkN (X.2.2.2.2.1 _ hw) (fun _ z => z) hv hd (kk p e s m args below meth c X H locs ls hP hS hl okl (okS.co (Or.inl (fld_ok (List.mem_of_getElem? hq) hs hk)) oks.tl))
theorem E_put {l : Launch} {G : GE} {mi : MI} {fk : FK} {pc : Nat} {lv : List (Option AV)} {st : List AV} {h : Hp} {idx ci k t i : Nat} {x : Int32} {fs : List (Option (Nat × Nat))} (hd : decode mi.2.1 pc = .ok (.putfield idx, 3)) (hf : FP mi.1.cls idx ci k) (hs : sh t = some (.inl (ci, fs))) (hk : nth fs k = some none) (kk : Ev l G mi fk (pc + 3) lv st (hset h t i k x)) : Ev l G mi fk pc lv (vI x :: vR t i :: st) h := by
  intro p e s m args below meth c X H locs ls hP hS hl okl oks
  obtain ⟨C, T, N, ty0, hc, hkN, hw, hu, hty, hnm, hfin, hint⟩ := hf
  obtain ⟨q, hq⟩ := okV.key oks.tl.hd hs
  have he : (wsG G h)[q]? = some (G.2.2 t i, .inr (ci, fvs G h t i 0 fs)) := by rw [wsG_at hq]; unfold ent; rw [hs]; rfl
  refine va_put (v := .int x) (ty := .int) X.1 X.2.1 X.2.2.2.2.1 hu ty0 hty hnm X.2.2.2.1 X.2.2.2.2.2.1 hP (wsG_D X.2.2.2.2.2.2.1 h) hS q he hc k hkN (X.2.2.2.2.1 _ hw) (fun _ z => z) hfin ((hty k hkN).trans (congrArg some hint)) rfl rfl (by rw [fvs_length]; exact nth_lt _ _ _ hk) hd (fun H1 locs1 hP1 hD1 hS1 => ?_)
  have e1 := wsG_set (G := G) (h := h) (h' := hset h t i k x) (e := .inr (ci, (fvs G h t i 0 fs).set k (.int x))) hq (fun t' i' hne => entS_congr (hset_other hne) _) (by unfold ent; rw [hs]; show Sum.inr (ci, fvs G (hset h t i k x) t i 0 fs) = _; have := fvs_set (G := G) (h := h) (t := t) (i := i) (v := x) fs 0 k hk; rw [Nat.zero_add] at this; rw [this])
  rw [e1] at hP1
  exact kk p e s m args below meth c X H1 locs1 ls hP1 hS1 hl okl oks.tl.tl
/-! ARRAYS -/
abbrev ixN (i : Int32) : Nat := i.toNatClampNeg
theorem tys0 {G : GE} : (tysG G)[0]? = some (G.2.1 0, .int) := rfl
theorem tys1 {G : GE} : (tysG G)[1]? = some (G.2.1 1, .boolean) := rfl
theorem ent_arr {G : GE} {h : Hp} {t i q kd n : Nat} (hq : keys[q]? = some (t, i)) (hs : sh t = some (.inr (.inl (kd, n)))) : (wsG G h)[q]? = some (G.2.2 t i, .inl (G.2.1 kd, n, .inl (h t i))) := by rw [wsG_at hq]; unfold ent; rw [hs]; rfl
theorem E_iald {l : Launch} {G : GE} {mi : MI} {fk : FK} {pc : Nat} {lv : List (Option AV)} {st : List AV} {h : Hp} {t i n : Nat} {x : Int32} (hd : decode mi.2.1 pc = .ok (.iaload, 1)) (hs : sh t = some (.inr (.inl (0, n)))) (hx : vp_in x n) (kk : Ev l G mi fk (pc + 1) lv (vI (h t i (ixN x)) :: st) h) : Ev l G mi fk pc lv (vI x :: vR t i :: st) h := by
  intro p e s m args below meth c X H locs ls hP hS hl okl oks
  obtain ⟨q, hq⟩ := okV.key oks.tl.hd hs
  exact va_iald X.1 X.2.1 X.2.2.2.2.2.1 hP q 0 (ent_arr hq hs) tys0 hx hd (kk p e s m args below meth c X H locs ls hP hS hl okl oks.tl.tl.ci)
theorem E_zald {l : Launch} {G : GE} {mi : MI} {fk : FK} {pc : Nat} {lv : List (Option AV)} {st : List AV} {h : Hp} {t i n : Nat} {x : Int32} (hd : decode mi.2.1 pc = .ok (.baload, 1)) (hs : sh t = some (.inr (.inl (1, n)))) (hx : vp_in x n) (kk : Ev l G mi fk (pc + 1) lv (vI (h t i (ixN x)) :: st) h) : Ev l G mi fk pc lv (vI x :: vR t i :: st) h := by
  intro p e s m args below meth c X H locs ls hP hS hl okl oks
  obtain ⟨q, hq⟩ := okV.key oks.tl.hd hs
  exact va_zald X.1 X.2.1 X.2.2.2.2.2.1 hP q 1 (ent_arr hq hs) tys1 hx hd (kk p e s m args below meth c X H locs ls hP hS hl okl oks.tl.tl.ci)
theorem E_ald_ro {l : Launch} {G : GE} {mi : MI} {fk : FK} {pc : Nat} {lv : List (Option AV)} {st : List AV} {h : Hp} {t n : Nat} {f : Nat → Int32} {x : Int32} (hd : decode mi.2.1 pc = .ok (.iaload, 1)) (hs : fk.1 t = some (n, f)) (hx : vp_in x n) (kk : Ev l G mi fk (pc + 1) lv (vI (f (ixN x)) :: st) h) : Ev l G mi fk pc lv (vI x :: vR t 0 :: st) h := by
  intro p e s m args below meth c X H locs ls hP hS hl okl oks
  exact va_ti X.1 X.2.1 (X.2.2.2.2.2.2.2.2.1 t n f hs) hS hx rfl hd (kk p e s m args below meth c X H locs ls hP hS hl okl oks.tl.tl.ci)
theorem E_len_ro {l : Launch} {G : GE} {mi : MI} {fk : FK} {pc : Nat} {lv : List (Option AV)} {st : List AV} {h : Hp} {t n : Nat} {f : Nat → Int32} (hd : decode mi.2.1 pc = .ok (.arraylength, 1)) (hs : fk.1 t = some (n, f)) (kk : Ev l G mi fk (pc + 1) lv (vI (Int32.ofNat n) :: st) h) : Ev l G mi fk pc lv (vR t 0 :: st) h := by
  intro p e s m args below meth c X H locs ls hP hS hl okl oks
  exact va_tlen X.1 X.2.1 (X.2.2.2.2.2.2.2.2.1 t n f hs) hS rfl hd (kk p e s m args below meth c X H locs ls hP hS hl okl oks.tl.ci)
theorem E_len {l : Launch} {G : GE} {mi : MI} {fk : FK} {pc : Nat} {lv : List (Option AV)} {st : List AV} {h : Hp} {t i n : Nat} (hd : decode mi.2.1 pc = .ok (.arraylength, 1)) (hs : sh t = some (.inr (.inl (0, n)))) (kk : Ev l G mi fk (pc + 1) lv (vI (Int32.ofNat n) :: st) h) : Ev l G mi fk pc lv (vR t i :: st) h := by
  intro p e s m args below meth c X H locs ls hP hS hl okl oks
  obtain ⟨q, hq⟩ := okV.key oks.hd hs
  exact va_alen X.1 X.2.1 X.2.2.2.2.2.1 hP q 0 (ent_arr hq hs) tys0 rfl hd (kk p e s m args below meth c X H locs ls hP hS hl okl oks.tl.ci)
theorem wsG_arr {G : GE} {h h' : Hp} {t i q kd n : Nat} {f : Nat → Int32} (hq : keys[q]? = some (t, i)) (hs : sh t = some (.inr (.inl (kd, n)))) (ho : ∀ t' i', (t', i') ≠ (t, i) → h' t' i' = h t' i') (he : h' t i = f) : (wsG G h).set q (G.2.2 t i, .inl (G.2.1 kd, n, .inl f)) = wsG G h' :=
  wsG_set hq (fun t' i' hne => entS_congr (ho t' i' hne) _) (by unfold ent; rw [hs]; show Sum.inl (G.2.1 kd, n, Sum.inl (h' t i)) = _; rw [he])
theorem E_iast {l : Launch} {G : GE} {mi : MI} {fk : FK} {pc : Nat} {lv : List (Option AV)} {st : List AV} {h : Hp} {t i n : Nat} {x v : Int32} (hd : decode mi.2.1 pc = .ok (.iastore, 1)) (hs : sh t = some (.inr (.inl (0, n)))) (hx : vp_in x n) (kk : Ev l G mi fk (pc + 1) lv st (hset h t i (ixN x) v)) : Ev l G mi fk pc lv (vI v :: vI x :: vR t i :: st) h := by
  intro p e s m args below meth c X H locs ls hP hS hl okl oks
  obtain ⟨q, hq⟩ := okV.key oks.tl.tl.hd hs
  refine va_iast X.1 X.2.1 X.2.2.2.2.2.1 hP (wsG_D X.2.2.2.2.2.2.1 h) hS q 0 (ent_arr hq hs) tys0 hx hd (fun H1 locs1 hP1 hD1 hS1 => ?_)
  rw [wsG_arr (G := G) (h' := hset h t i (ixN x) v) hq hs (fun _ _ hne => hset_other hne) (hset_arr h t i (ixN x) v)] at hP1
  exact kk p e s m args below meth c X H1 locs1 ls hP1 hS1 hl okl oks.tl.tl.tl
theorem E_zast {l : Launch} {G : GE} {mi : MI} {fk : FK} {pc : Nat} {lv : List (Option AV)} {st : List AV} {h : Hp} {t i n : Nat} {x v : Int32} (hd : decode mi.2.1 pc = .ok (.bastore, 1)) (hs : sh t = some (.inr (.inl (1, n)))) (hx : vp_in x n) (kk : Ev l G mi fk (pc + 1) lv st (hset h t i (ixN x) (vp_nar .boolean v))) : Ev l G mi fk pc lv (vI v :: vI x :: vR t i :: st) h := by
  intro p e s m args below meth c X H locs ls hP hS hl okl oks
  obtain ⟨q, hq⟩ := okV.key oks.tl.tl.hd hs
  refine va_zast X.1 X.2.1 X.2.2.2.2.2.1 hP (wsG_D X.2.2.2.2.2.2.1 h) hS q 1 (ent_arr hq hs) tys1 hx hd (fun H1 locs1 hP1 hD1 hS1 => ?_)
  rw [wsG_arr (G := G) (h' := hset h t i (ixN x) (vp_nar .boolean v)) hq hs (fun _ _ hne => hset_other hne) (hset_arr h t i (ixN x) _)] at hP1
  exact kk p e s m args below meth c X H1 locs1 ls hP1 hS1 hl okl oks.tl.tl.tl
theorem E_aald {l : Launch} {G : GE} {mi : MI} {fk : FK} {pc : Nat} {lv : List (Option AV)} {st : List AV} {h : Hp} {t i kd n et : Nat} {x : Int32} (hd : decode mi.2.1 pc = .ok (.aaload, 1)) (hs : sh t = some (.inr (.inr (kd, n, et)))) (hc : ∃ C : String, ∀ G : GE, (tysG G)[kd]? = some (G.2.1 kd, .object C)) (hx : vp_in x n) (kk : Ev l G mi fk (pc + 1) lv (vR et (ixN x) :: st) h) : Ev l G mi fk pc lv (vI x :: vR t i :: st) h := by
  intro p e s m args below meth c X H locs ls hP hS hl okl oks
  obtain ⟨C, hC⟩ := hc
  obtain ⟨q, hq⟩ := okV.key oks.tl.hd hs
  have he : (wsG G h)[q]? = some (G.2.2 t i, .inl (G.2.1 kd, n, .inr (.inr (.inr (.inr (fun j => some (G.2.2 et j))))))) := by rw [wsG_at hq]; unfold ent; rw [hs]; rfl
  exact va_aldq X.1 X.2.1 X.2.2.2.2.2.1 hP q kd he (hC G) hx hd (kk p e s m args below meth c X H locs ls hP hS hl okl (okS.co (Or.inl (arr_ok (List.mem_of_getElem? hq) hs (Nat.not_le.mp fun z => hx (Or.inr z)))) oks.tl.tl))
theorem E_gets {l : Launch} {G : GE} {mi : MI} {fk : FK} {pc : Nat} {lv : List (Option AV)} {st : List AV} {h : Hp} {idx t : Nat} {n : String} (hd : decode mi.2.1 pc = .ok (.getstatic idx, 3)) (hm : (n, t) ∈ statL) (hw : Cond.fieldLink mi.1.cls idx RX3 n "[I" ∈ TB) (kk : Ev l G mi fk (pc + 3) lv (vR t 0 :: st) h) : Ev l G mi fk pc lv st h := by
  intro p e s m args below meth c X H locs ls hP hS hl okl oks
  exact va_gets X.1 X.2.1 (X.2.2.2.2.2.2.2.1.1 _ hm) hS X.2.2.2.1 (X.2.2.2.2.1 _ hw) (fun _ z => z) hd (kk p e s m args below meth c X H locs ls hP hS hl okl (okS.co (Or.inr (by
    simp [statL] at hm
    rcases hm with ⟨-, rfl⟩ | ⟨-, rfl⟩ | ⟨-, rfl⟩ <;> decide)) oks))
/-! RETURNS -/
theorem E_iret {l : Launch} {G : GE} {mi : MI} {Q : QT} {pc : Nat} {lv : List (Option AV)} {h : Hp} {x : Int32} (hd : decode mi.2.1 pc = .ok (.ireturn, 1)) (hr : mi.2.2.2.1 = some .int) (hq : Q (some x) h) : Ev l G mi (fkM G mi Q) pc lv [vI x] h := by
  intro p e s m args below meth c X H locs ls hP hS hl okl oks
  have hlk : meth.locks = false := X.2.2.2.2.2.2.2.2.2.1
  exact W.iret (v := x) (Qc := Qc G Q) (free := Ac G) X.1 X.2.1 (X.2.2.2.2.2.2.2.2.2.2.trans hr) (fun t ht hW => ⟨⟨some x, h, rfl, hq, by rw [ht]; exact hP⟩, hS.F ht⟩) hS.2.2 hd hlk
theorem E_zret {l : Launch} {G : GE} {mi : MI} {Q : QT} {pc : Nat} {lv : List (Option AV)} {h : Hp} {x : Int32} {ty : FieldType} (hd : decode mi.2.1 pc = .ok (.ireturn, 1)) (hr : mi.2.2.2.1 = some ty) (hn : narrow ty (.int x) = .int x) (hq : Q (some x) h) : Ev l G mi (fkM G mi Q) pc lv [vI x] h := by
  intro p e s m args below meth c X H locs ls hP hS hl okl oks
  have hlk : meth.locks = false := X.2.2.2.2.2.2.2.2.2.1
  exact W.zret (v := x) (Qc := Qc G Q) (free := Ac G) X.1 X.2.1 (X.2.2.2.2.2.2.2.2.2.2.trans hr) hn (fun t ht hW => ⟨⟨some x, h, rfl, hq, by rw [ht]; exact hP⟩, hS.F ht⟩) hS.2.2 hd hlk
theorem E_vret {l : Launch} {G : GE} {mi : MI} {Q : QT} {pc : Nat} {lv : List (Option AV)} {h : Hp} (hd : decode mi.2.1 pc = .ok (.return_, 1)) (hr : mi.2.2.2.1 = none) (hq : Q none h) : Ev l G mi (fkM G mi Q) pc lv [] h := by
  intro p e s m args below meth c X H locs ls hP hS hl okl oks
  have hlk : meth.locks = false := X.2.2.2.2.2.2.2.2.2.1
  exact W.vret (Qc := Qc G Q) (free := Ac G) X.1 X.2.1 (X.2.2.2.2.2.2.2.2.2.2.trans hr) (fun t ht hW => ⟨⟨none, h, rfl, hq, by rw [ht]; exact hP⟩, hS.F ht⟩) hS.2.2 hd hlk
/-! CALLS -/
theorem wA_good {mi mj : MI} (hc : Cond.code mj.1 mj.2.1 mj.2.2.1 mj.2.2.2.1 ∈ TB) : GoodIn TB (wA mj) := by
  intro w hw
  rcases List.mem_cons.mp hw with rfl | hw
  · exact ⟨hc, good_of_word (TB_good hc)⟩
  · exact ⟨hw, good_of_word (TB_good hw)⟩
theorem World.blind {G : GE} {h : Hp} {av : List Value} : FrameBlind (va_Pc av (World G h)) := by
  intro a U g mk q
  obtain ⟨q0, qP, qK, qI, qS⟩ := q
  exact ⟨q0, qP, va_K.moved (u := U) (U := U.calling g mk a) (Vm.Alike.refl U.vm) qK, qI, Stat.same (s := U) (U := U.calling g mk a) rfl qS⟩
/-- how a method is linked at place idx of own's pool -/
def LkB (own : String) (idx : Nat) (mj : MI) (n : Nat) : Prop := Cond.methodLink own idx mj.1 ∈ TB ∧ Cond.initialized mj.1.cls ∈ TB ∧ Cond.code mj.1 mj.2.1 mj.2.2.1 mj.2.2.2.1 ∈ TB ∧ mj.1.cls ≠ "java/lang/invoke/MethodHandle" ∧ mj.1.cls ≠ "java/lang/invoke/VarHandle" ∧ (parseMethodDescriptor mj.1.desc).map (fun d => d.parameters.length) = some n
def LkV (own : String) (idx : Nat) (mj : MI) (n : Nat) : Prop := LkB own idx mj n ∧ Cond.instanceMethod mj.1 ∈ TB ∧ Cond.selects mj.1.cls mj.1 mj.1 ∈ TB
def LkS (own : String) (idx : Nat) (mj : MI) (n : Nat) : Prop := LkB own idx mj n ∧ Cond.static mj.1 ∈ TB
/-- a nest mate's static method -/
def LkN (own : String) (idx : Nat) (mj : MI) (n : Nat) : Prop := (∀ (G : GE) (U : State) (H : Heap), Stat G U H → va_Nw (.methodLinkNest own idx mj.1 RX7) U) ∧ Cond.initialized mj.1.cls ∈ TB ∧ Cond.code mj.1 mj.2.1 mj.2.2.1 mj.2.2.2.1 ∈ TB ∧ (mj.1.cls ≠ "java/lang/invoke/MethodHandle" ∧ mj.1.cls ≠ "java/lang/invoke/VarHandle" ∧ (parseMethodDescriptor mj.1.desc).map (fun d => d.parameters.length) = some n) ∧ Cond.static mj.1 ∈ TB
def rI : Option Int32 → List AV
  | none => []
  | some x => [vI x]
def wd : List AV → Nat
  | [] => 0
  | .inr (.inl _) :: l => 2 + wd l
  | _ :: l => 1 + wd l
theorem wd_ok {G : GE} : ∀ l : List AV, ((l.map (cv G)).map fun v => v.category).sum = wd l
  | [] => rfl
  | .inl x :: l => by show 1 + ((l.map (cv G)).map fun v => v.category).sum = 1 + wd l; rw [wd_ok l]
  | .inr (.inl x) :: l => by show 2 + ((l.map (cv G)).map fun v => v.category).sum = 2 + wd l; rw [wd_ok l]
  | .inr (.inr (t, i)) :: l => by show 1 + ((l.map (cv G)).map fun v => v.category).sum = 1 + wd l; rw [wd_ok l]
/-- behind a call -/
theorem call_end {l : Launch} {G : GE} {mi : MI} {fk : FK} {pc : Nat} {lv : List (Option AV)} {rest : List AV} {Q : QT} {p : Program} {e : Env} {s : State} {m : MethodId} {args a : Array Value} {below : List Frame} {meth : Method} {c : Code} (X : Cx G mi fk p s m args meth c) {H : Heap} {locs : List Loc} {ls : Array Slot} {st0 : List Value} (hS : va_S (Ac G) s.heap H locs) (hl : lk G ls mi.2.2.1 lv) (okl : okL lv) (okr : okS rest)
    (hr : va_Run p l e fk.2.1 s m args below meth c H locs fk.2.2.1 fk.2.2.2.1 0 0 (F0 m pc ls st0) (rest.map (cv G)) (Qc G Q a) (Ac G))
    (kk : ∀ (r : Option Int32) (h' : Hp), Q r h' → Ev l G mi fk (pc + 3) lv (rI r ++ rest) h') : W p l e fk.2.1 s m args below meth c H locs fk.2.2.1 fk.2.2.2.1 (fk.2.2.2.2 s args below) (F0 m pc ls st0) := by
  intro T hT Y
  obtain ⟨v, st₀, t, T', L, h0, Y', hL, e1, e2, ⟨⟨r, h', hv, hq, hP'⟩, hz, hk⟩, st⟩ := hr T hT Y
  have hv' : v = r.map Value.int := by
    have := hv
    injection this
  subst hv'
  rw [h0] at hz hk
  have hS' : va_S (Ac G) s.heap T'.heap (locs ++ L) := ⟨Nat.le_trans hS.1 (by rw [e1]; exact hz), fun q h1 h2 => by rw [e1, hk q (Nat.lt_of_lt_of_le h1 hS.1) h2]; exact hS.2.1 q h1 h2, fun q hq => by
      rcases List.mem_append.mp hq with h | h
      · exact hS.2.2 q h
      · exact hL q h⟩
  have hok : okS (rI r ++ rest) := by
    cases r with
    | none => exact okr
    | some x => exact okr.ci
  obtain ⟨t2, a1, b1⟩ := kk r h' hq p e s m args below meth c X T'.heap (locs ++ L) ls (by rw [e1]; exact hP') hS' hl okl hok T' rfl Y'
  refine ⟨t2, st t2 ?_, b1⟩
  have e3 : (rI r ++ rest).map (cv G) = (r.map Value.int).toList ++ rest.map (cv G) := by cases r <;> rfl
  rw [e3] at a1
  exact a1
theorem E_callV {l : Launch} {G : GE} {mi : MI} {fk : FK} {pc : Nat} {lv : List (Option AV)} {st : List AV} {h : Hp} {mj : MI} {idx n ci t i : Nat} {as rest : List AV} {fs : List (Option (Nat × Nat))} {T : u_T} {N : Nat} {Q : QT} (hd : decode mi.2.1 pc = .ok (.invokevirtual idx, 3)) (hc : CT l G mj (vR t i :: as) h Q) (hst : st = as.reverse ++ vR t i :: rest) (hL : LkV mi.1.cls idx mj n) (hs : sh t = some (.inl (ci, fs))) (hcl : vwCl[ci]? = some (mj.1.cls, T, N)) (hn : as.length = n) (hR : mj.2.2.2.2 + 1 ≤ fk.2.1.frames ∧ 8 + (mj.2.2.1 + 11) + 38 * mj.2.2.2.2 ≤ fk.2.1.locals ∧ fk.2.2.1 ≤ fk.2.1.cells ∧ fk.2.2.2.1 ≤ fk.2.1.slots) (hw : wd rest ≤ 8)
    (kk : ∀ (r : Option Int32) (h' : Hp), Q r h' → Ev l G mi fk (pc + 3) lv (rI r ++ rest) h') : Ev l G mi fk pc lv st h := by
  subst hst
  intro p e s m args below meth c X H locs ls hP hS hl okl oks
  obtain ⟨⟨w1, w2, w3, w4, w5, w6⟩, w7, w8⟩ := hL
  have hts := X.2.2.2.2.1
  have okr : okS rest := fun v hv => oks v (List.mem_append_right _ (List.mem_cons_of_mem _ hv))
  have okb : okV (vR t i) := oks _ (List.mem_append_right _ List.mem_cons_self)
  have oka : okS (vR t i :: as) := okS.co okb (fun v hv => oks v (List.mem_append_left _ (List.mem_reverse.mpr hv)))
  obtain ⟨q, hq⟩ := okV.key okb hs
  have he : (wsG G h)[q]? = some (G.2.2 t i, .inr (ci, fvs G h t i 0 fs)) := by rw [wsG_at hq]; unfold ent; rw [hs]; rfl
  have hrecv := va_recv X.2.2.2.2.2.1 hP hcl he
  have hM := hc oka
  have hst2 : (as.reverse ++ vR t i :: rest).map (cv G) = (as.map (cv G)).reverse ++ Value.ref (G.2.2 t i) :: rest.map (cv G) := by rw [List.map_append, List.map_reverse]; rfl
  refine call_end X hS hl okl okr (a := (Value.ref (G.2.2 t i) :: as.map (cv G)).toArray) (Q := Q) ?_ kk
  exact va_runV (As := as.map (cv G)) (n := n) (C := mj.1.cls) (b := G.2.2 t i) (own := mi.1.cls) (nL := mi.2.2.1) (bytes := mj.2.1) (maxL := mj.2.2.1) (ret := mj.2.2.2.1) (index := idx) ⟨X.1, X.2.1, X.2.2.1, X.2.2.2.1, hts⟩ hM
    ⟨callB_of n hts (wA_good (mi := mi) w3) rfl rfl rfl (hts _ w2) (hts _ w1) ⟨w4, w5, w6⟩ ⟨hR.1, hR.2.1⟩, hts _ w7, hts _ w8⟩
    ⟨World.blind, hrecv, fun U hU hW => ⟨rfl, by rw [hU]; exact hP, va_K.moved hW.alike X.2.2.2.2.2.1, X.2.2.2.2.2.2.1, by rw [hU]; exact (X.2.2.2.2.2.2.2.1.kept hS.2.1).warm hW⟩⟩
    rfl (by rw [List.length_map]; exact hn) hl.1 hst2 (lv_room (by rw [wd_ok]; exact hw)) hd ⟨hR.2.2.1, hR.2.2.2⟩
theorem E_callS {l : Launch} {G : GE} {mi : MI} {fk : FK} {pc : Nat} {lv : List (Option AV)} {st : List AV} {h : Hp} {mj : MI} {idx n : Nat} {as rest : List AV} {Q : QT} (hd : decode mi.2.1 pc = .ok (.invokestatic idx, 3)) (hc : CT l G mj as h Q) (hst : st = as.reverse ++ rest) (hL : LkS mi.1.cls idx mj n) (hn : as.length = n) (hR : mj.2.2.2.2 + 1 ≤ fk.2.1.frames ∧ 8 + (mj.2.2.1 + 11) + 38 * mj.2.2.2.2 ≤ fk.2.1.locals ∧ fk.2.2.1 ≤ fk.2.1.cells ∧ fk.2.2.2.1 ≤ fk.2.1.slots) (hw : wd rest ≤ 8)
    (kk : ∀ (r : Option Int32) (h' : Hp), Q r h' → Ev l G mi fk (pc + 3) lv (rI r ++ rest) h') : Ev l G mi fk pc lv st h := by
  subst hst
  intro p e s m args below meth c X H locs ls hP hS hl okl oks
  obtain ⟨⟨w1, w2, w3, w4, w5, w6⟩, w7⟩ := hL
  have hts := X.2.2.2.2.1
  have okr : okS rest := fun v hv => oks v (List.mem_append_right _ hv)
  have oka : okS as := fun v hv => oks v (List.mem_append_left _ (List.mem_reverse.mpr hv))
  have hM := hc oka
  have hst2 : (as.reverse ++ rest).map (cv G) = (as.map (cv G)).reverse ++ rest.map (cv G) := by rw [List.map_append, List.map_reverse]
  refine call_end X hS hl okl okr (a := (as.map (cv G)).toArray) (Q := Q) ?_ kk
  exact va_runS (As := as.map (cv G)) (n := n) (own := mi.1.cls) (nL := mi.2.2.1) (bytes := mj.2.1) (maxL := mj.2.2.1) (ret := mj.2.2.2.1) (index := idx) ⟨X.1, X.2.1, X.2.2.1, X.2.2.2.1, hts⟩ hM
    ⟨callB_of n hts (wA_good (mi := mi) w3) rfl rfl rfl (hts _ w2) (hts _ w1) ⟨w4, w5, w6⟩ ⟨hR.1, hR.2.1⟩, hts _ w7⟩
    ⟨World.blind, fun U hU hW => ⟨rfl, by rw [hU]; exact hP, va_K.moved hW.alike X.2.2.2.2.2.1, X.2.2.2.2.2.2.1, by rw [hU]; exact (X.2.2.2.2.2.2.2.1.kept hS.2.1).warm hW⟩⟩
    rfl (by rw [List.length_map]; exact hn) hl.1 hst2 (lv_room (by rw [wd_ok]; exact hw)) hd ⟨hR.2.2.1, hR.2.2.2⟩
theorem E_callN {l : Launch} {G : GE} {mi : MI} {fk : FK} {pc : Nat} {lv : List (Option AV)} {st : List AV} {h : Hp} {mj : MI} {idx n : Nat} {as rest : List AV} {Q : QT} (hd : decode mi.2.1 pc = .ok (.invokestatic idx, 3)) (hc : CT l G mj as h Q) (hst : st = as.reverse ++ rest) (hL : LkN mi.1.cls idx mj n) (hn : as.length = n) (hR : mj.2.2.2.2 + 1 ≤ fk.2.1.frames ∧ 8 + (mj.2.2.1 + 11) + 38 * mj.2.2.2.2 ≤ fk.2.1.locals ∧ fk.2.2.1 ≤ fk.2.1.cells ∧ fk.2.2.2.1 ≤ fk.2.1.slots) (hw : wd rest ≤ 8)
    (kk : ∀ (r : Option Int32) (h' : Hp), Q r h' → Ev l G mi fk (pc + 3) lv (rI r ++ rest) h') : Ev l G mi fk pc lv st h := by
  subst hst
  intro p e s m args below meth c X H locs ls hP hS hl okl oks
  obtain ⟨w1, w2, w3, w4, w7⟩ := hL
  have hts := X.2.2.2.2.1
  have okr : okS rest := fun v hv => oks v (List.mem_append_right _ hv)
  have oka : okS as := fun v hv => oks v (List.mem_append_left _ (List.mem_reverse.mpr hv))
  have hM := hc oka
  have hst2 : (as.reverse ++ rest).map (cv G) = (as.map (cv G)).reverse ++ rest.map (cv G) := by rw [List.map_append, List.map_reverse]
  refine call_end X hS hl okl okr (a := (as.map (cv G)).toArray) (Q := Q) ?_ kk
  exact va_runSN (As := as.map (cv G)) (n := n) (own := mi.1.cls) (host := RX7) (nL := mi.2.2.1) (bytes := mj.2.1) (maxL := mj.2.2.1) (ret := mj.2.2.2.1) (index := idx) ⟨X.1, X.2.1, X.2.2.1, X.2.2.2.1, hts⟩ hM
    ⟨va_cnB n hts (wA_good (mi := mi) w3) rfl rfl rfl (w1 G s s.heap X.2.2.2.2.2.2.2.1) (hts _ w2) w4 ⟨hR.1, hR.2.1⟩, hts _ w7, trivial⟩
    ⟨World.blind, fun U hU hW => ⟨rfl, by rw [hU]; exact hP, va_K.moved hW.alike X.2.2.2.2.2.1, X.2.2.2.2.2.2.1, by rw [hU]; exact (X.2.2.2.2.2.2.2.1.kept hS.2.1).warm hW⟩⟩
    rfl (by rw [List.length_map]; exact hn) hl.1 hst2 (lv_room (by rw [wd_ok]; exact hw)) hd ⟨hR.2.2.1, hR.2.2.2⟩
end
section
/-! System.arraycopy -/
def LkC (own : String) (idx : Nat) : Prop := Cond.methodLink own idx arraycopyName ∈ TB ∧ Cond.native arraycopyName ∈ TB ∧ Cond.static arraycopyName ∈ TB ∧ Cond.initialized "java/lang/System" ∈ TB
theorem fits_int (x : Int32) : fits .int (.int x) = true := rfl
theorem E_copy {l : Launch} {G : GE} {mi : MI} {fk : FK} {pc : Nat} {lv : List (Option AV)} {st : List AV} {h : Hp} {idx t0 i0 n0 t1 i1 n1 : Nat} {sp dp n : Int32} (hd : decode mi.2.1 pc = .ok (.invokestatic idx, 3)) (hL : LkC mi.1.cls idx) (hs0 : sh t0 = some (.inr (.inl (0, n0)))) (hs1 : sh t1 = some (.inr (.inl (0, n1)))) (hR : 1 ≤ fk.2.1.frames ∧ wd st + (nativeFrameWords "java/lang/System" "arraycopy" 5 + 11) ≤ fk.2.1.locals) (h1 : ¬ sp < 0) (h2 : ¬ dp < 0) (h3 : ¬ n < 0) (h4 : sp.toNatClampNeg + n.toNatClampNeg ≤ n0) (h5 : dp.toNatClampNeg + n.toNatClampNeg ≤ n1)
    (kk : Ev l G mi fk (pc + 3) lv st (hsetA h t1 i1 (va_cpy (h t0 i0) (h t1 i1) sp.toNatClampNeg dp.toNatClampNeg n.toNatClampNeg))) : Ev l G mi fk pc lv (vI n :: vI dp :: vR t1 i1 :: vI sp :: vR t0 i0 :: st) h := by
  intro p e s m args below meth c X H locs ls hP hS hl okl oks
  obtain ⟨w1, w2, w3, w4⟩ := hL
  have hts := X.2.2.2.2.1
  obtain ⟨q0, hq0⟩ := okV.key oks.tl.tl.tl.tl.hd hs0
  obtain ⟨q1, hq1⟩ := okV.key oks.tl.tl.hd hs1
  refine va_copyi X.1 X.2.1 (X.2.2.1.trans hl.1.symm) X.2.2.2.1 (hts _ w1) (hts _ w2) (hts _ w3) (hts _ w4) X.2.2.2.2.2.1 hP (wsG_D X.2.2.2.2.2.2.1 h) hS q0 q1 0 0 (ent_arr hq0 hs0) (ent_arr hq1 hs1) tys0 tys0 rfl h1 h2 h3 h4 h5 (fun i _ => fits_int _) hR.1 (by rw [wd_ok]; exact hR.2) hd (fun H1 locs1 hP1 hD1 hS1 => ?_)
  rw [wsG_arr (G := G) (h' := hsetA h t1 i1 (va_cpy (h t0 i0) (h t1 i1) sp.toNatClampNeg dp.toNatClampNeg n.toNatClampNeg)) hq1 hs1 (fun _ _ hne => hsetA_other hne) (hsetA_arr h t1 i1 _)] at hP1
  exact kk p e s m args below meth c X H1 locs1 ls hP1 hS1 hl okl oks.tl.tl.tl.tl.tl
theorem E_copyRO {l : Launch} {G : GE} {mi : MI} {fk : FK} {pc : Nat} {lv : List (Option AV)} {st : List AV} {h : Hp} {idx t0 n0 t1 i1 n1 : Nat} {f : Nat → Int32} {sp dp n : Int32} (hd : decode mi.2.1 pc = .ok (.invokestatic idx, 3)) (hL : LkC mi.1.cls idx) (hs0 : fk.1 t0 = some (n0, f)) (hs1 : sh t1 = some (.inr (.inl (0, n1)))) (hR : 1 ≤ fk.2.1.frames ∧ wd st + (nativeFrameWords "java/lang/System" "arraycopy" 5 + 11) ≤ fk.2.1.locals) (h1 : ¬ sp < 0) (h2 : ¬ dp < 0) (h3 : ¬ n < 0) (h4 : sp.toNatClampNeg + n.toNatClampNeg ≤ n0) (h5 : dp.toNatClampNeg + n.toNatClampNeg ≤ n1)
    (kk : Ev l G mi fk (pc + 3) lv st (hsetA h t1 i1 (va_cpy f (h t1 i1) sp.toNatClampNeg dp.toNatClampNeg n.toNatClampNeg))) : Ev l G mi fk pc lv (vI n :: vI dp :: vR t1 i1 :: vI sp :: vR t0 0 :: st) h := by
  intro p e s m args below meth c X H locs ls hP hS hl okl oks
  obtain ⟨w1, w2, w3, w4⟩ := hL
  have hts := X.2.2.2.2.1
  have hX := X.2.2.2.2.2.2.2.2.1 t0 n0 f hs0
  obtain ⟨q1, hq1⟩ := okV.key oks.tl.tl.hd hs1
  have nn : ∀ z : Int32, ¬ z < 0 → z.toInt = (z.toNatClampNeg : Int) := by
    intro z hz
    have hz0 : (0 : Int) ≤ z.toInt := by
      have := Int32.not_lt.mp hz
      simpa using Int32.le_iff_toInt_le.mp this
    show z.toInt = ((z.toInt.toNat : Nat) : Int)
    omega
  have hD := wsG_D X.2.2.2.2.2.2.1 h
  have ha1 := ent_arr (G := G) (h := h) hq1 hs1
  intro T hT Y
  obtain ⟨scr, hr1, hr2, hr3, hr4, -, hr5, hr7⟩ := hX
  have hc0 : H[G.2.2 t0 0]? = some scr := by rw [hS.2.1 _ (Array.getElem?_eq_some_iff.mp hr1).1 hr7]; exact hr1
  have hc1 : H[G.2.2 t1 i1]? = some (vp_cell (G.2.1 0) (n1, .inl (h t1 i1))) := hP q1 _ ha1
  obtain ⟨hr6, k0, hk0, cm0, hkk0⟩ := hr2
  obtain ⟨-, k1, hk1, cm1, hkk1⟩ := (X.2.2.2.2.2.1.2 0 _ tys0).1 n1 (fun j => .int (h t1 i1 j))
  obtain ⟨vm', Y', step⟩ := Y.arraycopy X.1 X.2.2.2.1 (hts _ w1) (hts _ w2) (hts _ w3) (hts _ w4) (src := G.2.2 t0 0) (dst := G.2.2 t1 i1) (cs := scr) (cd := vp_cell (G.2.1 0) (n1, .inl (h t1 i1))) (srcPos := sp) (destPos := dp) (n := n) (by rw [hT]; exact hc0) (by rw [hT]; exact hc1)
    hr6 (fun _ h => by cases h) hr3 (fun h => by cases h) hk0 hk1 hkk0 hkk1 (by simp [refKind]) h1 h2 h3
    (by rw [nn sp h1, nn n h3]; omega)
    (by rw [nn dp h2, nn n h3]; show ¬ _ > ((arrV (G.2.1 0) n1 (fun j => .int (h t1 i1 j))).slots.size : Int); rw [arrV_size]; omega)
    (fun vm₁ _ i hi => by
      have e : scr.slots.getD (sp.toNatClampNeg + i) .null = .int (f (sp.toNatClampNeg + i)) := by
        rw [Array.getD_eq_getD_getElem?, hr5 _ (by omega)]
        rfl
      refine ⟨?_, ?_⟩
      · rw [e]
        exact fits_int _
      · rw [e]
        exact trivial)
    (g := F0 m pc ls (.int n :: .int dp :: .ref (G.2.2 t1 i1) :: .int sp :: .ref (G.2.2 t0 0) :: st.map (cv G))) rfl (by rw [hl.1]; exact X.2.2.1.symm) (rest := st.map (cv G)) rfl (by rw [X.2.1]; exact hd) hR.1 (by show 2 * 0 + _ + _ ≤ _; rw [wd_ok]; omega)
  have e1 : copied scr (vp_cell (G.2.1 0) (n1, .inl (h t1 i1))) sp dp n = vp_cell (G.2.1 0) (n1, .inl (va_cpy f (h t1 i1) sp.toNatClampNeg dp.toNatClampNeg n.toNatClampNeg)) := va_copiedX (fun z => .int z) scr (G.2.1 0) f (h t1 i1) hr5 h4
  rw [e1] at Y' step
  have hlt : G.2.2 t1 i1 < H.size := (Array.getElem?_eq_some_iff.mp hc1).1
  have hheap : ((T.setVm vm').setCell (G.2.2 t1 i1) (vp_cell (G.2.1 0) (n1, .inl (va_cpy f (h t1 i1) sp.toNatClampNeg dp.toNatClampNeg n.toNatClampNeg)))).heap = H.setIfInBounds (G.2.2 t1 i1) (vp_cell (G.2.1 0) (n1, .inl (va_cpy f (h t1 i1) sp.toNatClampNeg dp.toNatClampNeg n.toNatClampNeg))) := by rw [← hT]; rfl
  have oq : ∀ q : Nat, q ≠ G.2.2 t1 i1 → (H.setIfInBounds (G.2.2 t1 i1) (vp_cell (G.2.1 0) (n1, .inl (va_cpy f (h t1 i1) sp.toNatClampNeg dp.toNatClampNeg n.toNatClampNeg))))[q]? = H[q]? := fun q hq => by simp [Array.getElem?_setIfInBounds, Ne.symm hq]
  have hP1 := hP.set hD ha1 (show va_at G.1 vwCl (G.2.2 t1 i1, .inl (G.2.1 0, n1, .inl (va_cpy f (h t1 i1) sp.toNatClampNeg dp.toNatClampNeg n.toNatClampNeg))) (H.setIfInBounds (G.2.2 t1 i1) (vp_cell (G.2.1 0) (n1, .inl (va_cpy f (h t1 i1) sp.toNatClampNeg dp.toNatClampNeg n.toNatClampNeg)))) from (show (H.setIfInBounds (G.2.2 t1 i1) _)[G.2.2 t1 i1]? = some _ by simp [Array.getElem?_setIfInBounds, hlt])) oq
  rw [wsG_arr (G := G) (h' := hsetA h t1 i1 (va_cpy f (h t1 i1) sp.toNatClampNeg dp.toNatClampNeg n.toNatClampNeg)) hq1 hs1 (fun _ _ hne => hsetA_other hne) (hsetA_arr h t1 i1 _)] at hP1
  obtain ⟨t, a1, b1⟩ := kk p e s m args below meth c X _ _ ls hP1 ⟨by simp; exact hS.1, fun q g1 g2 => by
      rw [oq q (fun e => g2 (by rw [e]; exact hD.2 q1 _ ha1))]
      exact hS.2.1 q g1 g2, fun q hq => by
      rcases List.mem_append.mp hq with h | h
      · exact hS.2.2 q h
      · obtain ⟨z, -, hz⟩ := List.mem_map.mp h
        rw [← hz]
        exact hD.2 q1 _ ha1⟩ hl okl oks.tl.tl.tl.tl.tl _ hheap Y'
  exact ⟨t, step t a1, b1⟩
end
section
/-! METHODS, LINKS (by program) -/
abbrev mJ0_charAt_5068e : MI := (yJ0_charAt_5068e, cJ0_charAt_5068e, 2, (some .char), 5)
abbrev mJ0_checkIndex_df160 : MI := (yJ0_checkIndex_df160, cJ0_checkIndex_df160, 2, none, 2)
abbrev mJ0_isLatin1_aae02 : MI := (yJ0_isLatin1_aae02, cJ0_isLatin1_aae02, 1, (some .boolean), 1)
abbrev mJ1_charAt_3b067 : MI := (yJ1_charAt_3b067, cJ1_charAt_3b067, 2, (some .char), 3)
abbrev mJ2_charAt_3b067 : MI := (yJ2_charAt_3b067, cJ2_charAt_3b067, 2, (some .char), 4)
abbrev mJ2_checkIndex_2214a : MI := (yJ2_checkIndex_2214a, cJ2_checkIndex_2214a, 2, none, 3)
abbrev mJ2_getChar_3b067 : MI := (yJ2_getChar_3b067, cJ2_getChar_3b067, 2, (some .char), 2)
abbrev mJ2_length_9d52b : MI := (yJ2_length_9d52b, cJ2_length_9d52b, 1, (some .int), 1)
abbrev mJ3_checkIndex_8e157 : MI := (yJ3_checkIndex_8e157, cJ3_checkIndex_8e157, 3, (some .int), 1)
abbrev mJ6_bitCount_0f7a4 : MI := (yJ6_bitCount_0f7a4, cJ6_bitCount_0f7a4, 1, (some .int), 1)
abbrev mJ6_compare_7cf53 : MI := (yJ6_compare_7cf53, cJ6_compare_7cf53, 2, (some .int), 1)
abbrev mJ9_abs_0f7a4 : MI := (yJ9_abs_0f7a4, cJ9_abs_0f7a4, 1, (some .int), 1)
abbrev mJ9_floorDiv_7cf53 : MI := (yJ9_floorDiv_7cf53, cJ9_floorDiv_7cf53, 3, (some .int), 1)
abbrev mJ9_floorMod_7cf53 : MI := (yJ9_floorMod_7cf53, cJ9_floorMod_7cf53, 3, (some .int), 1)
abbrev mJ9_max_7cf53 : MI := (yJ9_max_7cf53, cJ9_max_7cf53, 2, (some .int), 1)
abbrev mJ9_min_7cf53 : MI := (yJ9_min_7cf53, cJ9_min_7cf53, 2, (some .int), 1)
abbrev mX0_baseOf : MI := (yX0_baseOf, cX0_baseOf, 6, (some .int), 2)
abbrev mX0_bestChange : MI := (yX0_bestChange, cX0_bestChange, 4, (some .int), 1)
abbrev mX0_changesThatCompare : MI := (yX0_changesThatCompare, cX0_changesThatCompare, 4, (some .int), 2)
abbrev mX0_clears : MI := (yX0_clears, cX0_clears, 3, (some .int), 3)
abbrev mX0_firstAcross : MI := (yX0_firstAcross, cX0_firstAcross, 4, (some .int), 4)
abbrev mX0_getsAcross : MI := (yX0_getsAcross, cX0_getsAcross, 2, (some .boolean), 1)
abbrev mX0_greatestMiddle : MI := (yX0_greatestMiddle, cX0_greatestMiddle, 4, (some .int), 2)
abbrev mX0_init : MI := (yX0_init, cX0_init, 2, none, 1)
abbrev mX0_isBent : MI := (yX0_isBent, cX0_isBent, 6, (some .boolean), 2)
abbrev mX0_isHasty : MI := (yX0_isHasty, cX0_isHasty, 5, (some .boolean), 2)
abbrev mX0_isNear : MI := (yX0_isNear, cX0_isNear, 2, (some .boolean), 2)
abbrev mX0_leastOnTheWay : MI := (yX0_leastOnTheWay, cX0_leastOnTheWay, 5, (some .int), 6)
abbrev mX0_lowestTenth : MI := (yX0_lowestTenth, cX0_lowestTenth, 5, (some .int), 1)
abbrev mX0_measure : MI := (yX0_measure, cX0_measure, 3, none, 5)
abbrev mX0_measurePlaces : MI := (yX0_measurePlaces, cX0_measurePlaces, 9, none, 3)
abbrev mX0_measureTenth : MI := (yX0_measureTenth, cX0_measureTenth, 3, none, 4)
abbrev mX0_orderOfParts : MI := (yX0_orderOfParts, cX0_orderOfParts, 5, (some .int), 5)
abbrev mX0_pitBears : MI := (yX0_pitBears, cX0_pitBears, 5, (some .boolean), 2)
abbrev mX0_placeOf : MI := (yX0_placeOf, cX0_placeOf, 5, (some .int), 3)
abbrev mX0_survey : MI := (yX0_survey, cX0_survey, 5, none, 6)
abbrev mX0_value : MI := (yX0_value, cX0_value, 3, (some .int), 4)
abbrev mX0_valueWith : MI := (yX0_valueWith, cX0_valueWith, 4, (some .int), 5)
abbrev mX0_whyBarred : MI := (yX0_whyBarred, cX0_whyBarred, 3, (some .int), 3)
abbrev mX1_init : MI := (yX1_init, cX1_init, 1, none, 1)
abbrev mX1_isFigure : MI := (yX1_isFigure, cX1_isFigure, 1, (some .boolean), 2)
abbrev mX1_isLetter : MI := (yX1_isLetter, cX1_isLetter, 1, (some .boolean), 2)
abbrev mX1_isName : MI := (yX1_isName, cX1_isName, 5, (some .boolean), 6)
abbrev mX1_readLine : MI := (yX1_readLine, cX1_readLine, 4, none, 11)
abbrev mX1_readNumber : MI := (yX1_readNumber, cX1_readNumber, 4, (some .int), 9)
abbrev mX1_readSlot : MI := (yX1_readSlot, cX1_readSlot, 3, (some .int), 10)
abbrev mX1_readText : MI := (yX1_readText, cX1_readText, 3, (some .int), 12)
abbrev mX1_readToken : MI := (yX1_readToken, cX1_readToken, 2, none, 8)
abbrev mX1_takeName : MI := (yX1_takeName, cX1_takeName, 2, none, 7)
abbrev mX1_takeNumber : MI := (yX1_takeNumber, cX1_takeNumber, 2, none, 3)
abbrev mX2_begin : MI := (yX2_begin, cX2_begin, 1, none, 1)
abbrev mX2_choice : MI := (yX2_choice, cX2_choice, 7, (some .int), 1)
abbrev mX2_countIn : MI := (yX2_countIn, cX2_countIn, 5, (some .int), 1)
abbrev mX2_goYear : MI := (yX2_goYear, cX2_goYear, 4, none, 3)
abbrev mX2_has : MI := (yX2_has, cX2_has, 2, (some .boolean), 2)
abbrev mX2_heldBits : MI := (yX2_heldBits, cX2_heldBits, 3, (some .int), 1)
abbrev mX2_init : MI := (yX2_init, cX2_init, 1, none, 1)
abbrev mX2_isOfOneWay : MI := (yX2_isOfOneWay, cX2_isOfOneWay, 1, (some .boolean), 2)
abbrev mX2_join : MI := (yX2_join, cX2_join, 2, (some .boolean), 1)
abbrev mX2_keep : MI := (yX2_keep, cX2_keep, 1, none, 1)
abbrev mX2_seenBits : MI := (yX2_seenBits, cX2_seenBits, 5, (some .int), 2)
abbrev mX2_unlikeHeld : MI := (yX2_unlikeHeld, cX2_unlikeHeld, 3, (some .int), 1)
abbrev mX3_init : MI := (yX3_init, cX3_init, 1, none, 1)
abbrev mX3_middleAt : MI := (yX3_middleAt, cX3_middleAt, 3, (some .int), 1)
abbrev mX3_setAll : MI := (yX3_setAll, cX3_setAll, 2, none, 1)
abbrev mX3_total : MI := (yX3_total, cX3_total, 3, (some .int), 1)
abbrev mX4_begin : MI := (yX4_begin, cX4_begin, 4, none, 1)
abbrev mX4_faultAs : MI := (yX4_faultAs, cX4_faultAs, 2, (some .int), 2)
abbrev mX4_hasCell : MI := (yX4_hasCell, cX4_hasCell, 2, (some .boolean), 2)
abbrev mX4_init : MI := (yX4_init, cX4_init, 1, none, 1)
abbrev mX4_isLane : MI := (yX4_isLane, cX4_isLane, 1, (some .boolean), 2)
abbrev mX4_isNothing : MI := (yX4_isNothing, cX4_isNothing, 1, (some .boolean), 1)
abbrev mX4_readTenth : MI := (yX4_readTenth, cX4_readTenth, 5, (some .int), 3)
abbrev mX4_write : MI := (yX4_write, cX4_write, 3, none, 1)
abbrev mX5_addEight : MI := (yX5_addEight, cX5_addEight, 4, (some .boolean), 1)
abbrev mX5_init : MI := (yX5_init, cX5_init, 1, none, 1)
abbrev mX6_become : MI := (yX6_become, cX6_become, 2, none, 1)
abbrev mX6_begin : MI := (yX6_begin, cX6_begin, 4, none, 1)
abbrev mX6_canHave : MI := (yX6_canHave, cX6_canHave, 2, (some .boolean), 2)
abbrev mX6_change : MI := (yX6_change, cX6_change, 2, none, 2)
abbrev mX6_changeBack : MI := (yX6_changeBack, cX6_changeBack, 2, none, 2)
abbrev mX6_countNumbers : MI := (yX6_countNumbers, cX6_countNumbers, 1, (some .int), 1)
abbrev mX6_hasChange : MI := (yX6_hasChange, cX6_hasChange, 2, (some .boolean), 3)
abbrev mX6_init : MI := (yX6_init, cX6_init, 1, none, 1)
abbrev mX6_isNumber : MI := (yX6_isNumber, cX6_isNumber, 1, (some .boolean), 2)
abbrev mX6_isTenthInBounds : MI := (yX6_isTenthInBounds, cX6_isTenthInBounds, 3, (some .boolean), 3)
abbrev mX6_spot : MI := (yX6_spot, cX6_spot, 2, (some .int), 1)
abbrev mX6_step : MI := (yX6_step, cX6_step, 1, (some .int), 1)
abbrev mX6_unlikeNumbers : MI := (yX6_unlikeNumbers, cX6_unlikeNumbers, 4, (some .int), 2)
abbrev mX7_all : MI := (yX7_all, cX7_all, 2, (some .int), 7)
abbrev mX7_around : MI := (yX7_around, cX7_around, 4, (some .int), 7)
abbrev mX7_asks : MI := (yX7_asks, cX7_asks, 7, (some .int), 6)
abbrev mX7_at : MI := (yX7_at, cX7_at, 5, (some .int), 5)
abbrev mX7_barred : MI := (yX7_barred, cX7_barred, 2, (some .int), 6)
abbrev mX7_best : MI := (yX7_best, cX7_best, 3, (some .int), 8)
abbrev mX7_bestWay : MI := (yX7_bestWay, cX7_bestWay, 4, (some .int), 7)
abbrev mX7_better : MI := (yX7_better, cX7_better, 2, (some .int), 7)
abbrev mX7_climb : MI := (yX7_climb, cX7_climb, 5, (some .int), 7)
abbrev mX7_commonDivisor : MI := (yX7_commonDivisor, cX7_commonDivisor, 6, (some .int), 1)
abbrev mX7_copy : MI := (yX7_copy, cX7_copy, 3, (some .int), 4)
abbrev mX7_count : MI := (yX7_count, cX7_count, 2, (some .int), 5)
abbrev mX7_countTenths : MI := (yX7_countTenths, cX7_countTenths, 3, (some .int), 1)
abbrev mX7_countWays : MI := (yX7_countWays, cX7_countWays, 3, (some .int), 4)
abbrev mX7_cube : MI := (yX7_cube, cX7_cube, 1, (some .int), 1)
abbrev mX7_dividedDown : MI := (yX7_dividedDown, cX7_dividedDown, 2, (some .int), 2)
abbrev mX7_end : MI := (yX7_end, cX7_end, 3, (some .int), 2)
abbrev mX7_fault : MI := (yX7_fault, cX7_fault, 1, (some .int), 1)
abbrev mX7_feed : MI := (yX7_feed, cX7_feed, 3, (some .int), 2)
abbrev mX7_film : MI := (yX7_film, cX7_film, 9, (some .int), 4)
abbrev mX7_goYears : MI := (yX7_goYears, cX7_goYears, 3, none, 7)
abbrev mX7_goodInThree : MI := (yX7_goodInThree, cX7_goodInThree, 3, (some .int), 3)
abbrev mX7_goodSlips : MI := (yX7_goodSlips, cX7_goodSlips, 3, (some .int), 2)
abbrev mX7_high : MI := (yX7_high, cX7_high, 2, (some .int), 6)
abbrev mX7_init : MI := (yX7_init, cX7_init, 2, none, 1)
abbrev mX7_isPart : MI := (yX7_isPart, cX7_isPart, 1, (some .boolean), 2)
abbrev mX7_isPartOfWay : MI := (yX7_isPartOfWay, cX7_isPartOfWay, 4, (some .boolean), 4)
abbrev mX7_isSheet : MI := (yX7_isSheet, cX7_isSheet, 1, (some .boolean), 2)
abbrev mX7_isWay : MI := (yX7_isWay, cX7_isWay, 2, (some .boolean), 3)
abbrev mX7_isWayNumber : MI := (yX7_isWayNumber, cX7_isWayNumber, 1, (some .boolean), 2)
abbrev mX7_jumper : MI := (yX7_jumper, cX7_jumper, 2, (some .int), 3)
abbrev mX7_lay : MI := (yX7_lay, cX7_lay, 4, (some .int), 3)
abbrev mX7_lowest : MI := (yX7_lowest, cX7_lowest, 3, (some .int), 6)
abbrev mX7_near : MI := (yX7_near, cX7_near, 4, (some .int), 5)
abbrev mX7_odd : MI := (yX7_odd, cX7_odd, 4, (some .int), 8)
abbrev mX7_odds : MI := (yX7_odds, cX7_odds, 9, (some .int), 6)
abbrev mX7_of : MI := (yX7_of, cX7_of, 3, (some .int), 4)
abbrev mX7_order : MI := (yX7_order, cX7_order, 2, (some .int), 6)
abbrev mX7_pays : MI := (yX7_pays, cX7_pays, 7, (some .int), 2)
abbrev mX7_pits : MI := (yX7_pits, cX7_pits, 4, (some .int), 4)
abbrev mX7_place : MI := (yX7_place, cX7_place, 5, (some .int), 5)
abbrev mX7_put : MI := (yX7_put, cX7_put, 7, (some .int), 5)
abbrev mX7_rule : MI := (yX7_rule, cX7_rule, 2, (some .int), 2)
abbrev mX7_sheet : MI := (yX7_sheet, cX7_sheet, 4, (some .int), 3)
abbrev mX7_suits : MI := (yX7_suits, cX7_suits, 5, (some .int), 8)
abbrev mX7_takes : MI := (yX7_takes, cX7_takes, 4, (some .int), 3)
abbrev mX7_text : MI := (yX7_text, cX7_text, 2, (some .int), 13)
abbrev mX7_torn : MI := (yX7_torn, cX7_torn, 1, (some .int), 1)
abbrev mX7_under : MI := (yX7_under, cX7_under, 3, (some .int), 6)
abbrev mX7_valley : MI := (yX7_valley, cX7_valley, 4, (some .int), 7)
abbrev mX7_way : MI := (yX7_way, cX7_way, 5, (some .int), 3)
abbrev mX7_weighWays : MI := (yX7_weighWays, cX7_weighWays, 2, none, 6)
abbrev mX7_who : MI := (yX7_who, cX7_who, 2, (some .int), 3)
abbrev mX7_within : MI := (yX7_within, cX7_within, 3, (some .boolean), 1)
abbrev mX7_worth : MI := (yX7_worth, cX7_worth, 3, (some .int), 6)
abbrev mX7_years : MI := (yX7_years, cX7_years, 3, (some .int), 8)
abbrev mX8_all : MI := (yX8_all, cX8_all, 2, (some .int), 10)
abbrev mX8_around : MI := (yX8_around, cX8_around, 7, (some .int), 9)
abbrev mX8_asks : MI := (yX8_asks, cX8_asks, 9, (some .int), 7)
abbrev mX8_at : MI := (yX8_at, cX8_at, 5, (some .int), 5)
abbrev mX8_barred : MI := (yX8_barred, cX8_barred, 2, (some .int), 4)
abbrev mX8_barredBy : MI := (yX8_barredBy, cX8_barredBy, 3, (some .int), 3)
abbrev mX8_best : MI := (yX8_best, cX8_best, 3, (some .int), 10)
abbrev mX8_bestOf : MI := (yX8_bestOf, cX8_bestOf, 5, (some .int), 9)
abbrev mX8_better : MI := (yX8_better, cX8_better, 2, (some .int), 10)
abbrev mX8_betterOf : MI := (yX8_betterOf, cX8_betterOf, 6, (some .int), 9)
abbrev mX8_byteAt : MI := (yX8_byteAt, cX8_byteAt, 2, (some .int), 1)
abbrev mX8_changed : MI := (yX8_changed, cX8_changed, 5, (some .int), 2)
abbrev mX8_clear : MI := (yX8_clear, cX8_clear, 3, none, 1)
abbrev mX8_climb : MI := (yX8_climb, cX8_climb, 5, (some .int), 10)
abbrev mX8_copy : MI := (yX8_copy, cX8_copy, 4, (some .int), 4)
abbrev mX8_count : MI := (yX8_count, cX8_count, 6, (some .int), 2)
abbrev mX8_doesBear : MI := (yX8_doesBear, cX8_doesBear, 2, (some .boolean), 1)
abbrev mX8_end : MI := (yX8_end, cX8_end, 3, (some .int), 2)
abbrev mX8_failing : MI := (yX8_failing, cX8_failing, 5, (some .int), 1)
abbrev mX8_fails : MI := (yX8_fails, cX8_fails, 2, none, 1)
abbrev mX8_fault : MI := (yX8_fault, cX8_fault, 1, (some .int), 1)
abbrev mX8_feed : MI := (yX8_feed, cX8_feed, 4, (some .int), 1)
abbrev mX8_film : MI := (yX8_film, cX8_film, 11, (some .int), 3)
abbrev mX8_getsAcross : MI := (yX8_getsAcross, cX8_getsAcross, 4, (some .boolean), 4)
abbrev mX8_haveWay : MI := (yX8_haveWay, cX8_haveWay, 4, (some .int), 1)
abbrev mX8_high : MI := (yX8_high, cX8_high, 2, (some .int), 7)
abbrev mX8_highOf : MI := (yX8_highOf, cX8_highOf, 4, (some .int), 6)
abbrev mX8_in : MI := (yX8_in, cX8_in, 6, (some .boolean), 1)
abbrev mX8_inLowest : MI := (yX8_inLowest, cX8_inLowest, 6, (some .int), 1)
abbrev mX8_init : MI := (yX8_init, cX8_init, 1, none, 1)
abbrev mX8_isBent : MI := (yX8_isBent, cX8_isBent, 6, (some .boolean), 2)
abbrev mX8_isJumper : MI := (yX8_isJumper, cX8_isJumper, 2, (some .boolean), 2)
abbrev mX8_isNear : MI := (yX8_isNear, cX8_isNear, 5, (some .boolean), 4)
abbrev mX8_isNumber : MI := (yX8_isNumber, cX8_isNumber, 1, (some .boolean), 2)
abbrev mX8_isPart : MI := (yX8_isPart, cX8_isPart, 1, (some .boolean), 2)
abbrev mX8_isQuick : MI := (yX8_isQuick, cX8_isQuick, 4, (some .boolean), 2)
abbrev mX8_isTenth : MI := (yX8_isTenth, cX8_isTenth, 3, (some .boolean), 4)
abbrev mX8_isWay : MI := (yX8_isWay, cX8_isWay, 2, (some .boolean), 3)
abbrev mX8_its : MI := (yX8_its, cX8_its, 5, (some .int), 1)
abbrev mX8_jumper : MI := (yX8_jumper, cX8_jumper, 2, (some .int), 3)
abbrev mX8_jumpersBack : MI := (yX8_jumpersBack, cX8_jumpersBack, 2, none, 1)
abbrev mX8_keepJumpers : MI := (yX8_keepJumpers, cX8_keepJumpers, 2, none, 1)
abbrev mX8_landsOn : MI := (yX8_landsOn, cX8_landsOn, 4, (some .int), 2)
abbrev mX8_lay : MI := (yX8_lay, cX8_lay, 4, (some .int), 2)
abbrev mX8_layWorths : MI := (yX8_layWorths, cX8_layWorths, 2, none, 9)
abbrev mX8_lowest : MI := (yX8_lowest, cX8_lowest, 2, (some .int), 7)
abbrev mX8_lowestOf : MI := (yX8_lowestOf, cX8_lowestOf, 7, (some .int), 5)
abbrev mX8_middle : MI := (yX8_middle, cX8_middle, 3, (some .int), 2)
abbrev mX8_nameAt : MI := (yX8_nameAt, cX8_nameAt, 6, (some .int), 2)
abbrev mX8_near : MI := (yX8_near, cX8_near, 4, (some .int), 5)
abbrev mX8_next : MI := (yX8_next, cX8_next, 2, none, 3)
abbrev mX8_number : MI := (yX8_number, cX8_number, 3, (some .int), 2)
abbrev mX8_odd : MI := (yX8_odd, cX8_odd, 5, (some .int), 10)
abbrev mX8_odds : MI := (yX8_odds, cX8_odds, 9, (some .int), 7)
abbrev mX8_of : MI := (yX8_of, cX8_of, 3, (some .int), 4)
abbrev mX8_oneYear : MI := (yX8_oneYear, cX8_oneYear, 2, none, 2)
abbrev mX8_order : MI := (yX8_order, cX8_order, 5, (some .int), 5)
abbrev mX8_overAt : MI := (yX8_overAt, cX8_overAt, 4, (some .int), 4)
abbrev mX8_pays : MI := (yX8_pays, cX8_pays, 8, (some .int), 2)
abbrev mX8_pits : MI := (yX8_pits, cX8_pits, 4, (some .int), 4)
abbrev mX8_place : MI := (yX8_place, cX8_place, 5, (some .int), 5)
abbrev mX8_placeOf : MI := (yX8_placeOf, cX8_placeOf, 7, (some .int), 3)
abbrev mX8_put : MI := (yX8_put, cX8_put, 6, (some .int), 5)
abbrev mX8_readLine : MI := (yX8_readLine, cX8_readLine, 3, none, 4)
abbrev mX8_rule : MI := (yX8_rule, cX8_rule, 2, (some .int), 2)
abbrev mX8_sheet : MI := (yX8_sheet, cX8_sheet, 5, (some .int), 2)
abbrev mX8_size : MI := (yX8_size, cX8_size, 1, (some .int), 1)
abbrev mX8_suits : MI := (yX8_suits, cX8_suits, 5, (some .int), 10)
abbrev mX8_taken : MI := (yX8_taken, cX8_taken, 8, (some .int), 1)
abbrev mX8_takes : MI := (yX8_takes, cX8_takes, 4, (some .int), 3)
abbrev mX8_text : MI := (yX8_text, cX8_text, 3, (some .int), 5)
abbrev mX8_told : MI := (yX8_told, cX8_told, 2, none, 2)
abbrev mX8_torn : MI := (yX8_torn, cX8_torn, 1, (some .int), 1)
abbrev mX8_under : MI := (yX8_under, cX8_under, 6, (some .int), 7)
abbrev mX8_valley : MI := (yX8_valley, cX8_valley, 9, (some .int), 8)
abbrev mX8_way : MI := (yX8_way, cX8_way, 5, (some .int), 3)
abbrev mX8_who : MI := (yX8_who, cX8_who, 2, (some .int), 3)
abbrev mX8_whole : MI := (yX8_whole, cX8_whole, 1, (some .int), 1)
abbrev mX8_worth : MI := (yX8_worth, cX8_worth, 3, (some .int), 9)
abbrev mX8_worthBy : MI := (yX8_worthBy, cX8_worthBy, 6, (some .int), 8)
abbrev mX8_worthOf : MI := (yX8_worthOf, cX8_worthOf, 4, (some .int), 7)
abbrev mX8_worthOrNone : MI := (yX8_worthOrNone, cX8_worthOrNone, 2, (some .int), 8)
abbrev mX8_years : MI := (yX8_years, cX8_years, 4, (some .int), 10)
theorem uw0 : ∀ w ∈ u_ws RX0 TX0 9, w ∈ TB := fun w h => TB_mem ((show ∀ w ∈ u_ws RX0 TX0 9, w ∈ lw_tbl by decide +kernel) w h) (List.all_eq_true.mp (show (u_ws RX0 TX0 9).all goodWord = true by decide +kernel) w h)
theorem uw1 : ∀ w ∈ u_ws RX1 TX1 7, w ∈ TB := fun w h => TB_mem ((show ∀ w ∈ u_ws RX1 TX1 7, w ∈ lw_tbl by decide +kernel) w h) (List.all_eq_true.mp (show (u_ws RX1 TX1 7).all goodWord = true by decide +kernel) w h)
theorem uw2 : ∀ w ∈ u_ws RX2 TX2 4, w ∈ TB := fun w h => TB_mem ((show ∀ w ∈ u_ws RX2 TX2 4, w ∈ lw_tbl by decide +kernel) w h) (List.all_eq_true.mp (show (u_ws RX2 TX2 4).all goodWord = true by decide +kernel) w h)
theorem uw3 : ∀ w ∈ u_ws RX3 TX3 1, w ∈ TB := fun w h => TB_mem ((show ∀ w ∈ u_ws RX3 TX3 1, w ∈ lw_tbl by decide +kernel) w h) (List.all_eq_true.mp (show (u_ws RX3 TX3 1).all goodWord = true by decide +kernel) w h)
theorem uw4 : ∀ w ∈ u_ws RX4 TX4 3, w ∈ TB := fun w h => TB_mem ((show ∀ w ∈ u_ws RX4 TX4 3, w ∈ lw_tbl by decide +kernel) w h) (List.all_eq_true.mp (show (u_ws RX4 TX4 3).all goodWord = true by decide +kernel) w h)
theorem uw5 : ∀ w ∈ u_ws RX5 TX5 2, w ∈ TB := fun w h => TB_mem ((show ∀ w ∈ u_ws RX5 TX5 2, w ∈ lw_tbl by decide +kernel) w h) (List.all_eq_true.mp (show (u_ws RX5 TX5 2).all goodWord = true by decide +kernel) w h)
theorem uw6 : ∀ w ∈ u_ws RX6 TX6 3, w ∈ TB := fun w h => TB_mem ((show ∀ w ∈ u_ws RX6 TX6 3, w ∈ lw_tbl by decide +kernel) w h) (List.all_eq_true.mp (show (u_ws RX6 TX6 3).all goodWord = true by decide +kernel) w h)
theorem uw7 : ∀ w ∈ u_ws RX7 TX7 10, w ∈ TB := fun w h => TB_mem ((show ∀ w ∈ u_ws RX7 TX7 10, w ∈ lw_tbl by decide +kernel) w h) (List.all_eq_true.mp (show (u_ws RX7 TX7 10).all goodWord = true by decide +kernel) w h)
theorem uw8 : ∀ w ∈ u_ws RX8 TX8 30, w ∈ TB := fun w h => TB_mem ((show ∀ w ∈ u_ws RX8 TX8 30, w ∈ lw_tbl by decide +kernel) w h) (List.all_eq_true.mp (show (u_ws RX8 TX8 30).all goodWord = true by decide +kernel) w h)
theorem fl_RX7_10 : FL RX7 10 7 0 := ⟨RX7, TX7, 10, rfl, by decide, TB_mem (mt1 190 rfl) rfl, uw7⟩
theorem fl_RX7_19 : FL RX7 19 7 1 := ⟨RX7, TX7, 10, rfl, by decide, TB_mem (mt1 191 rfl) rfl, uw7⟩
theorem fl_RX7_26 : FL RX7 26 7 2 := ⟨RX7, TX7, 10, rfl, by decide, TB_mem (mt1 192 rfl) rfl, uw7⟩
theorem fl_RX7_32 : FL RX7 32 7 3 := ⟨RX7, TX7, 10, rfl, by decide, TB_mem (mt1 193 rfl) rfl, uw7⟩
theorem fl_RX7_37 : FL RX7 37 7 4 := ⟨RX7, TX7, 10, rfl, by decide, TB_mem (mt1 194 rfl) rfl, uw7⟩
theorem fl_RX7_46 : FL RX7 46 7 5 := ⟨RX7, TX7, 10, rfl, by decide, TB_mem (mt1 195 rfl) rfl, uw7⟩
theorem fl_RX7_50 : FL RX7 50 7 6 := ⟨RX7, TX7, 10, rfl, by decide, TB_mem (mt1 196 rfl) rfl, uw7⟩
theorem fl_RX7_57 : FL RX7 57 7 7 := ⟨RX7, TX7, 10, rfl, by decide, TB_mem (mt1 197 rfl) rfl, uw7⟩
theorem fl_RX7_63 : FL RX7 63 7 8 := ⟨RX7, TX7, 10, rfl, by decide, TB_mem (mt1 198 rfl) rfl, uw7⟩
theorem kv_RX7_68 : LkV RX7 68 mX5_addEight 1 := ⟨⟨TB_mem (mt1 225 rfl) rfl, TB_mem (mt1 2 rfl) rfl, TB_mem (mt1 228 rfl) rfl, by decide, by decide, by decide +kernel⟩, TB_mem (mt1 226 rfl) rfl, TB_mem (mt1 227 rfl) rfl⟩
theorem fl_RX7_72 : FL RX7 72 5 1 := ⟨RX5, TX5, 2, rfl, by decide, TB_mem (mt1 34 rfl) rfl, uw5⟩
theorem fp_RX7_72 : FP RX7 72 5 1 := ⟨RX5, TX5, 2, tyX5, rfl, by decide, TB_mem (mt1 34 rfl) rfl, uw5, tyX5_ok, nmX5, rfl, rfl⟩
theorem ks_RX7_76 : LkS RX7 76 mX7_within 3 := ⟨⟨TB_mem (mt1 233 rfl) rfl, TB_mem (mt1 1 rfl) rfl, TB_mem (mt1 235 rfl) rfl, by decide, by decide, by decide +kernel⟩, TB_mem (mt1 234 rfl) rfl⟩
theorem kv_RX7_80 : LkV RX7 80 mX1_readText 1 := ⟨⟨TB_mem (mt2 0 rfl) rfl, TB_mem (mt1 3 rfl) rfl, TB_mem (mt2 3 rfl) rfl, by decide, by decide, by decide +kernel⟩, TB_mem (mt2 1 rfl) rfl, TB_mem (mt2 2 rfl) rfl⟩
theorem fl_RX7_84 : FL RX7 84 1 3 := ⟨RX1, TX1, 7, rfl, by decide, TB_mem (mt1 54 rfl) rfl, uw1⟩
theorem fp_RX7_84 : FP RX7 84 1 3 := ⟨RX1, TX1, 7, tyX1, rfl, by decide, TB_mem (mt1 54 rfl) rfl, uw1, tyX1_ok, nmX1, rfl, rfl⟩
theorem fl_RX7_87 : FL RX7 87 1 2 := ⟨RX1, TX1, 7, rfl, by decide, TB_mem (mt1 51 rfl) rfl, uw1⟩
theorem fp_RX7_87 : FP RX7 87 1 2 := ⟨RX1, TX1, 7, tyX1, rfl, by decide, TB_mem (mt1 51 rfl) rfl, uw1, tyX1_ok, nmX1, rfl, rfl⟩
theorem fl_RX7_90 : FL RX7 90 1 0 := ⟨RX1, TX1, 7, rfl, by decide, TB_mem (mt1 49 rfl) rfl, uw1⟩
theorem kv_RX7_93 : LkV RX7 93 mX3_setAll 1 := ⟨⟨TB_mem (mt2 86 rfl) rfl, TB_mem (mt1 4 rfl) rfl, TB_mem (mt2 89 rfl) rfl, by decide, by decide, by decide +kernel⟩, TB_mem (mt2 87 rfl) rfl, TB_mem (mt2 88 rfl) rfl⟩
theorem fl_RX7_97 : FL RX7 97 3 0 := ⟨RX3, TX3, 1, rfl, by decide, TB_mem (mt1 86 rfl) rfl, uw3⟩
theorem ks_RX7_100 : LkS RX7 100 mX7_isWayNumber 1 := ⟨⟨TB_mem (mt2 103 rfl) rfl, TB_mem (mt1 1 rfl) rfl, TB_mem (mt2 105 rfl) rfl, by decide, by decide, by decide +kernel⟩, TB_mem (mt2 104 rfl) rfl⟩
theorem ks_RX7_104 : LkS RX7 104 mX6_canHave 2 := ⟨⟨TB_mem (mt2 106 rfl) rfl, TB_mem (mt1 6 rfl) rfl, TB_mem (mt2 108 rfl) rfl, by decide, by decide, by decide +kernel⟩, TB_mem (mt2 107 rfl) rfl⟩
theorem fl_RX7_108 : FL RX7 108 6 1 := ⟨RX6, TX6, 3, rfl, by decide, TB_mem (mt1 103 rfl) rfl, uw6⟩
theorem fp_RX7_108 : FP RX7 108 6 1 := ⟨RX6, TX6, 3, tyX6, rfl, by decide, TB_mem (mt1 103 rfl) rfl, uw6, tyX6_ok, nmX6, rfl, rfl⟩
theorem kv_RX7_111 : LkV RX7 111 mX6_begin 2 := ⟨⟨TB_mem (mt2 110 rfl) rfl, TB_mem (mt1 6 rfl) rfl, TB_mem (mt2 113 rfl) rfl, by decide, by decide, by decide +kernel⟩, TB_mem (mt2 111 rfl) rfl, TB_mem (mt2 112 rfl) rfl⟩
theorem kv_RX7_115 : LkV RX7 115 mX7_isPartOfWay 3 := ⟨⟨TB_mem (mt2 118 rfl) rfl, TB_mem (mt1 1 rfl) rfl, TB_mem (mt2 121 rfl) rfl, by decide, by decide, by decide +kernel⟩, TB_mem (mt2 120 rfl) rfl, TB_mem (mt0 7 rfl) rfl⟩
theorem ks_RX7_118 : LkS RX7 118 mX6_isNumber 1 := ⟨⟨TB_mem (mt2 129 rfl) rfl, TB_mem (mt1 6 rfl) rfl, TB_mem (mt2 131 rfl) rfl, by decide, by decide, by decide +kernel⟩, TB_mem (mt2 130 rfl) rfl⟩
theorem ks_RX7_121 : LkS RX7 121 mX6_spot 2 := ⟨⟨TB_mem (mt2 132 rfl) rfl, TB_mem (mt1 6 rfl) rfl, TB_mem (mt2 134 rfl) rfl, by decide, by decide, by decide +kernel⟩, TB_mem (mt2 133 rfl) rfl⟩
theorem fl_RX7_125 : FL RX7 125 6 0 := ⟨RX6, TX6, 3, rfl, by decide, TB_mem (mt1 100 rfl) rfl, uw6⟩
theorem kv_RX7_128 : LkV RX7 128 mX7_isWay 1 := ⟨⟨TB_mem (mt2 122 rfl) rfl, TB_mem (mt1 1 rfl) rfl, TB_mem (mt2 125 rfl) rfl, by decide, by decide, by decide +kernel⟩, TB_mem (mt2 124 rfl) rfl, TB_mem (mt0 8 rfl) rfl⟩
theorem fl_RX7_131 : FL RX7 131 6 2 := ⟨RX6, TX6, 3, rfl, by decide, TB_mem (mt1 105 rfl) rfl, uw6⟩
theorem fp_RX7_131 : FP RX7 131 6 2 := ⟨RX6, TX6, 3, tyX6, rfl, by decide, TB_mem (mt1 105 rfl) rfl, uw6, tyX6_ok, nmX6, rfl, rfl⟩
theorem kv_RX7_134 : LkV RX7 134 mX6_become 1 := ⟨⟨TB_mem (mt2 147 rfl) rfl, TB_mem (mt1 6 rfl) rfl, TB_mem (mt2 150 rfl) rfl, by decide, by decide, by decide +kernel⟩, TB_mem (mt2 148 rfl) rfl, TB_mem (mt2 149 rfl) rfl⟩
theorem kv_RX7_139 : LkV RX7 139 mX0_placeOf 4 := ⟨⟨TB_mem (mt2 157 rfl) rfl, TB_mem (mt1 7 rfl) rfl, TB_mem (mt2 160 rfl) rfl, by decide, by decide, by decide +kernel⟩, TB_mem (mt2 158 rfl) rfl, TB_mem (mt2 159 rfl) rfl⟩
theorem kv_RX7_143 : LkV RX7 143 mX0_isNear 1 := ⟨⟨TB_mem (mt2 178 rfl) rfl, TB_mem (mt1 7 rfl) rfl, TB_mem (mt2 181 rfl) rfl, by decide, by decide, by decide +kernel⟩, TB_mem (mt2 179 rfl) rfl, TB_mem (mt2 180 rfl) rfl⟩
theorem kv_RX7_146 : LkV RX7 146 mX0_measure 1 := ⟨⟨TB_mem (mt2 189 rfl) rfl, TB_mem (mt1 7 rfl) rfl, TB_mem (mt2 192 rfl) rfl, by decide, by decide, by decide +kernel⟩, TB_mem (mt2 190 rfl) rfl, TB_mem (mt2 191 rfl) rfl⟩
theorem kv_RX7_149 : LkV RX7 149 mX0_clears 1 := ⟨⟨TB_mem (mt2 218 rfl) rfl, TB_mem (mt1 7 rfl) rfl, TB_mem (mt2 221 rfl) rfl, by decide, by decide, by decide +kernel⟩, TB_mem (mt2 219 rfl) rfl, TB_mem (mt2 220 rfl) rfl⟩
theorem kv_RX7_153 : LkV RX7 153 mX0_lowestTenth 1 := ⟨⟨TB_mem (mt3 0 rfl) rfl, TB_mem (mt1 7 rfl) rfl, TB_mem (mt2 229 rfl) rfl, by decide, by decide, by decide +kernel⟩, TB_mem (mt2 227 rfl) rfl, TB_mem (mt2 228 rfl) rfl⟩
theorem fl_RX7_156 : FL RX7 156 0 4 := ⟨RX0, TX0, 9, rfl, by decide, TB_mem (mt1 125 rfl) rfl, uw0⟩
theorem kv_RX7_160 : LkV RX7 160 mX0_greatestMiddle 1 := ⟨⟨TB_mem (mt3 6 rfl) rfl, TB_mem (mt1 7 rfl) rfl, TB_mem (mt3 9 rfl) rfl, by decide, by decide, by decide +kernel⟩, TB_mem (mt3 7 rfl) rfl, TB_mem (mt3 8 rfl) rfl⟩
theorem kv_RX7_163 : LkV RX7 163 mX3_total 0 := ⟨⟨TB_mem (mt3 10 rfl) rfl, TB_mem (mt1 4 rfl) rfl, TB_mem (mt2 168 rfl) rfl, by decide, by decide, by decide +kernel⟩, TB_mem (mt2 166 rfl) rfl, TB_mem (mt2 167 rfl) rfl⟩
theorem kv_RX7_167 : LkV RX7 167 mX0_getsAcross 1 := ⟨⟨TB_mem (mt3 15 rfl) rfl, TB_mem (mt1 7 rfl) rfl, TB_mem (mt2 225 rfl) rfl, by decide, by decide, by decide +kernel⟩, TB_mem (mt2 223 rfl) rfl, TB_mem (mt2 224 rfl) rfl⟩
theorem kv_RX7_171 : LkV RX7 171 mX0_orderOfParts 1 := ⟨⟨TB_mem (mt3 16 rfl) rfl, TB_mem (mt1 7 rfl) rfl, TB_mem (mt3 19 rfl) rfl, by decide, by decide, by decide +kernel⟩, TB_mem (mt3 17 rfl) rfl, TB_mem (mt3 18 rfl) rfl⟩
theorem kv_RX7_174 : LkV RX7 174 mX0_whyBarred 1 := ⟨⟨TB_mem (mt3 29 rfl) rfl, TB_mem (mt1 7 rfl) rfl, TB_mem (mt3 32 rfl) rfl, by decide, by decide, by decide +kernel⟩, TB_mem (mt3 30 rfl) rfl, TB_mem (mt3 31 rfl) rfl⟩
theorem ks_RX7_177 : LkS RX7 177 mX0_pitBears 2 := ⟨⟨TB_mem (mt3 40 rfl) rfl, TB_mem (mt1 7 rfl) rfl, TB_mem (mt3 35 rfl) rfl, by decide, by decide, by decide +kernel⟩, TB_mem (mt3 34 rfl) rfl⟩
theorem kv_RX7_181 : LkV RX7 181 mX6_hasChange 1 := ⟨⟨TB_mem (mt3 45 rfl) rfl, TB_mem (mt1 6 rfl) rfl, TB_mem (mt3 48 rfl) rfl, by decide, by decide, by decide +kernel⟩, TB_mem (mt3 46 rfl) rfl, TB_mem (mt3 47 rfl) rfl⟩
theorem kv_RX7_184 : LkV RX7 184 mX0_value 1 := ⟨⟨TB_mem (mt3 53 rfl) rfl, TB_mem (mt1 7 rfl) rfl, TB_mem (mt3 56 rfl) rfl, by decide, by decide, by decide +kernel⟩, TB_mem (mt3 54 rfl) rfl, TB_mem (mt3 55 rfl) rfl⟩
theorem kv_RX7_187 : LkV RX7 187 mX0_valueWith 2 := ⟨⟨TB_mem (mt3 59 rfl) rfl, TB_mem (mt1 7 rfl) rfl, TB_mem (mt3 62 rfl) rfl, by decide, by decide, by decide +kernel⟩, TB_mem (mt3 60 rfl) rfl, TB_mem (mt3 61 rfl) rfl⟩
theorem kv_RX7_191 : LkV RX7 191 mX0_survey 1 := ⟨⟨TB_mem (mt3 76 rfl) rfl, TB_mem (mt1 7 rfl) rfl, TB_mem (mt3 79 rfl) rfl, by decide, by decide, by decide +kernel⟩, TB_mem (mt3 77 rfl) rfl, TB_mem (mt3 78 rfl) rfl⟩
theorem kv_RX7_194 : LkV RX7 194 mX0_bestChange 0 := ⟨⟨TB_mem (mt3 83 rfl) rfl, TB_mem (mt1 7 rfl) rfl, TB_mem (mt3 86 rfl) rfl, by decide, by decide, by decide +kernel⟩, TB_mem (mt3 84 rfl) rfl, TB_mem (mt3 85 rfl) rfl⟩
theorem kv_RX7_197 : LkV RX7 197 mX6_change 1 := ⟨⟨TB_mem (mt3 91 rfl) rfl, TB_mem (mt1 6 rfl) rfl, TB_mem (mt3 66 rfl) rfl, by decide, by decide, by decide +kernel⟩, TB_mem (mt3 64 rfl) rfl, TB_mem (mt3 65 rfl) rfl⟩
theorem kv_RX7_201 : LkV RX7 201 mX0_changesThatCompare 1 := ⟨⟨TB_mem (mt3 96 rfl) rfl, TB_mem (mt1 7 rfl) rfl, TB_mem (mt3 99 rfl) rfl, by decide, by decide, by decide +kernel⟩, TB_mem (mt3 97 rfl) rfl, TB_mem (mt3 98 rfl) rfl⟩
theorem kv_RX7_205 : LkV RX7 205 mX6_unlikeNumbers 1 := ⟨⟨TB_mem (mt3 107 rfl) rfl, TB_mem (mt1 6 rfl) rfl, TB_mem (mt3 110 rfl) rfl, by decide, by decide, by decide +kernel⟩, TB_mem (mt3 108 rfl) rfl, TB_mem (mt3 109 rfl) rfl⟩
theorem kv_RX7_208 : LkV RX7 208 mX0_leastOnTheWay 2 := ⟨⟨TB_mem (mt3 115 rfl) rfl, TB_mem (mt1 7 rfl) rfl, TB_mem (mt3 118 rfl) rfl, by decide, by decide, by decide +kernel⟩, TB_mem (mt3 116 rfl) rfl, TB_mem (mt3 117 rfl) rfl⟩
theorem kv_RX7_212 : LkV RX7 212 mX7_bestWay 0 := ⟨⟨TB_mem (mt3 124 rfl) rfl, TB_mem (mt1 1 rfl) rfl, TB_mem (mt3 127 rfl) rfl, by decide, by decide, by decide +kernel⟩, TB_mem (mt3 126 rfl) rfl, TB_mem (mt0 15 rfl) rfl⟩
theorem ks_RX7_215 : LkS RX7 215 mX7_isPart 1 := ⟨⟨TB_mem (mt2 126 rfl) rfl, TB_mem (mt1 1 rfl) rfl, TB_mem (mt2 128 rfl) rfl, by decide, by decide, by decide +kernel⟩, TB_mem (mt2 127 rfl) rfl⟩
theorem fw_RX7_218 : Cond.fieldLink RX7 218 RX3 "LEAST" "[I" ∈ TB := TB_mem (mt3 136 rfl) rfl
theorem fw_RX7_221 : Cond.fieldLink RX7 221 RX3 "MOST" "[I" ∈ TB := TB_mem (mt3 137 rfl) rfl
theorem ks_RX7_224 : LkS RX7 224 mJ9_min_7cf53 2 := ⟨⟨TB_mem (mt3 142 rfl) rfl, TB_mem (mt1 15 rfl) rfl, TB_mem (mt2 205 rfl) rfl, by decide, by decide, by decide +kernel⟩, TB_mem (mt2 204 rfl) rfl⟩
theorem kv_RX7_229 : LkV RX7 229 mX2_join 1 := ⟨⟨TB_mem (mt3 147 rfl) rfl, TB_mem (mt1 8 rfl) rfl, TB_mem (mt3 150 rfl) rfl, by decide, by decide, by decide +kernel⟩, TB_mem (mt3 148 rfl) rfl, TB_mem (mt3 149 rfl) rfl⟩
theorem fl_RX7_232 : FL RX7 232 2 3 := ⟨RX2, TX2, 4, rfl, by decide, TB_mem (mt1 162 rfl) rfl, uw2⟩
theorem fp_RX7_232 : FP RX7 232 2 3 := ⟨RX2, TX2, 4, tyX2, rfl, by decide, TB_mem (mt1 162 rfl) rfl, uw2, tyX2_ok, nmX2, rfl, rfl⟩
theorem kv_RX7_235 : LkV RX7 235 mX2_has 1 := ⟨⟨TB_mem (mt3 155 rfl) rfl, TB_mem (mt1 8 rfl) rfl, TB_mem (mt3 158 rfl) rfl, by decide, by decide, by decide +kernel⟩, TB_mem (mt3 156 rfl) rfl, TB_mem (mt3 157 rfl) rfl⟩
theorem fl_RX7_238 : FL RX7 238 2 0 := ⟨RX2, TX2, 4, rfl, by decide, TB_mem (mt1 157 rfl) rfl, uw2⟩
theorem kv_RX7_241 : LkV RX7 241 mX2_begin 0 := ⟨⟨TB_mem (mt3 164 rfl) rfl, TB_mem (mt1 8 rfl) rfl, TB_mem (mt3 167 rfl) rfl, by decide, by decide, by decide +kernel⟩, TB_mem (mt3 165 rfl) rfl, TB_mem (mt3 166 rfl) rfl⟩
theorem kv_RX7_243 : LkV RX7 243 mX7_goYears 1 := ⟨⟨TB_mem (mt3 169 rfl) rfl, TB_mem (mt1 1 rfl) rfl, TB_mem (mt3 172 rfl) rfl, by decide, by decide, by decide +kernel⟩, TB_mem (mt3 171 rfl) rfl, TB_mem (mt0 17 rfl) rfl⟩
theorem kv_RX7_246 : LkV RX7 246 mX2_unlikeHeld 0 := ⟨⟨TB_mem (mt3 187 rfl) rfl, TB_mem (mt1 8 rfl) rfl, TB_mem (mt3 190 rfl) rfl, by decide, by decide, by decide +kernel⟩, TB_mem (mt3 188 rfl) rfl, TB_mem (mt3 189 rfl) rfl⟩
theorem kv_RX7_249 : LkV RX7 249 mX2_keep 0 := ⟨⟨TB_mem (mt3 191 rfl) rfl, TB_mem (mt1 8 rfl) rfl, TB_mem (mt3 194 rfl) rfl, by decide, by decide, by decide +kernel⟩, TB_mem (mt3 192 rfl) rfl, TB_mem (mt3 193 rfl) rfl⟩
theorem kv_RX7_252 : LkV RX7 252 mX2_countIn 2 := ⟨⟨TB_mem (mt3 199 rfl) rfl, TB_mem (mt1 8 rfl) rfl, TB_mem (mt3 202 rfl) rfl, by decide, by decide, by decide +kernel⟩, TB_mem (mt3 200 rfl) rfl, TB_mem (mt3 201 rfl) rfl⟩
theorem kv_RX7_256 : LkV RX7 256 mX7_weighWays 0 := ⟨⟨TB_mem (mt3 128 rfl) rfl, TB_mem (mt1 1 rfl) rfl, TB_mem (mt3 131 rfl) rfl, by decide, by decide, by decide +kernel⟩, TB_mem (mt3 130 rfl) rfl, TB_mem (mt0 16 rfl) rfl⟩
theorem kv_RX7_259 : LkV RX7 259 mX2_isOfOneWay 0 := ⟨⟨TB_mem (mt3 207 rfl) rfl, TB_mem (mt1 8 rfl) rfl, TB_mem (mt3 210 rfl) rfl, by decide, by decide, by decide +kernel⟩, TB_mem (mt3 208 rfl) rfl, TB_mem (mt3 209 rfl) rfl⟩
theorem kv_RX7_263 : LkV RX7 263 mX2_goYear 2 := ⟨⟨TB_mem (mt3 173 rfl) rfl, TB_mem (mt1 8 rfl) rfl, TB_mem (mt3 176 rfl) rfl, by decide, by decide, by decide +kernel⟩, TB_mem (mt3 174 rfl) rfl, TB_mem (mt3 175 rfl) rfl⟩
theorem fl_RX7_267 : FL RX7 267 2 1 := ⟨RX2, TX2, 4, rfl, by decide, TB_mem (mt1 159 rfl) rfl, uw2⟩
theorem ks_RX7_270 : LkS RX7 270 mX7_cube 1 := ⟨⟨TB_mem (mt3 220 rfl) rfl, TB_mem (mt1 1 rfl) rfl, TB_mem (mt3 222 rfl) rfl, by decide, by decide, by decide +kernel⟩, TB_mem (mt3 221 rfl) rfl⟩
theorem ks_RX7_273 : LkS RX7 273 mX7_goodSlips 3 := ⟨⟨TB_mem (mt3 223 rfl) rfl, TB_mem (mt1 1 rfl) rfl, TB_mem (mt3 225 rfl) rfl, by decide, by decide, by decide +kernel⟩, TB_mem (mt3 224 rfl) rfl⟩
theorem ks_RX7_277 : LkS RX7 277 mX7_goodInThree 3 := ⟨⟨TB_mem (mt3 227 rfl) rfl, TB_mem (mt1 1 rfl) rfl, TB_mem (mt3 229 rfl) rfl, by decide, by decide, by decide +kernel⟩, TB_mem (mt3 228 rfl) rfl⟩
theorem ks_RX7_280 : LkS RX7 280 mX7_commonDivisor 2 := ⟨⟨TB_mem (mt3 230 rfl) rfl, TB_mem (mt1 1 rfl) rfl, TB_mem (mt3 232 rfl) rfl, by decide, by decide, by decide +kernel⟩, TB_mem (mt3 231 rfl) rfl⟩
theorem ks_RX7_283 : LkS RX7 283 mX7_dividedDown 2 := ⟨⟨TB_mem (mt3 233 rfl) rfl, TB_mem (mt1 1 rfl) rfl, TB_mem (mt2 232 rfl) rfl, by decide, by decide, by decide +kernel⟩, TB_mem (mt2 231 rfl) rfl⟩
theorem ks_RX7_286 : LkS RX7 286 mX7_isSheet 1 := ⟨⟨TB_mem (mt4 2 rfl) rfl, TB_mem (mt1 1 rfl) rfl, TB_mem (mt4 4 rfl) rfl, by decide, by decide, by decide +kernel⟩, TB_mem (mt4 3 rfl) rfl⟩
theorem ks_RX7_289 : LkS RX7 289 mX4_isLane 1 := ⟨⟨TB_mem (mt4 5 rfl) rfl, TB_mem (mt1 9 rfl) rfl, TB_mem (mt4 7 rfl) rfl, by decide, by decide, by decide +kernel⟩, TB_mem (mt4 6 rfl) rfl⟩
theorem kv_RX7_292 : LkV RX7 292 mX4_begin 2 := ⟨⟨TB_mem (mt4 9 rfl) rfl, TB_mem (mt1 9 rfl) rfl, TB_mem (mt4 12 rfl) rfl, by decide, by decide, by decide +kernel⟩, TB_mem (mt4 10 rfl) rfl, TB_mem (mt4 11 rfl) rfl⟩
theorem kv_RX7_293 : LkV RX7 293 mX4_isNothing 0 := ⟨⟨TB_mem (mt4 17 rfl) rfl, TB_mem (mt1 9 rfl) rfl, TB_mem (mt4 20 rfl) rfl, by decide, by decide, by decide +kernel⟩, TB_mem (mt4 18 rfl) rfl, TB_mem (mt4 19 rfl) rfl⟩
theorem kv_RX7_296 : LkV RX7 296 mX4_hasCell 1 := ⟨⟨TB_mem (mt4 21 rfl) rfl, TB_mem (mt1 9 rfl) rfl, TB_mem (mt4 24 rfl) rfl, by decide, by decide, by decide +kernel⟩, TB_mem (mt4 22 rfl) rfl, TB_mem (mt4 23 rfl) rfl⟩
theorem kv_RX7_299 : LkV RX7 299 mX4_write 2 := ⟨⟨TB_mem (mt4 25 rfl) rfl, TB_mem (mt1 9 rfl) rfl, TB_mem (mt4 28 rfl) rfl, by decide, by decide, by decide +kernel⟩, TB_mem (mt4 26 rfl) rfl, TB_mem (mt4 27 rfl) rfl⟩
theorem kv_RX7_302 : LkV RX7 302 mX4_faultAs 1 := ⟨⟨TB_mem (mt4 33 rfl) rfl, TB_mem (mt1 9 rfl) rfl, TB_mem (mt4 36 rfl) rfl, by decide, by decide, by decide +kernel⟩, TB_mem (mt4 34 rfl) rfl, TB_mem (mt4 35 rfl) rfl⟩
theorem kv_RX7_305 : LkV RX7 305 mX4_readTenth 3 := ⟨⟨TB_mem (mt4 38 rfl) rfl, TB_mem (mt1 9 rfl) rfl, TB_mem (mt4 41 rfl) rfl, by decide, by decide, by decide +kernel⟩, TB_mem (mt4 39 rfl) rfl, TB_mem (mt4 40 rfl) rfl⟩
theorem kv_RX7_309 : LkV RX7 309 mX6_isTenthInBounds 1 := ⟨⟨TB_mem (mt4 43 rfl) rfl, TB_mem (mt1 6 rfl) rfl, TB_mem (mt4 46 rfl) rfl, by decide, by decide, by decide +kernel⟩, TB_mem (mt4 44 rfl) rfl, TB_mem (mt4 45 rfl) rfl⟩
theorem fl_RX7_312 : FL RX7 312 7 9 := ⟨RX7, TX7, 10, rfl, by decide, TB_mem (mt1 199 rfl) rfl, uw7⟩
theorem fp_RX7_312 : FP RX7 312 7 9 := ⟨RX7, TX7, 10, tyX7, rfl, by decide, TB_mem (mt1 199 rfl) rfl, uw7, tyX7_ok, nmX7, rfl, rfl⟩
theorem kv_RX7_315 : LkV RX7 315 mX7_countWays 0 := ⟨⟨TB_mem (mt4 55 rfl) rfl, TB_mem (mt1 1 rfl) rfl, TB_mem (mt4 58 rfl) rfl, by decide, by decide, by decide +kernel⟩, TB_mem (mt4 57 rfl) rfl, TB_mem (mt0 19 rfl) rfl⟩
theorem kv_RX7_318 : LkV RX7 318 mX7_countTenths 0 := ⟨⟨TB_mem (mt4 59 rfl) rfl, TB_mem (mt1 1 rfl) rfl, TB_mem (mt4 62 rfl) rfl, by decide, by decide, by decide +kernel⟩, TB_mem (mt4 61 rfl) rfl, TB_mem (mt0 20 rfl) rfl⟩
theorem kv_RX7_321 : LkV RX7 321 mX2_heldBits 0 := ⟨⟨TB_mem (mt4 63 rfl) rfl, TB_mem (mt1 8 rfl) rfl, TB_mem (mt4 66 rfl) rfl, by decide, by decide, by decide +kernel⟩, TB_mem (mt4 64 rfl) rfl, TB_mem (mt4 65 rfl) rfl⟩
theorem ks_RX7_324 : LkS RX7 324 mJ6_bitCount_0f7a4 1 := ⟨⟨TB_mem (mt4 67 rfl) rfl, TB_mem (mt1 16 rfl) rfl, TB_mem (mt4 69 rfl) rfl, by decide, by decide, by decide +kernel⟩, TB_mem (mt4 68 rfl) rfl⟩
theorem fl_RX7_329 : FL RX7 329 4 1 := ⟨RX4, TX4, 3, rfl, by decide, TB_mem (mt1 181 rfl) rfl, uw4⟩
theorem fp_RX7_329 : FP RX7 329 4 1 := ⟨RX4, TX4, 3, tyX4, rfl, by decide, TB_mem (mt1 181 rfl) rfl, uw4, tyX4_ok, nmX4, rfl, rfl⟩
theorem ks_RX7_332 : LkS RX7 332 mJ9_max_7cf53 2 := ⟨⟨TB_mem (mt3 226 rfl) rfl, TB_mem (mt1 15 rfl) rfl, TB_mem (mt2 208 rfl) rfl, by decide, by decide, by decide +kernel⟩, TB_mem (mt2 207 rfl) rfl⟩
theorem ks_RX7_335 : LkS RX7 335 mJ9_floorDiv_7cf53 2 := ⟨⟨TB_mem (mt2 233 rfl) rfl, TB_mem (mt1 15 rfl) rfl, TB_mem (mt2 235 rfl) rfl, by decide, by decide, by decide +kernel⟩, TB_mem (mt2 234 rfl) rfl⟩
theorem fl_RX0_11 : FL RX0 11 0 1 := ⟨RX0, TX0, 9, rfl, by decide, TB_mem (mt1 121 rfl) rfl, uw0⟩
theorem fl_RX0_17 : FL RX0 17 0 2 := ⟨RX0, TX0, 9, rfl, by decide, TB_mem (mt1 122 rfl) rfl, uw0⟩
theorem fl_RX0_20 : FL RX0 20 0 3 := ⟨RX0, TX0, 9, rfl, by decide, TB_mem (mt1 123 rfl) rfl, uw0⟩
theorem fl_RX0_23 : FL RX0 23 0 4 := ⟨RX0, TX0, 9, rfl, by decide, TB_mem (mt1 124 rfl) rfl, uw0⟩
theorem fl_RX0_26 : FL RX0 26 0 5 := ⟨RX0, TX0, 9, rfl, by decide, TB_mem (mt1 126 rfl) rfl, uw0⟩
theorem fl_RX0_30 : FL RX0 30 0 6 := ⟨RX0, TX0, 9, rfl, by decide, TB_mem (mt1 127 rfl) rfl, uw0⟩
theorem fl_RX0_33 : FL RX0 33 0 8 := ⟨RX0, TX0, 9, rfl, by decide, TB_mem (mt1 129 rfl) rfl, uw0⟩
theorem fl_RX0_36 : FL RX0 36 0 0 := ⟨RX0, TX0, 9, rfl, by decide, TB_mem (mt1 120 rfl) rfl, uw0⟩
theorem kv_RX0_40 : LkV RX0 40 mX0_baseOf 3 := ⟨⟨TB_mem (mt2 161 rfl) rfl, TB_mem (mt1 7 rfl) rfl, TB_mem (mt2 164 rfl) rfl, by decide, by decide, by decide +kernel⟩, TB_mem (mt2 163 rfl) rfl, TB_mem (mt0 9 rfl) rfl⟩
theorem kv_RX0_44 : LkV RX0 44 mX3_total 0 := ⟨⟨TB_mem (mt2 165 rfl) rfl, TB_mem (mt1 4 rfl) rfl, TB_mem (mt2 168 rfl) rfl, by decide, by decide, by decide +kernel⟩, TB_mem (mt2 166 rfl) rfl, TB_mem (mt2 167 rfl) rfl⟩
theorem fl_RX0_50 : FL RX0 50 6 0 := ⟨RX6, TX6, 3, rfl, by decide, TB_mem (mt1 99 rfl) rfl, uw6⟩
theorem ks_RX0_53 : LkS RX0 53 mX6_spot 2 := ⟨⟨TB_mem (mt2 173 rfl) rfl, TB_mem (mt1 6 rfl) rfl, TB_mem (mt2 134 rfl) rfl, by decide, by decide, by decide +kernel⟩, TB_mem (mt2 133 rfl) rfl⟩
theorem kv_RX0_57 : LkV RX0 57 mX3_middleAt 2 := ⟨⟨TB_mem (mt2 169 rfl) rfl, TB_mem (mt1 4 rfl) rfl, TB_mem (mt2 172 rfl) rfl, by decide, by decide, by decide +kernel⟩, TB_mem (mt2 170 rfl) rfl, TB_mem (mt2 171 rfl) rfl⟩
theorem fl_RX0_60 : FL RX0 60 3 0 := ⟨RX3, TX3, 1, rfl, by decide, TB_mem (mt1 85 rfl) rfl, uw3⟩
theorem ks_RX0_63 : LkS RX0 63 mJ9_abs_0f7a4 1 := ⟨⟨TB_mem (mt2 182 rfl) rfl, TB_mem (mt1 15 rfl) rfl, TB_mem (mt2 184 rfl) rfl, by decide, by decide, by decide +kernel⟩, TB_mem (mt2 183 rfl) rfl⟩
theorem fl_RX0_69 : FL RX0 69 6 1 := ⟨RX6, TX6, 3, rfl, by decide, TB_mem (mt1 102 rfl) rfl, uw6⟩
theorem fp_RX0_69 : FP RX0 69 6 1 := ⟨RX6, TX6, 3, tyX6, rfl, by decide, TB_mem (mt1 102 rfl) rfl, uw6, tyX6_ok, nmX6, rfl, rfl⟩
theorem kv_RX0_73 : LkV RX0 73 mX0_measureTenth 2 := ⟨⟨TB_mem (mt2 193 rfl) rfl, TB_mem (mt1 7 rfl) rfl, TB_mem (mt2 196 rfl) rfl, by decide, by decide, by decide +kernel⟩, TB_mem (mt2 195 rfl) rfl, TB_mem (mt0 10 rfl) rfl⟩
theorem kv_RX0_77 : LkV RX0 77 mX0_measurePlaces 2 := ⟨⟨TB_mem (mt2 197 rfl) rfl, TB_mem (mt1 7 rfl) rfl, TB_mem (mt2 200 rfl) rfl, by decide, by decide, by decide +kernel⟩, TB_mem (mt2 199 rfl) rfl, TB_mem (mt0 11 rfl) rfl⟩
theorem kv_RX0_80 : LkV RX0 80 mX0_isBent 2 := ⟨⟨TB_mem (mt2 210 rfl) rfl, TB_mem (mt1 7 rfl) rfl, TB_mem (mt2 213 rfl) rfl, by decide, by decide, by decide +kernel⟩, TB_mem (mt2 212 rfl) rfl, TB_mem (mt0 12 rfl) rfl⟩
theorem kv_RX0_84 : LkV RX0 84 mX0_isHasty 2 := ⟨⟨TB_mem (mt2 214 rfl) rfl, TB_mem (mt1 7 rfl) rfl, TB_mem (mt2 217 rfl) rfl, by decide, by decide, by decide +kernel⟩, TB_mem (mt2 216 rfl) rfl, TB_mem (mt0 13 rfl) rfl⟩
theorem ks_RX0_89 : LkS RX0 89 mJ9_min_7cf53 2 := ⟨⟨TB_mem (mt2 203 rfl) rfl, TB_mem (mt1 15 rfl) rfl, TB_mem (mt2 205 rfl) rfl, by decide, by decide, by decide +kernel⟩, TB_mem (mt2 204 rfl) rfl⟩
theorem ks_RX0_92 : LkS RX0 92 mJ9_max_7cf53 2 := ⟨⟨TB_mem (mt2 206 rfl) rfl, TB_mem (mt1 15 rfl) rfl, TB_mem (mt2 208 rfl) rfl, by decide, by decide, by decide +kernel⟩, TB_mem (mt2 207 rfl) rfl⟩
theorem kv_RX0_95 : LkV RX0 95 mX0_isNear 1 := ⟨⟨TB_mem (mt2 209 rfl) rfl, TB_mem (mt1 7 rfl) rfl, TB_mem (mt2 181 rfl) rfl, by decide, by decide, by decide +kernel⟩, TB_mem (mt2 179 rfl) rfl, TB_mem (mt2 180 rfl) rfl⟩
theorem kv_RX0_99 : LkV RX0 99 mX0_getsAcross 1 := ⟨⟨TB_mem (mt2 222 rfl) rfl, TB_mem (mt1 7 rfl) rfl, TB_mem (mt2 225 rfl) rfl, by decide, by decide, by decide +kernel⟩, TB_mem (mt2 223 rfl) rfl, TB_mem (mt2 224 rfl) rfl⟩
theorem kv_RX0_103 : LkV RX0 103 mX0_lowestTenth 1 := ⟨⟨TB_mem (mt2 226 rfl) rfl, TB_mem (mt1 7 rfl) rfl, TB_mem (mt2 229 rfl) rfl, by decide, by decide, by decide +kernel⟩, TB_mem (mt2 227 rfl) rfl, TB_mem (mt2 228 rfl) rfl⟩
theorem kn_RX0_107 : LkN RX0 107 mX7_dividedDown 2 := ⟨fun _ _ _ h => h.2.2.1.2.2.1, TB_mem (mt1 1 rfl) rfl, TB_mem (mt2 232 rfl) rfl, ⟨by decide, by decide, by decide +kernel⟩, TB_mem (mt2 231 rfl) rfl⟩
theorem kv_RX0_110 : LkV RX0 110 mX0_firstAcross 2 := ⟨⟨TB_mem (mt3 20 rfl) rfl, TB_mem (mt1 7 rfl) rfl, TB_mem (mt3 23 rfl) rfl, by decide, by decide, by decide +kernel⟩, TB_mem (mt3 22 rfl) rfl, TB_mem (mt0 14 rfl) rfl⟩
theorem kv_RX0_114 : LkV RX0 114 mX0_placeOf 4 := ⟨⟨TB_mem (mt3 24 rfl) rfl, TB_mem (mt1 7 rfl) rfl, TB_mem (mt2 160 rfl) rfl, by decide, by decide, by decide +kernel⟩, TB_mem (mt2 158 rfl) rfl, TB_mem (mt2 159 rfl) rfl⟩
theorem fl_RX0_118 : FL RX0 118 6 2 := ⟨RX6, TX6, 3, rfl, by decide, TB_mem (mt1 106 rfl) rfl, uw6⟩
theorem fp_RX0_118 : FP RX0 118 6 2 := ⟨RX6, TX6, 3, tyX6, rfl, by decide, TB_mem (mt1 106 rfl) rfl, uw6, tyX6_ok, nmX6, rfl, rfl⟩
theorem ks_RX0_121 : LkS RX0 121 mX0_pitBears 2 := ⟨⟨TB_mem (mt3 33 rfl) rfl, TB_mem (mt1 7 rfl) rfl, TB_mem (mt3 35 rfl) rfl, by decide, by decide, by decide +kernel⟩, TB_mem (mt3 34 rfl) rfl⟩
theorem kv_RX0_125 : LkV RX0 125 mX0_whyBarred 1 := ⟨⟨TB_mem (mt3 57 rfl) rfl, TB_mem (mt1 7 rfl) rfl, TB_mem (mt3 32 rfl) rfl, by decide, by decide, by decide +kernel⟩, TB_mem (mt3 30 rfl) rfl, TB_mem (mt3 31 rfl) rfl⟩
theorem kv_RX0_128 : LkV RX0 128 mX0_clears 1 := ⟨⟨TB_mem (mt3 58 rfl) rfl, TB_mem (mt1 7 rfl) rfl, TB_mem (mt2 221 rfl) rfl, by decide, by decide, by decide +kernel⟩, TB_mem (mt2 219 rfl) rfl, TB_mem (mt2 220 rfl) rfl⟩
theorem kv_RX0_131 : LkV RX0 131 mX6_change 1 := ⟨⟨TB_mem (mt3 63 rfl) rfl, TB_mem (mt1 6 rfl) rfl, TB_mem (mt3 66 rfl) rfl, by decide, by decide, by decide +kernel⟩, TB_mem (mt3 64 rfl) rfl, TB_mem (mt3 65 rfl) rfl⟩
theorem kv_RX0_135 : LkV RX0 135 mX0_value 1 := ⟨⟨TB_mem (mt3 67 rfl) rfl, TB_mem (mt1 7 rfl) rfl, TB_mem (mt3 56 rfl) rfl, by decide, by decide, by decide +kernel⟩, TB_mem (mt3 54 rfl) rfl, TB_mem (mt3 55 rfl) rfl⟩
theorem kv_RX0_138 : LkV RX0 138 mX6_changeBack 1 := ⟨⟨TB_mem (mt3 68 rfl) rfl, TB_mem (mt1 6 rfl) rfl, TB_mem (mt3 71 rfl) rfl, by decide, by decide, by decide +kernel⟩, TB_mem (mt3 69 rfl) rfl, TB_mem (mt3 70 rfl) rfl⟩
theorem kv_RX0_141 : LkV RX0 141 mX0_measure 1 := ⟨⟨TB_mem (mt3 80 rfl) rfl, TB_mem (mt1 7 rfl) rfl, TB_mem (mt2 192 rfl) rfl, by decide, by decide, by decide +kernel⟩, TB_mem (mt2 190 rfl) rfl, TB_mem (mt2 191 rfl) rfl⟩
theorem fl_RX0_145 : FL RX0 145 0 7 := ⟨RX0, TX0, 9, rfl, by decide, TB_mem (mt1 128 rfl) rfl, uw0⟩
theorem fp_RX0_145 : FP RX0 145 0 7 := ⟨RX0, TX0, 9, tyX0, rfl, by decide, TB_mem (mt1 128 rfl) rfl, uw0, tyX0_ok, nmX0, rfl, rfl⟩
theorem kv_RX0_148 : LkV RX0 148 mX6_hasChange 1 := ⟨⟨TB_mem (mt3 81 rfl) rfl, TB_mem (mt1 6 rfl) rfl, TB_mem (mt3 48 rfl) rfl, by decide, by decide, by decide +kernel⟩, TB_mem (mt3 46 rfl) rfl, TB_mem (mt3 47 rfl) rfl⟩
theorem kv_RX0_151 : LkV RX0 151 mX0_valueWith 2 := ⟨⟨TB_mem (mt3 82 rfl) rfl, TB_mem (mt1 7 rfl) rfl, TB_mem (mt3 62 rfl) rfl, by decide, by decide, by decide +kernel⟩, TB_mem (mt3 60 rfl) rfl, TB_mem (mt3 61 rfl) rfl⟩
theorem ks_RX0_154 : LkS RX0 154 mJ6_compare_7cf53 2 := ⟨⟨TB_mem (mt3 100 rfl) rfl, TB_mem (mt1 16 rfl) rfl, TB_mem (mt3 102 rfl) rfl, by decide, by decide, by decide +kernel⟩, TB_mem (mt3 101 rfl) rfl⟩
theorem kv_RX0_159 : LkV RX0 159 mX6_countNumbers 0 := ⟨⟨TB_mem (mt3 119 rfl) rfl, TB_mem (mt1 6 rfl) rfl, TB_mem (mt3 114 rfl) rfl, by decide, by decide, by decide +kernel⟩, TB_mem (mt3 112 rfl) rfl, TB_mem (mt3 113 rfl) rfl⟩
theorem fl_RX1_11 : FL RX1 11 1 0 := ⟨RX1, TX1, 7, rfl, by decide, TB_mem (mt1 48 rfl) rfl, uw1⟩
theorem fw_RX1_17 : Cond.fieldLink RX1 17 RX3 "USUAL" "[I" ∈ TB := TB_mem (mt2 4 rfl) rfl
theorem kc_RX1_20 : LkC RX1 20 := ⟨TB_mem (mt2 5 rfl) rfl, TB_mem (mt1 83 rfl) rfl, TB_mem (mt1 82 rfl) rfl, TB_mem (mt1 5 rfl) rfl⟩
theorem fl_RX1_26 : FL RX1 26 1 1 := ⟨RX1, TX1, 7, rfl, by decide, TB_mem (mt1 50 rfl) rfl, uw1⟩
theorem fp_RX1_26 : FP RX1 26 1 1 := ⟨RX1, TX1, 7, tyX1, rfl, by decide, TB_mem (mt1 50 rfl) rfl, uw1, tyX1_ok, nmX1, rfl, rfl⟩
theorem fl_RX1_30 : FL RX1 30 1 3 := ⟨RX1, TX1, 7, rfl, by decide, TB_mem (mt1 53 rfl) rfl, uw1⟩
theorem fp_RX1_30 : FP RX1 30 1 3 := ⟨RX1, TX1, 7, tyX1, rfl, by decide, TB_mem (mt1 53 rfl) rfl, uw1, tyX1_ok, nmX1, rfl, rfl⟩
theorem fl_RX1_33 : FL RX1 33 1 4 := ⟨RX1, TX1, 7, rfl, by decide, TB_mem (mt1 55 rfl) rfl, uw1⟩
theorem fp_RX1_33 : FP RX1 33 1 4 := ⟨RX1, TX1, 7, tyX1, rfl, by decide, TB_mem (mt1 55 rfl) rfl, uw1, tyX1_ok, nmX1, rfl, rfl⟩
theorem kv_RX1_38 : LkV RX1 38 mX1_readToken 1 := ⟨⟨TB_mem (mt2 6 rfl) rfl, TB_mem (mt1 3 rfl) rfl, TB_mem (mt2 9 rfl) rfl, by decide, by decide, by decide +kernel⟩, TB_mem (mt2 8 rfl) rfl, TB_mem (mt0 0 rfl) rfl⟩
theorem fl_RX1_42 : FL RX1 42 1 5 := ⟨RX1, TX1, 7, rfl, by decide, TB_mem (mt1 56 rfl) rfl, uw1⟩
theorem fp_RX1_42 : FP RX1 42 1 5 := ⟨RX1, TX1, 7, tyX1, rfl, by decide, TB_mem (mt1 56 rfl) rfl, uw1, tyX1_ok, nmX1, rfl, rfl⟩
theorem kv_RX1_45 : LkV RX1 45 mX1_readLine 1 := ⟨⟨TB_mem (mt2 70 rfl) rfl, TB_mem (mt1 3 rfl) rfl, TB_mem (mt2 73 rfl) rfl, by decide, by decide, by decide +kernel⟩, TB_mem (mt2 72 rfl) rfl, TB_mem (mt0 4 rfl) rfl⟩
theorem kv_RX1_48 : LkV RX1 48 mX1_readSlot 1 := ⟨⟨TB_mem (mt2 74 rfl) rfl, TB_mem (mt1 3 rfl) rfl, TB_mem (mt2 77 rfl) rfl, by decide, by decide, by decide +kernel⟩, TB_mem (mt2 76 rfl) rfl, TB_mem (mt0 5 rfl) rfl⟩
theorem fw_RX1_52 : Cond.fieldLink RX1 52 RX3 "LEAST" "[I" ∈ TB := TB_mem (mt2 82 rfl) rfl
theorem fw_RX1_55 : Cond.fieldLink RX1 55 RX3 "MOST" "[I" ∈ TB := TB_mem (mt2 84 rfl) rfl
theorem kv_RX1_58 : LkV RX1 58 mX1_readNumber 3 := ⟨⟨TB_mem (mt2 78 rfl) rfl, TB_mem (mt1 3 rfl) rfl, TB_mem (mt2 81 rfl) rfl, by decide, by decide, by decide +kernel⟩, TB_mem (mt2 80 rfl) rfl, TB_mem (mt0 6 rfl) rfl⟩
theorem fl_RX1_62 : FL RX1 62 1 6 := ⟨RX1, TX1, 7, rfl, by decide, TB_mem (mt1 57 rfl) rfl, uw1⟩
theorem fp_RX1_62 : FP RX1 62 1 6 := ⟨RX1, TX1, 7, tyX1, rfl, by decide, TB_mem (mt1 57 rfl) rfl, uw1, tyX1_ok, nmX1, rfl, rfl⟩
theorem kn_RX1_65 : LkN RX1 65 mX7_within 3 := ⟨fun _ _ _ h => h.2.2.1.1, TB_mem (mt1 1 rfl) rfl, TB_mem (mt1 235 rfl) rfl, ⟨by decide, by decide, by decide +kernel⟩, TB_mem (mt1 234 rfl) rfl⟩
theorem fl_RX1_69 : FL RX1 69 5 1 := ⟨RX5, TX5, 2, rfl, by decide, TB_mem (mt1 35 rfl) rfl, uw5⟩
theorem fp_RX1_69 : FP RX1 69 5 1 := ⟨RX5, TX5, 2, tyX5, rfl, by decide, TB_mem (mt1 35 rfl) rfl, uw5, tyX5_ok, nmX5, rfl, rfl⟩
theorem fl_RX1_72 : FL RX1 72 5 0 := ⟨RX5, TX5, 2, rfl, by decide, TB_mem (mt1 32 rfl) rfl, uw5⟩
theorem fl_RX1_75 : FL RX1 75 1 2 := ⟨RX1, TX1, 7, rfl, by decide, TB_mem (mt1 52 rfl) rfl, uw1⟩
theorem fp_RX1_75 : FP RX1 75 1 2 := ⟨RX1, TX1, 7, tyX1, rfl, by decide, TB_mem (mt1 52 rfl) rfl, uw1, tyX1_ok, nmX1, rfl, rfl⟩
theorem ks_RX1_78 : LkS RX1 78 mX1_isLetter 1 := ⟨⟨TB_mem (mt2 10 rfl) rfl, TB_mem (mt1 3 rfl) rfl, TB_mem (mt2 12 rfl) rfl, by decide, by decide, by decide +kernel⟩, TB_mem (mt2 11 rfl) rfl⟩
theorem kv_RX1_82 : LkV RX1 82 mX1_takeName 1 := ⟨⟨TB_mem (mt2 14 rfl) rfl, TB_mem (mt1 3 rfl) rfl, TB_mem (mt2 17 rfl) rfl, by decide, by decide, by decide +kernel⟩, TB_mem (mt2 16 rfl) rfl, TB_mem (mt0 1 rfl) rfl⟩
theorem ks_RX1_85 : LkS RX1 85 mX1_isFigure 1 := ⟨⟨TB_mem (mt2 63 rfl) rfl, TB_mem (mt1 3 rfl) rfl, TB_mem (mt2 65 rfl) rfl, by decide, by decide, by decide +kernel⟩, TB_mem (mt2 64 rfl) rfl⟩
theorem kv_RX1_88 : LkV RX1 88 mX1_takeNumber 1 := ⟨⟨TB_mem (mt2 66 rfl) rfl, TB_mem (mt1 3 rfl) rfl, TB_mem (mt2 69 rfl) rfl, by decide, by decide, by decide +kernel⟩, TB_mem (mt2 68 rfl) rfl, TB_mem (mt0 3 rfl) rfl⟩
theorem kv_RX1_91 : LkV RX1 91 mX1_isName 2 := ⟨⟨TB_mem (mt2 18 rfl) rfl, TB_mem (mt1 3 rfl) rfl, TB_mem (mt2 21 rfl) rfl, by decide, by decide, by decide +kernel⟩, TB_mem (mt2 20 rfl) rfl, TB_mem (mt0 2 rfl) rfl⟩
theorem kv_RX1_97 : LkV RX1 97 mJ0_charAt_5068e 1 := ⟨⟨TB_mem (mt2 23 rfl) rfl, TB_mem (mt1 11 rfl) rfl, TB_mem (mt2 26 rfl) rfl, by decide, by decide, by decide +kernel⟩, TB_mem (mt2 24 rfl) rfl, TB_mem (mt2 25 rfl) rfl⟩
theorem fl_RX2_11 : FL RX2 11 2 0 := ⟨RX2, TX2, 4, rfl, by decide, TB_mem (mt1 156 rfl) rfl, uw2⟩
theorem fl_RX2_15 : FL RX2 15 2 1 := ⟨RX2, TX2, 4, rfl, by decide, TB_mem (mt1 158 rfl) rfl, uw2⟩
theorem fl_RX2_18 : FL RX2 18 2 2 := ⟨RX2, TX2, 4, rfl, by decide, TB_mem (mt1 160 rfl) rfl, uw2⟩
theorem fl_RX2_21 : FL RX2 21 2 3 := ⟨RX2, TX2, 4, rfl, by decide, TB_mem (mt1 161 rfl) rfl, uw2⟩
theorem fp_RX2_21 : FP RX2 21 2 3 := ⟨RX2, TX2, 4, tyX2, rfl, by decide, TB_mem (mt1 161 rfl) rfl, uw2, tyX2_ok, nmX2, rfl, rfl⟩
theorem kn_RX2_25 : LkN RX2 25 mX7_within 3 := ⟨fun _ _ _ h => h.2.2.1.2.2.2.1, TB_mem (mt1 1 rfl) rfl, TB_mem (mt1 235 rfl) rfl, ⟨by decide, by decide, by decide +kernel⟩, TB_mem (mt1 234 rfl) rfl⟩
theorem kc_RX2_29 : LkC RX2 29 := ⟨TB_mem (mt3 168 rfl) rfl, TB_mem (mt1 83 rfl) rfl, TB_mem (mt1 82 rfl) rfl, TB_mem (mt1 5 rfl) rfl⟩
theorem fl_RX2_35 : FL RX2 35 3 0 := ⟨RX3, TX3, 1, rfl, by decide, TB_mem (mt1 87 rfl) rfl, uw3⟩
theorem kv_RX2_40 : LkV RX2 40 mX2_seenBits 2 := ⟨⟨TB_mem (mt3 177 rfl) rfl, TB_mem (mt1 8 rfl) rfl, TB_mem (mt3 180 rfl) rfl, by decide, by decide, by decide +kernel⟩, TB_mem (mt3 179 rfl) rfl, TB_mem (mt0 18 rfl) rfl⟩
theorem ks_RX2_44 : LkS RX2 44 mX2_choice 4 := ⟨⟨TB_mem (mt3 184 rfl) rfl, TB_mem (mt1 8 rfl) rfl, TB_mem (mt3 186 rfl) rfl, by decide, by decide, by decide +kernel⟩, TB_mem (mt3 185 rfl) rfl⟩
theorem ks_RX2_48 : LkS RX2 48 mJ9_floorMod_7cf53 2 := ⟨⟨TB_mem (mt3 181 rfl) rfl, TB_mem (mt1 15 rfl) rfl, TB_mem (mt3 183 rfl) rfl, by decide, by decide, by decide +kernel⟩, TB_mem (mt3 182 rfl) rfl⟩
theorem kv_RX2_53 : LkV RX2 53 mX2_countIn 2 := ⟨⟨TB_mem (mt3 211 rfl) rfl, TB_mem (mt1 8 rfl) rfl, TB_mem (mt3 202 rfl) rfl, by decide, by decide, by decide +kernel⟩, TB_mem (mt3 200 rfl) rfl, TB_mem (mt3 201 rfl) rfl⟩
theorem fl_RX3_11 : FL RX3 11 3 0 := ⟨RX3, TX3, 1, rfl, by decide, TB_mem (mt1 84 rfl) rfl, uw3⟩
theorem fw_RX3_15 : Cond.fieldLink RX3 15 RX3 "USUAL" "[I" ∈ TB := TB_mem (mt1 79 rfl) rfl
theorem kc_RX3_18 : LkC RX3 18 := ⟨TB_mem (mt1 81 rfl) rfl, TB_mem (mt1 83 rfl) rfl, TB_mem (mt1 82 rfl) rfl, TB_mem (mt1 5 rfl) rfl⟩
theorem fl_RX4_9 : FL RX4 9 4 0 := ⟨RX4, TX4, 3, rfl, by decide, TB_mem (mt1 179 rfl) rfl, uw4⟩
theorem fp_RX4_9 : FP RX4 9 4 0 := ⟨RX4, TX4, 3, tyX4, rfl, by decide, TB_mem (mt1 179 rfl) rfl, uw4, tyX4_ok, nmX4, rfl, rfl⟩
theorem fl_RX4_13 : FL RX4 13 4 2 := ⟨RX4, TX4, 3, rfl, by decide, TB_mem (mt1 182 rfl) rfl, uw4⟩
theorem kn_RX4_17 : LkN RX4 17 mX7_within 3 := ⟨fun _ _ _ h => h.2.2.1.2.2.2.2, TB_mem (mt1 1 rfl) rfl, TB_mem (mt1 235 rfl) rfl, ⟨by decide, by decide, by decide +kernel⟩, TB_mem (mt1 234 rfl) rfl⟩
theorem fl_RX4_23 : FL RX4 23 4 1 := ⟨RX4, TX4, 3, rfl, by decide, TB_mem (mt1 180 rfl) rfl, uw4⟩
theorem fp_RX4_23 : FP RX4 23 4 1 := ⟨RX4, TX4, 3, tyX4, rfl, by decide, TB_mem (mt1 180 rfl) rfl, uw4, tyX4_ok, nmX4, rfl, rfl⟩
theorem kv_RX4_26 : LkV RX4 26 mX4_isNothing 0 := ⟨⟨TB_mem (mt4 37 rfl) rfl, TB_mem (mt1 9 rfl) rfl, TB_mem (mt4 20 rfl) rfl, by decide, by decide, by decide +kernel⟩, TB_mem (mt4 18 rfl) rfl, TB_mem (mt4 19 rfl) rfl⟩
theorem kv_RX4_30 : LkV RX4 30 mX4_hasCell 1 := ⟨⟨TB_mem (mt4 42 rfl) rfl, TB_mem (mt1 9 rfl) rfl, TB_mem (mt4 24 rfl) rfl, by decide, by decide, by decide +kernel⟩, TB_mem (mt4 22 rfl) rfl, TB_mem (mt4 23 rfl) rfl⟩
theorem fl_RX5_9 : FL RX5 9 5 0 := ⟨RX5, TX5, 2, rfl, by decide, TB_mem (mt1 31 rfl) rfl, uw5⟩
theorem fl_RX5_13 : FL RX5 13 5 1 := ⟨RX5, TX5, 2, rfl, by decide, TB_mem (mt1 33 rfl) rfl, uw5⟩
theorem fp_RX5_13 : FP RX5 13 5 1 := ⟨RX5, TX5, 2, tyX5, rfl, by decide, TB_mem (mt1 33 rfl) rfl, uw5, tyX5_ok, nmX5, rfl, rfl⟩
theorem fl_RX6_11 : FL RX6 11 6 0 := ⟨RX6, TX6, 3, rfl, by decide, TB_mem (mt1 98 rfl) rfl, uw6⟩
theorem kn_RX6_15 : LkN RX6 15 mX7_within 3 := ⟨fun _ _ _ h => h.2.2.1.2.1, TB_mem (mt1 1 rfl) rfl, TB_mem (mt1 235 rfl) rfl, ⟨by decide, by decide, by decide +kernel⟩, TB_mem (mt1 234 rfl) rfl⟩
theorem fl_RX6_19 : FL RX6 19 6 1 := ⟨RX6, TX6, 3, rfl, by decide, TB_mem (mt1 101 rfl) rfl, uw6⟩
theorem fp_RX6_19 : FP RX6 19 6 1 := ⟨RX6, TX6, 3, tyX6, rfl, by decide, TB_mem (mt1 101 rfl) rfl, uw6, tyX6_ok, nmX6, rfl, rfl⟩
theorem fl_RX6_23 : FL RX6 23 6 2 := ⟨RX6, TX6, 3, rfl, by decide, TB_mem (mt1 104 rfl) rfl, uw6⟩
theorem fp_RX6_23 : FP RX6 23 6 2 := ⟨RX6, TX6, 3, tyX6, rfl, by decide, TB_mem (mt1 104 rfl) rfl, uw6, tyX6_ok, nmX6, rfl, rfl⟩
theorem kc_RX6_26 : LkC RX6 26 := ⟨TB_mem (mt2 151 rfl) rfl, TB_mem (mt1 83 rfl) rfl, TB_mem (mt1 82 rfl) rfl, TB_mem (mt1 5 rfl) rfl⟩
theorem ks_RX6_32 : LkS RX6 32 mX6_isNumber 1 := ⟨⟨TB_mem (mt3 52 rfl) rfl, TB_mem (mt1 6 rfl) rfl, TB_mem (mt2 131 rfl) rfl, by decide, by decide, by decide +kernel⟩, TB_mem (mt2 130 rfl) rfl⟩
theorem kv_RX6_36 : LkV RX6 36 mX6_countNumbers 0 := ⟨⟨TB_mem (mt3 111 rfl) rfl, TB_mem (mt1 6 rfl) rfl, TB_mem (mt3 114 rfl) rfl, by decide, by decide, by decide +kernel⟩, TB_mem (mt3 112 rfl) rfl, TB_mem (mt3 113 rfl) rfl⟩
theorem ks_RX6_40 : LkS RX6 40 mX6_step 1 := ⟨⟨TB_mem (mt3 49 rfl) rfl, TB_mem (mt1 6 rfl) rfl, TB_mem (mt3 51 rfl) rfl, by decide, by decide, by decide +kernel⟩, TB_mem (mt3 50 rfl) rfl⟩
theorem kv_RL_15 : LkV RL 15 mX7_feed 1 := ⟨⟨TB_mem (mt1 221 rfl) rfl, TB_mem (mt1 1 rfl) rfl, TB_mem (mt1 224 rfl) rfl, by decide, by decide, by decide +kernel⟩, TB_mem (mt1 222 rfl) rfl, TB_mem (mt1 223 rfl) rfl⟩
theorem kv_RL_19 : LkV RL 19 mX8_feed 1 := ⟨⟨TB_mem (mt4 170 rfl) rfl, TB_mem (mt1 10 rfl) rfl, TB_mem (mt4 173 rfl) rfl, by decide, by decide, by decide +kernel⟩, TB_mem (mt4 171 rfl) rfl, TB_mem (mt4 172 rfl) rfl⟩
theorem kv_RL_20 : LkV RL 20 mX7_end 1 := ⟨⟨TB_mem (mt1 229 rfl) rfl, TB_mem (mt1 1 rfl) rfl, TB_mem (mt1 232 rfl) rfl, by decide, by decide, by decide +kernel⟩, TB_mem (mt1 230 rfl) rfl, TB_mem (mt1 231 rfl) rfl⟩
theorem kv_RL_24 : LkV RL 24 mX8_end 1 := ⟨⟨TB_mem (mt4 174 rfl) rfl, TB_mem (mt1 10 rfl) rfl, TB_mem (mt4 177 rfl) rfl, by decide, by decide, by decide +kernel⟩, TB_mem (mt4 175 rfl) rfl, TB_mem (mt4 176 rfl) rfl⟩
theorem kv_RL_25 : LkV RL 25 mX7_text 0 := ⟨⟨TB_mem (mt1 236 rfl) rfl, TB_mem (mt1 1 rfl) rfl, TB_mem (mt1 239 rfl) rfl, by decide, by decide, by decide +kernel⟩, TB_mem (mt1 237 rfl) rfl, TB_mem (mt1 238 rfl) rfl⟩
theorem kv_RL_29 : LkV RL 29 mX8_text 0 := ⟨⟨TB_mem (mt4 181 rfl) rfl, TB_mem (mt1 10 rfl) rfl, TB_mem (mt4 184 rfl) rfl, by decide, by decide, by decide +kernel⟩, TB_mem (mt4 182 rfl) rfl, TB_mem (mt4 183 rfl) rfl⟩
theorem kv_RL_30 : LkV RL 30 mX7_fault 0 := ⟨⟨TB_mem (mt2 91 rfl) rfl, TB_mem (mt1 1 rfl) rfl, TB_mem (mt2 94 rfl) rfl, by decide, by decide, by decide +kernel⟩, TB_mem (mt2 92 rfl) rfl, TB_mem (mt2 93 rfl) rfl⟩
theorem kv_RL_33 : LkV RL 33 mX8_fault 0 := ⟨⟨TB_mem (mt4 217 rfl) rfl, TB_mem (mt1 10 rfl) rfl, TB_mem (mt4 220 rfl) rfl, by decide, by decide, by decide +kernel⟩, TB_mem (mt4 218 rfl) rfl, TB_mem (mt4 219 rfl) rfl⟩
theorem kv_RL_34 : LkV RL 34 mX7_rule 1 := ⟨⟨TB_mem (mt2 95 rfl) rfl, TB_mem (mt1 1 rfl) rfl, TB_mem (mt2 98 rfl) rfl, by decide, by decide, by decide +kernel⟩, TB_mem (mt2 96 rfl) rfl, TB_mem (mt2 97 rfl) rfl⟩
theorem kv_RL_37 : LkV RL 37 mX8_rule 1 := ⟨⟨TB_mem (mt4 221 rfl) rfl, TB_mem (mt1 10 rfl) rfl, TB_mem (mt4 224 rfl) rfl, by decide, by decide, by decide +kernel⟩, TB_mem (mt4 222 rfl) rfl, TB_mem (mt4 223 rfl) rfl⟩
theorem kv_RL_38 : LkV RL 38 mX7_way 3 := ⟨⟨TB_mem (mt2 99 rfl) rfl, TB_mem (mt1 1 rfl) rfl, TB_mem (mt2 102 rfl) rfl, by decide, by decide, by decide +kernel⟩, TB_mem (mt2 100 rfl) rfl, TB_mem (mt2 101 rfl) rfl⟩
theorem kv_RL_42 : LkV RL 42 mX8_way 3 := ⟨⟨TB_mem (mt4 226 rfl) rfl, TB_mem (mt1 10 rfl) rfl, TB_mem (mt4 229 rfl) rfl, by decide, by decide, by decide +kernel⟩, TB_mem (mt4 227 rfl) rfl, TB_mem (mt4 228 rfl) rfl⟩
theorem kv_RL_43 : LkV RL 43 mX7_put 5 := ⟨⟨TB_mem (mt2 114 rfl) rfl, TB_mem (mt1 1 rfl) rfl, TB_mem (mt2 117 rfl) rfl, by decide, by decide, by decide +kernel⟩, TB_mem (mt2 115 rfl) rfl, TB_mem (mt2 116 rfl) rfl⟩
theorem kv_RL_47 : LkV RL 47 mX8_put 5 := ⟨⟨TB_mem (mt5 0 rfl) rfl, TB_mem (mt1 10 rfl) rfl, TB_mem (mt5 3 rfl) rfl, by decide, by decide, by decide +kernel⟩, TB_mem (mt5 1 rfl) rfl, TB_mem (mt5 2 rfl) rfl⟩
theorem kv_RL_48 : LkV RL 48 mX7_at 4 := ⟨⟨TB_mem (mt2 135 rfl) rfl, TB_mem (mt1 1 rfl) rfl, TB_mem (mt2 138 rfl) rfl, by decide, by decide, by decide +kernel⟩, TB_mem (mt2 136 rfl) rfl, TB_mem (mt2 137 rfl) rfl⟩
theorem kv_RL_52 : LkV RL 52 mX8_at 4 := ⟨⟨TB_mem (mt5 18 rfl) rfl, TB_mem (mt1 10 rfl) rfl, TB_mem (mt5 21 rfl) rfl, by decide, by decide, by decide +kernel⟩, TB_mem (mt5 19 rfl) rfl, TB_mem (mt5 20 rfl) rfl⟩
theorem kv_RL_53 : LkV RL 53 mX7_of 2 := ⟨⟨TB_mem (mt2 139 rfl) rfl, TB_mem (mt1 1 rfl) rfl, TB_mem (mt2 142 rfl) rfl, by decide, by decide, by decide +kernel⟩, TB_mem (mt2 140 rfl) rfl, TB_mem (mt2 141 rfl) rfl⟩
theorem kv_RL_57 : LkV RL 57 mX8_of 2 := ⟨⟨TB_mem (mt5 26 rfl) rfl, TB_mem (mt1 10 rfl) rfl, TB_mem (mt5 29 rfl) rfl, by decide, by decide, by decide +kernel⟩, TB_mem (mt5 27 rfl) rfl, TB_mem (mt5 28 rfl) rfl⟩
theorem kv_RL_58 : LkV RL 58 mX7_copy 2 := ⟨⟨TB_mem (mt2 143 rfl) rfl, TB_mem (mt1 1 rfl) rfl, TB_mem (mt2 146 rfl) rfl, by decide, by decide, by decide +kernel⟩, TB_mem (mt2 144 rfl) rfl, TB_mem (mt2 145 rfl) rfl⟩
theorem kv_RL_61 : LkV RL 61 mX8_copy 2 := ⟨⟨TB_mem (mt5 30 rfl) rfl, TB_mem (mt1 10 rfl) rfl, TB_mem (mt5 33 rfl) rfl, by decide, by decide, by decide +kernel⟩, TB_mem (mt5 31 rfl) rfl, TB_mem (mt5 32 rfl) rfl⟩
theorem kv_RL_62 : LkV RL 62 mX7_place 4 := ⟨⟨TB_mem (mt2 152 rfl) rfl, TB_mem (mt1 1 rfl) rfl, TB_mem (mt2 155 rfl) rfl, by decide, by decide, by decide +kernel⟩, TB_mem (mt2 153 rfl) rfl, TB_mem (mt2 154 rfl) rfl⟩
theorem kv_RL_65 : LkV RL 65 mX8_place 4 := ⟨⟨TB_mem (mt5 34 rfl) rfl, TB_mem (mt1 10 rfl) rfl, TB_mem (mt5 37 rfl) rfl, by decide, by decide, by decide +kernel⟩, TB_mem (mt5 35 rfl) rfl, TB_mem (mt5 36 rfl) rfl⟩
theorem kv_RL_66 : LkV RL 66 mX7_near 3 := ⟨⟨TB_mem (mt2 174 rfl) rfl, TB_mem (mt1 1 rfl) rfl, TB_mem (mt2 177 rfl) rfl, by decide, by decide, by decide +kernel⟩, TB_mem (mt2 175 rfl) rfl, TB_mem (mt2 176 rfl) rfl⟩
theorem kv_RL_69 : LkV RL 69 mX8_near 3 := ⟨⟨TB_mem (mt5 51 rfl) rfl, TB_mem (mt1 10 rfl) rfl, TB_mem (mt5 54 rfl) rfl, by decide, by decide, by decide +kernel⟩, TB_mem (mt5 52 rfl) rfl, TB_mem (mt5 53 rfl) rfl⟩
theorem kv_RL_70 : LkV RL 70 mX7_high 1 := ⟨⟨TB_mem (mt2 185 rfl) rfl, TB_mem (mt1 1 rfl) rfl, TB_mem (mt2 188 rfl) rfl, by decide, by decide, by decide +kernel⟩, TB_mem (mt2 186 rfl) rfl, TB_mem (mt2 187 rfl) rfl⟩
theorem kv_RL_73 : LkV RL 73 mX8_high 1 := ⟨⟨TB_mem (mt5 59 rfl) rfl, TB_mem (mt1 10 rfl) rfl, TB_mem (mt5 62 rfl) rfl, by decide, by decide, by decide +kernel⟩, TB_mem (mt5 60 rfl) rfl, TB_mem (mt5 61 rfl) rfl⟩
theorem kv_RL_74 : LkV RL 74 mX7_lowest 1 := ⟨⟨TB_mem (mt2 236 rfl) rfl, TB_mem (mt1 1 rfl) rfl, TB_mem (mt2 239 rfl) rfl, by decide, by decide, by decide +kernel⟩, TB_mem (mt2 237 rfl) rfl, TB_mem (mt2 238 rfl) rfl⟩
theorem kv_RL_77 : LkV RL 77 mX8_lowest 1 := ⟨⟨TB_mem (mt5 75 rfl) rfl, TB_mem (mt1 10 rfl) rfl, TB_mem (mt5 78 rfl) rfl, by decide, by decide, by decide +kernel⟩, TB_mem (mt5 76 rfl) rfl, TB_mem (mt5 77 rfl) rfl⟩
theorem kv_RL_78 : LkV RL 78 mX7_under 1 := ⟨⟨TB_mem (mt3 1 rfl) rfl, TB_mem (mt1 1 rfl) rfl, TB_mem (mt3 4 rfl) rfl, by decide, by decide, by decide +kernel⟩, TB_mem (mt3 2 rfl) rfl, TB_mem (mt3 3 rfl) rfl⟩
theorem kv_RL_81 : LkV RL 81 mX8_under 1 := ⟨⟨TB_mem (mt5 79 rfl) rfl, TB_mem (mt1 10 rfl) rfl, TB_mem (mt5 82 rfl) rfl, by decide, by decide, by decide +kernel⟩, TB_mem (mt5 80 rfl) rfl, TB_mem (mt5 81 rfl) rfl⟩
theorem kv_RL_82 : LkV RL 82 mX7_order 1 := ⟨⟨TB_mem (mt3 11 rfl) rfl, TB_mem (mt1 1 rfl) rfl, TB_mem (mt3 14 rfl) rfl, by decide, by decide, by decide +kernel⟩, TB_mem (mt3 12 rfl) rfl, TB_mem (mt3 13 rfl) rfl⟩
theorem kv_RL_85 : LkV RL 85 mX8_order 1 := ⟨⟨TB_mem (mt5 84 rfl) rfl, TB_mem (mt1 10 rfl) rfl, TB_mem (mt5 87 rfl) rfl, by decide, by decide, by decide +kernel⟩, TB_mem (mt5 85 rfl) rfl, TB_mem (mt5 86 rfl) rfl⟩
theorem kv_RL_86 : LkV RL 86 mX7_barred 1 := ⟨⟨TB_mem (mt3 25 rfl) rfl, TB_mem (mt1 1 rfl) rfl, TB_mem (mt3 28 rfl) rfl, by decide, by decide, by decide +kernel⟩, TB_mem (mt3 26 rfl) rfl, TB_mem (mt3 27 rfl) rfl⟩
theorem kv_RL_89 : LkV RL 89 mX8_barred 1 := ⟨⟨TB_mem (mt5 92 rfl) rfl, TB_mem (mt1 10 rfl) rfl, TB_mem (mt5 95 rfl) rfl, by decide, by decide, by decide +kernel⟩, TB_mem (mt5 93 rfl) rfl, TB_mem (mt5 94 rfl) rfl⟩
theorem kv_RL_90 : LkV RL 90 mX7_pits 1 := ⟨⟨TB_mem (mt3 36 rfl) rfl, TB_mem (mt1 1 rfl) rfl, TB_mem (mt3 39 rfl) rfl, by decide, by decide, by decide +kernel⟩, TB_mem (mt3 37 rfl) rfl, TB_mem (mt3 38 rfl) rfl⟩
theorem kv_RL_93 : LkV RL 93 mX8_pits 1 := ⟨⟨TB_mem (mt5 118 rfl) rfl, TB_mem (mt1 10 rfl) rfl, TB_mem (mt5 121 rfl) rfl, by decide, by decide, by decide +kernel⟩, TB_mem (mt5 119 rfl) rfl, TB_mem (mt5 120 rfl) rfl⟩
theorem kv_RL_94 : LkV RL 94 mX7_worth 2 := ⟨⟨TB_mem (mt3 41 rfl) rfl, TB_mem (mt1 1 rfl) rfl, TB_mem (mt3 44 rfl) rfl, by decide, by decide, by decide +kernel⟩, TB_mem (mt3 42 rfl) rfl, TB_mem (mt3 43 rfl) rfl⟩
theorem kv_RL_97 : LkV RL 97 mX8_worth 2 := ⟨⟨TB_mem (mt5 122 rfl) rfl, TB_mem (mt1 10 rfl) rfl, TB_mem (mt5 125 rfl) rfl, by decide, by decide, by decide +kernel⟩, TB_mem (mt5 123 rfl) rfl, TB_mem (mt5 124 rfl) rfl⟩
theorem kv_RL_98 : LkV RL 98 mX7_better 1 := ⟨⟨TB_mem (mt3 72 rfl) rfl, TB_mem (mt1 1 rfl) rfl, TB_mem (mt3 75 rfl) rfl, by decide, by decide, by decide +kernel⟩, TB_mem (mt3 73 rfl) rfl, TB_mem (mt3 74 rfl) rfl⟩
theorem kv_RL_101 : LkV RL 101 mX8_better 1 := ⟨⟨TB_mem (mt5 140 rfl) rfl, TB_mem (mt1 10 rfl) rfl, TB_mem (mt5 143 rfl) rfl, by decide, by decide, by decide +kernel⟩, TB_mem (mt5 141 rfl) rfl, TB_mem (mt5 142 rfl) rfl⟩
theorem kv_RL_102 : LkV RL 102 mX7_climb 2 := ⟨⟨TB_mem (mt3 87 rfl) rfl, TB_mem (mt1 1 rfl) rfl, TB_mem (mt3 90 rfl) rfl, by decide, by decide, by decide +kernel⟩, TB_mem (mt3 88 rfl) rfl, TB_mem (mt3 89 rfl) rfl⟩
theorem kv_RL_105 : LkV RL 105 mX8_climb 2 := ⟨⟨TB_mem (mt5 148 rfl) rfl, TB_mem (mt1 10 rfl) rfl, TB_mem (mt5 151 rfl) rfl, by decide, by decide, by decide +kernel⟩, TB_mem (mt5 149 rfl) rfl, TB_mem (mt5 150 rfl) rfl⟩
theorem kv_RL_106 : LkV RL 106 mX7_around 2 := ⟨⟨TB_mem (mt3 92 rfl) rfl, TB_mem (mt1 1 rfl) rfl, TB_mem (mt3 95 rfl) rfl, by decide, by decide, by decide +kernel⟩, TB_mem (mt3 93 rfl) rfl, TB_mem (mt3 94 rfl) rfl⟩
theorem kv_RL_109 : LkV RL 109 mX8_around 2 := ⟨⟨TB_mem (mt5 153 rfl) rfl, TB_mem (mt1 10 rfl) rfl, TB_mem (mt5 156 rfl) rfl, by decide, by decide, by decide +kernel⟩, TB_mem (mt5 154 rfl) rfl, TB_mem (mt5 155 rfl) rfl⟩
theorem kv_RL_110 : LkV RL 110 mX7_valley 3 := ⟨⟨TB_mem (mt3 103 rfl) rfl, TB_mem (mt1 1 rfl) rfl, TB_mem (mt3 106 rfl) rfl, by decide, by decide, by decide +kernel⟩, TB_mem (mt3 104 rfl) rfl, TB_mem (mt3 105 rfl) rfl⟩
theorem kv_RL_113 : LkV RL 113 mX8_valley 3 := ⟨⟨TB_mem (mt5 157 rfl) rfl, TB_mem (mt1 10 rfl) rfl, TB_mem (mt5 160 rfl) rfl, by decide, by decide, by decide +kernel⟩, TB_mem (mt5 158 rfl) rfl, TB_mem (mt5 159 rfl) rfl⟩
theorem kv_RL_114 : LkV RL 114 mX7_best 1 := ⟨⟨TB_mem (mt3 120 rfl) rfl, TB_mem (mt1 1 rfl) rfl, TB_mem (mt3 123 rfl) rfl, by decide, by decide, by decide +kernel⟩, TB_mem (mt3 121 rfl) rfl, TB_mem (mt3 122 rfl) rfl⟩
theorem kv_RL_117 : LkV RL 117 mX8_best 1 := ⟨⟨TB_mem (mt5 161 rfl) rfl, TB_mem (mt1 10 rfl) rfl, TB_mem (mt5 164 rfl) rfl, by decide, by decide, by decide +kernel⟩, TB_mem (mt5 162 rfl) rfl, TB_mem (mt5 163 rfl) rfl⟩
theorem kv_RL_118 : LkV RL 118 mX7_suits 2 := ⟨⟨TB_mem (mt3 132 rfl) rfl, TB_mem (mt1 1 rfl) rfl, TB_mem (mt3 135 rfl) rfl, by decide, by decide, by decide +kernel⟩, TB_mem (mt3 133 rfl) rfl, TB_mem (mt3 134 rfl) rfl⟩
theorem kv_RL_121 : LkV RL 121 mX8_suits 2 := ⟨⟨TB_mem (mt5 173 rfl) rfl, TB_mem (mt1 10 rfl) rfl, TB_mem (mt5 176 rfl) rfl, by decide, by decide, by decide +kernel⟩, TB_mem (mt5 174 rfl) rfl, TB_mem (mt5 175 rfl) rfl⟩
theorem kv_RL_122 : LkV RL 122 mX7_pays 4 := ⟨⟨TB_mem (mt3 138 rfl) rfl, TB_mem (mt1 1 rfl) rfl, TB_mem (mt3 141 rfl) rfl, by decide, by decide, by decide +kernel⟩, TB_mem (mt3 139 rfl) rfl, TB_mem (mt3 140 rfl) rfl⟩
theorem kv_RL_125 : LkV RL 125 mX8_pays 4 := ⟨⟨TB_mem (mt5 178 rfl) rfl, TB_mem (mt1 10 rfl) rfl, TB_mem (mt5 181 rfl) rfl, by decide, by decide, by decide +kernel⟩, TB_mem (mt5 179 rfl) rfl, TB_mem (mt5 180 rfl) rfl⟩
theorem kv_RL_126 : LkV RL 126 mX7_jumper 1 := ⟨⟨TB_mem (mt3 143 rfl) rfl, TB_mem (mt1 1 rfl) rfl, TB_mem (mt3 146 rfl) rfl, by decide, by decide, by decide +kernel⟩, TB_mem (mt3 144 rfl) rfl, TB_mem (mt3 145 rfl) rfl⟩
theorem kv_RL_129 : LkV RL 129 mX8_jumper 1 := ⟨⟨TB_mem (mt5 184 rfl) rfl, TB_mem (mt1 10 rfl) rfl, TB_mem (mt5 187 rfl) rfl, by decide, by decide, by decide +kernel⟩, TB_mem (mt5 185 rfl) rfl, TB_mem (mt5 186 rfl) rfl⟩
theorem kv_RL_130 : LkV RL 130 mX7_takes 2 := ⟨⟨TB_mem (mt3 151 rfl) rfl, TB_mem (mt1 1 rfl) rfl, TB_mem (mt3 154 rfl) rfl, by decide, by decide, by decide +kernel⟩, TB_mem (mt3 152 rfl) rfl, TB_mem (mt3 153 rfl) rfl⟩
theorem kv_RL_133 : LkV RL 133 mX8_takes 2 := ⟨⟨TB_mem (mt5 188 rfl) rfl, TB_mem (mt1 10 rfl) rfl, TB_mem (mt5 191 rfl) rfl, by decide, by decide, by decide +kernel⟩, TB_mem (mt5 189 rfl) rfl, TB_mem (mt5 190 rfl) rfl⟩
theorem kv_RL_134 : LkV RL 134 mX7_years 1 := ⟨⟨TB_mem (mt3 160 rfl) rfl, TB_mem (mt1 1 rfl) rfl, TB_mem (mt3 163 rfl) rfl, by decide, by decide, by decide +kernel⟩, TB_mem (mt3 161 rfl) rfl, TB_mem (mt3 162 rfl) rfl⟩
theorem kv_RL_137 : LkV RL 137 mX8_years 1 := ⟨⟨TB_mem (mt5 196 rfl) rfl, TB_mem (mt1 10 rfl) rfl, TB_mem (mt5 199 rfl) rfl, by decide, by decide, by decide +kernel⟩, TB_mem (mt5 197 rfl) rfl, TB_mem (mt5 198 rfl) rfl⟩
theorem kv_RL_138 : LkV RL 138 mX7_who 1 := ⟨⟨TB_mem (mt3 195 rfl) rfl, TB_mem (mt1 1 rfl) rfl, TB_mem (mt3 198 rfl) rfl, by decide, by decide, by decide +kernel⟩, TB_mem (mt3 196 rfl) rfl, TB_mem (mt3 197 rfl) rfl⟩
theorem kv_RL_141 : LkV RL 141 mX8_who 1 := ⟨⟨TB_mem (mt5 216 rfl) rfl, TB_mem (mt1 10 rfl) rfl, TB_mem (mt5 219 rfl) rfl, by decide, by decide, by decide +kernel⟩, TB_mem (mt5 217 rfl) rfl, TB_mem (mt5 218 rfl) rfl⟩
theorem kv_RL_142 : LkV RL 142 mX7_all 0 := ⟨⟨TB_mem (mt3 203 rfl) rfl, TB_mem (mt1 1 rfl) rfl, TB_mem (mt3 206 rfl) rfl, by decide, by decide, by decide +kernel⟩, TB_mem (mt3 204 rfl) rfl, TB_mem (mt3 205 rfl) rfl⟩
theorem kv_RL_145 : LkV RL 145 mX8_all 0 := ⟨⟨TB_mem (mt5 224 rfl) rfl, TB_mem (mt1 10 rfl) rfl, TB_mem (mt5 227 rfl) rfl, by decide, by decide, by decide +kernel⟩, TB_mem (mt5 225 rfl) rfl, TB_mem (mt5 226 rfl) rfl⟩
theorem kv_RL_146 : LkV RL 146 mX7_odd 3 := ⟨⟨TB_mem (mt3 212 rfl) rfl, TB_mem (mt1 1 rfl) rfl, TB_mem (mt3 215 rfl) rfl, by decide, by decide, by decide +kernel⟩, TB_mem (mt3 213 rfl) rfl, TB_mem (mt3 214 rfl) rfl⟩
theorem kv_RL_149 : LkV RL 149 mX8_odd 3 := ⟨⟨TB_mem (mt5 232 rfl) rfl, TB_mem (mt1 10 rfl) rfl, TB_mem (mt5 235 rfl) rfl, by decide, by decide, by decide +kernel⟩, TB_mem (mt5 233 rfl) rfl, TB_mem (mt5 234 rfl) rfl⟩
theorem kv_RL_150 : LkV RL 150 mX7_odds 5 := ⟨⟨TB_mem (mt3 216 rfl) rfl, TB_mem (mt1 1 rfl) rfl, TB_mem (mt3 219 rfl) rfl, by decide, by decide, by decide +kernel⟩, TB_mem (mt3 217 rfl) rfl, TB_mem (mt3 218 rfl) rfl⟩
theorem kv_RL_153 : LkV RL 153 mX8_odds 5 := ⟨⟨TB_mem (mt5 236 rfl) rfl, TB_mem (mt1 10 rfl) rfl, TB_mem (mt5 239 rfl) rfl, by decide, by decide, by decide +kernel⟩, TB_mem (mt5 237 rfl) rfl, TB_mem (mt5 238 rfl) rfl⟩
theorem kv_RL_154 : LkV RL 154 mX7_asks 4 := ⟨⟨TB_mem (mt3 234 rfl) rfl, TB_mem (mt1 1 rfl) rfl, TB_mem (mt3 237 rfl) rfl, by decide, by decide, by decide +kernel⟩, TB_mem (mt3 235 rfl) rfl, TB_mem (mt3 236 rfl) rfl⟩
theorem kv_RL_157 : LkV RL 157 mX8_asks 4 := ⟨⟨TB_mem (mt6 6 rfl) rfl, TB_mem (mt1 10 rfl) rfl, TB_mem (mt6 9 rfl) rfl, by decide, by decide, by decide +kernel⟩, TB_mem (mt6 7 rfl) rfl, TB_mem (mt6 8 rfl) rfl⟩
theorem kv_RL_158 : LkV RL 158 mX7_sheet 3 := ⟨⟨TB_mem (mt3 238 rfl) rfl, TB_mem (mt1 1 rfl) rfl, TB_mem (mt4 1 rfl) rfl, by decide, by decide, by decide +kernel⟩, TB_mem (mt3 239 rfl) rfl, TB_mem (mt4 0 rfl) rfl⟩
theorem kv_RL_161 : LkV RL 161 mX8_sheet 3 := ⟨⟨TB_mem (mt6 10 rfl) rfl, TB_mem (mt1 10 rfl) rfl, TB_mem (mt6 13 rfl) rfl, by decide, by decide, by decide +kernel⟩, TB_mem (mt6 11 rfl) rfl, TB_mem (mt6 12 rfl) rfl⟩
theorem kv_RL_162 : LkV RL 162 mX7_lay 3 := ⟨⟨TB_mem (mt4 13 rfl) rfl, TB_mem (mt1 1 rfl) rfl, TB_mem (mt4 16 rfl) rfl, by decide, by decide, by decide +kernel⟩, TB_mem (mt4 14 rfl) rfl, TB_mem (mt4 15 rfl) rfl⟩
theorem kv_RL_165 : LkV RL 165 mX8_lay 3 := ⟨⟨TB_mem (mt6 14 rfl) rfl, TB_mem (mt1 10 rfl) rfl, TB_mem (mt6 17 rfl) rfl, by decide, by decide, by decide +kernel⟩, TB_mem (mt6 15 rfl) rfl, TB_mem (mt6 16 rfl) rfl⟩
theorem kv_RL_166 : LkV RL 166 mX7_film 6 := ⟨⟨TB_mem (mt4 29 rfl) rfl, TB_mem (mt1 1 rfl) rfl, TB_mem (mt4 32 rfl) rfl, by decide, by decide, by decide +kernel⟩, TB_mem (mt4 30 rfl) rfl, TB_mem (mt4 31 rfl) rfl⟩
theorem kv_RL_170 : LkV RL 170 mX8_film 6 := ⟨⟨TB_mem (mt6 18 rfl) rfl, TB_mem (mt1 10 rfl) rfl, TB_mem (mt6 21 rfl) rfl, by decide, by decide, by decide +kernel⟩, TB_mem (mt6 19 rfl) rfl, TB_mem (mt6 20 rfl) rfl⟩
theorem kv_RL_171 : LkV RL 171 mX7_torn 0 := ⟨⟨TB_mem (mt4 47 rfl) rfl, TB_mem (mt1 1 rfl) rfl, TB_mem (mt4 50 rfl) rfl, by decide, by decide, by decide +kernel⟩, TB_mem (mt4 48 rfl) rfl, TB_mem (mt4 49 rfl) rfl⟩
theorem kv_RL_174 : LkV RL 174 mX8_torn 0 := ⟨⟨TB_mem (mt6 22 rfl) rfl, TB_mem (mt1 10 rfl) rfl, TB_mem (mt6 25 rfl) rfl, by decide, by decide, by decide +kernel⟩, TB_mem (mt6 23 rfl) rfl, TB_mem (mt6 24 rfl) rfl⟩
theorem kv_RL_175 : LkV RL 175 mX7_count 1 := ⟨⟨TB_mem (mt4 51 rfl) rfl, TB_mem (mt1 1 rfl) rfl, TB_mem (mt4 54 rfl) rfl, by decide, by decide, by decide +kernel⟩, TB_mem (mt4 52 rfl) rfl, TB_mem (mt4 53 rfl) rfl⟩
theorem kv_RL_178 : LkV RL 178 mX8_count 1 := ⟨⟨TB_mem (mt6 26 rfl) rfl, TB_mem (mt1 10 rfl) rfl, TB_mem (mt6 29 rfl) rfl, by decide, by decide, by decide +kernel⟩, TB_mem (mt6 27 rfl) rfl, TB_mem (mt6 28 rfl) rfl⟩
theorem fl_RX8_7 : FL RX8 7 8 0 := ⟨RX8, TX8, 30, rfl, by decide, TB_mem (mt4 79 rfl) rfl, uw8⟩
theorem fl_RX8_13 : FL RX8 13 8 9 := ⟨RX8, TX8, 30, rfl, by decide, TB_mem (mt4 88 rfl) rfl, uw8⟩
theorem fl_RX8_16 : FL RX8 16 8 10 := ⟨RX8, TX8, 30, rfl, by decide, TB_mem (mt4 89 rfl) rfl, uw8⟩
theorem fl_RX8_19 : FL RX8 19 8 11 := ⟨RX8, TX8, 30, rfl, by decide, TB_mem (mt4 90 rfl) rfl, uw8⟩
theorem fl_RX8_22 : FL RX8 22 8 12 := ⟨RX8, TX8, 30, rfl, by decide, TB_mem (mt4 91 rfl) rfl, uw8⟩
theorem fl_RX8_25 : FL RX8 25 8 13 := ⟨RX8, TX8, 30, rfl, by decide, TB_mem (mt4 92 rfl) rfl, uw8⟩
theorem fl_RX8_28 : FL RX8 28 8 14 := ⟨RX8, TX8, 30, rfl, by decide, TB_mem (mt4 93 rfl) rfl, uw8⟩
theorem fl_RX8_31 : FL RX8 31 8 15 := ⟨RX8, TX8, 30, rfl, by decide, TB_mem (mt4 94 rfl) rfl, uw8⟩
theorem fl_RX8_34 : FL RX8 34 8 17 := ⟨RX8, TX8, 30, rfl, by decide, TB_mem (mt4 96 rfl) rfl, uw8⟩
theorem fl_RX8_37 : FL RX8 37 8 18 := ⟨RX8, TX8, 30, rfl, by decide, TB_mem (mt4 97 rfl) rfl, uw8⟩
theorem fl_RX8_40 : FL RX8 40 8 19 := ⟨RX8, TX8, 30, rfl, by decide, TB_mem (mt4 98 rfl) rfl, uw8⟩
theorem fl_RX8_43 : FL RX8 43 8 20 := ⟨RX8, TX8, 30, rfl, by decide, TB_mem (mt4 99 rfl) rfl, uw8⟩
theorem fl_RX8_46 : FL RX8 46 8 21 := ⟨RX8, TX8, 30, rfl, by decide, TB_mem (mt4 100 rfl) rfl, uw8⟩
theorem fl_RX8_49 : FL RX8 49 8 23 := ⟨RX8, TX8, 30, rfl, by decide, TB_mem (mt4 102 rfl) rfl, uw8⟩
theorem fl_RX8_52 : FL RX8 52 8 24 := ⟨RX8, TX8, 30, rfl, by decide, TB_mem (mt4 103 rfl) rfl, uw8⟩
theorem fl_RX8_55 : FL RX8 55 8 25 := ⟨RX8, TX8, 30, rfl, by decide, TB_mem (mt4 104 rfl) rfl, uw8⟩
theorem fl_RX8_58 : FL RX8 58 8 26 := ⟨RX8, TX8, 30, rfl, by decide, TB_mem (mt4 105 rfl) rfl, uw8⟩
theorem fl_RX8_61 : FL RX8 61 8 27 := ⟨RX8, TX8, 30, rfl, by decide, TB_mem (mt4 106 rfl) rfl, uw8⟩
theorem fl_RX8_64 : FL RX8 64 8 28 := ⟨RX8, TX8, 30, rfl, by decide, TB_mem (mt4 107 rfl) rfl, uw8⟩
theorem fl_RX8_67 : FL RX8 67 8 1 := ⟨RX8, TX8, 30, rfl, by decide, TB_mem (mt4 80 rfl) rfl, uw8⟩
theorem fp_RX8_67 : FP RX8 67 8 1 := ⟨RX8, TX8, 30, tyX8, rfl, by decide, TB_mem (mt4 80 rfl) rfl, uw8, tyX8_ok, nmX8, rfl, rfl⟩
theorem ks_RX8_71 : LkS RX8 71 mX8_in 3 := ⟨⟨TB_mem (mt4 178 rfl) rfl, TB_mem (mt1 10 rfl) rfl, TB_mem (mt4 180 rfl) rfl, by decide, by decide, by decide +kernel⟩, TB_mem (mt4 179 rfl) rfl⟩
theorem fl_RX8_75 : FL RX8 75 8 3 := ⟨RX8, TX8, 30, rfl, by decide, TB_mem (mt4 82 rfl) rfl, uw8⟩
theorem fp_RX8_75 : FP RX8 75 8 3 := ⟨RX8, TX8, 30, tyX8, rfl, by decide, TB_mem (mt4 82 rfl) rfl, uw8, tyX8_ok, nmX8, rfl, rfl⟩
theorem fl_RX8_78 : FL RX8 78 8 6 := ⟨RX8, TX8, 30, rfl, by decide, TB_mem (mt4 85 rfl) rfl, uw8⟩
theorem fp_RX8_78 : FP RX8 78 8 6 := ⟨RX8, TX8, 30, tyX8, rfl, by decide, TB_mem (mt4 85 rfl) rfl, uw8, tyX8_ok, nmX8, rfl, rfl⟩
theorem fl_RX8_81 : FL RX8 81 8 4 := ⟨RX8, TX8, 30, rfl, by decide, TB_mem (mt4 83 rfl) rfl, uw8⟩
theorem fp_RX8_81 : FP RX8 81 8 4 := ⟨RX8, TX8, 30, tyX8, rfl, by decide, TB_mem (mt4 83 rfl) rfl, uw8, tyX8_ok, nmX8, rfl, rfl⟩
theorem kv_RX8_84 : LkV RX8 84 mX8_byteAt 1 := ⟨⟨TB_mem (mt4 189 rfl) rfl, TB_mem (mt1 10 rfl) rfl, TB_mem (mt4 192 rfl) rfl, by decide, by decide, by decide +kernel⟩, TB_mem (mt4 191 rfl) rfl, TB_mem (mt0 22 rfl) rfl⟩
theorem fl_RX8_88 : FL RX8 88 8 5 := ⟨RX8, TX8, 30, rfl, by decide, TB_mem (mt4 84 rfl) rfl, uw8⟩
theorem fp_RX8_88 : FP RX8 88 8 5 := ⟨RX8, TX8, 30, tyX8, rfl, by decide, TB_mem (mt4 84 rfl) rfl, uw8, tyX8_ok, nmX8, rfl, rfl⟩
theorem fl_RX8_91 : FL RX8 91 8 8 := ⟨RX8, TX8, 30, rfl, by decide, TB_mem (mt4 87 rfl) rfl, uw8⟩
theorem fp_RX8_91 : FP RX8 91 8 8 := ⟨RX8, TX8, 30, tyX8, rfl, by decide, TB_mem (mt4 87 rfl) rfl, uw8, tyX8_ok, nmX8, rfl, rfl⟩
theorem fl_RX8_94 : FL RX8 94 8 7 := ⟨RX8, TX8, 30, rfl, by decide, TB_mem (mt4 86 rfl) rfl, uw8⟩
theorem fp_RX8_94 : FP RX8 94 8 7 := ⟨RX8, TX8, 30, tyX8, rfl, by decide, TB_mem (mt4 86 rfl) rfl, uw8, tyX8_ok, nmX8, rfl, rfl⟩
theorem kv_RX8_101 : LkV RX8 101 mX8_nameAt 2 := ⟨⟨TB_mem (mt4 195 rfl) rfl, TB_mem (mt1 10 rfl) rfl, TB_mem (mt4 198 rfl) rfl, by decide, by decide, by decide +kernel⟩, TB_mem (mt4 197 rfl) rfl, TB_mem (mt0 23 rfl) rfl⟩
theorem kv_RX8_105 : LkV RX8 105 mX8_fails 1 := ⟨⟨TB_mem (mt4 199 rfl) rfl, TB_mem (mt1 10 rfl) rfl, TB_mem (mt4 202 rfl) rfl, by decide, by decide, by decide +kernel⟩, TB_mem (mt4 201 rfl) rfl, TB_mem (mt0 24 rfl) rfl⟩
theorem fl_RX8_113 : FL RX8 113 8 16 := ⟨RX8, TX8, 30, rfl, by decide, TB_mem (mt4 95 rfl) rfl, uw8⟩
theorem fp_RX8_113 : FP RX8 113 8 16 := ⟨RX8, TX8, 30, tyX8, rfl, by decide, TB_mem (mt4 95 rfl) rfl, uw8, tyX8_ok, nmX8, rfl, rfl⟩
theorem kv_RX8_116 : LkV RX8 116 mX8_told 1 := ⟨⟨TB_mem (mt4 209 rfl) rfl, TB_mem (mt1 10 rfl) rfl, TB_mem (mt4 212 rfl) rfl, by decide, by decide, by decide +kernel⟩, TB_mem (mt4 211 rfl) rfl, TB_mem (mt0 26 rfl) rfl⟩
theorem kv_RX8_119 : LkV RX8 119 mX8_next 0 := ⟨⟨TB_mem (mt4 185 rfl) rfl, TB_mem (mt1 10 rfl) rfl, TB_mem (mt4 188 rfl) rfl, by decide, by decide, by decide +kernel⟩, TB_mem (mt4 187 rfl) rfl, TB_mem (mt0 21 rfl) rfl⟩
theorem kv_RX8_122 : LkV RX8 122 mX8_number 2 := ⟨⟨TB_mem (mt4 213 rfl) rfl, TB_mem (mt1 10 rfl) rfl, TB_mem (mt4 216 rfl) rfl, by decide, by decide, by decide +kernel⟩, TB_mem (mt4 215 rfl) rfl, TB_mem (mt0 27 rfl) rfl⟩
theorem kv_RX8_125 : LkV RX8 125 mX8_readLine 0 := ⟨⟨TB_mem (mt4 205 rfl) rfl, TB_mem (mt1 10 rfl) rfl, TB_mem (mt4 208 rfl) rfl, by decide, by decide, by decide +kernel⟩, TB_mem (mt4 207 rfl) rfl, TB_mem (mt0 25 rfl) rfl⟩
theorem fl_RX8_128 : FL RX8 128 8 2 := ⟨RX8, TX8, 30, rfl, by decide, TB_mem (mt4 81 rfl) rfl, uw8⟩
theorem fp_RX8_128 : FP RX8 128 8 2 := ⟨RX8, TX8, 30, tyX8, rfl, by decide, TB_mem (mt4 81 rfl) rfl, uw8, tyX8_ok, nmX8, rfl, rfl⟩
theorem ks_RX8_135 : LkS RX8 135 mX8_isNumber 1 := ⟨⟨TB_mem (mt4 230 rfl) rfl, TB_mem (mt1 10 rfl) rfl, TB_mem (mt4 232 rfl) rfl, by decide, by decide, by decide +kernel⟩, TB_mem (mt4 231 rfl) rfl⟩
theorem kv_RX8_139 : LkV RX8 139 mX8_isWay 1 := ⟨⟨TB_mem (mt5 8 rfl) rfl, TB_mem (mt1 10 rfl) rfl, TB_mem (mt5 11 rfl) rfl, by decide, by decide, by decide +kernel⟩, TB_mem (mt5 10 rfl) rfl, TB_mem (mt0 30 rfl) rfl⟩
theorem kv_RX8_148 : LkV RX8 148 mX8_clear 1 := ⟨⟨TB_mem (mt4 236 rfl) rfl, TB_mem (mt1 10 rfl) rfl, TB_mem (mt4 239 rfl) rfl, by decide, by decide, by decide +kernel⟩, TB_mem (mt4 238 rfl) rfl, TB_mem (mt0 28 rfl) rfl⟩
theorem kv_RX8_151 : LkV RX8 151 mX8_isTenth 2 := ⟨⟨TB_mem (mt5 4 rfl) rfl, TB_mem (mt1 10 rfl) rfl, TB_mem (mt5 7 rfl) rfl, by decide, by decide, by decide +kernel⟩, TB_mem (mt5 6 rfl) rfl, TB_mem (mt0 29 rfl) rfl⟩
theorem ks_RX8_155 : LkS RX8 155 mX8_isPart 1 := ⟨⟨TB_mem (mt5 12 rfl) rfl, TB_mem (mt1 10 rfl) rfl, TB_mem (mt5 14 rfl) rfl, by decide, by decide, by decide +kernel⟩, TB_mem (mt5 13 rfl) rfl⟩
theorem kv_RX8_162 : LkV RX8 162 mX8_its 4 := ⟨⟨TB_mem (mt5 22 rfl) rfl, TB_mem (mt1 10 rfl) rfl, TB_mem (mt5 25 rfl) rfl, by decide, by decide, by decide +kernel⟩, TB_mem (mt5 24 rfl) rfl, TB_mem (mt0 31 rfl) rfl⟩
theorem kv_RX8_166 : LkV RX8 166 mX8_whole 0 := ⟨⟨TB_mem (mt5 46 rfl) rfl, TB_mem (mt1 10 rfl) rfl, TB_mem (mt5 49 rfl) rfl, by decide, by decide, by decide +kernel⟩, TB_mem (mt5 48 rfl) rfl, TB_mem (mt0 34 rfl) rfl⟩
theorem kv_RX8_170 : LkV RX8 170 mX8_middle 2 := ⟨⟨TB_mem (mt5 42 rfl) rfl, TB_mem (mt1 10 rfl) rfl, TB_mem (mt5 45 rfl) rfl, by decide, by decide, by decide +kernel⟩, TB_mem (mt5 44 rfl) rfl, TB_mem (mt0 33 rfl) rfl⟩
theorem kv_RX8_173 : LkV RX8 173 mX8_placeOf 4 := ⟨⟨TB_mem (mt5 38 rfl) rfl, TB_mem (mt1 10 rfl) rfl, TB_mem (mt5 41 rfl) rfl, by decide, by decide, by decide +kernel⟩, TB_mem (mt5 40 rfl) rfl, TB_mem (mt0 32 rfl) rfl⟩
theorem kv_RX8_177 : LkV RX8 177 mX8_isNear 3 := ⟨⟨TB_mem (mt5 55 rfl) rfl, TB_mem (mt1 10 rfl) rfl, TB_mem (mt5 58 rfl) rfl, by decide, by decide, by decide +kernel⟩, TB_mem (mt5 57 rfl) rfl, TB_mem (mt0 35 rfl) rfl⟩
theorem kv_RX8_181 : LkV RX8 181 mX8_getsAcross 1 := ⟨⟨TB_mem (mt5 67 rfl) rfl, TB_mem (mt1 10 rfl) rfl, TB_mem (mt5 70 rfl) rfl, by decide, by decide, by decide +kernel⟩, TB_mem (mt5 69 rfl) rfl, TB_mem (mt0 37 rfl) rfl⟩
theorem kv_RX8_184 : LkV RX8 184 mX8_lowestOf 1 := ⟨⟨TB_mem (mt5 71 rfl) rfl, TB_mem (mt1 10 rfl) rfl, TB_mem (mt5 74 rfl) rfl, by decide, by decide, by decide +kernel⟩, TB_mem (mt5 73 rfl) rfl, TB_mem (mt0 38 rfl) rfl⟩
theorem kv_RX8_187 : LkV RX8 187 mX8_highOf 1 := ⟨⟨TB_mem (mt5 63 rfl) rfl, TB_mem (mt1 10 rfl) rfl, TB_mem (mt5 66 rfl) rfl, by decide, by decide, by decide +kernel⟩, TB_mem (mt5 65 rfl) rfl, TB_mem (mt0 36 rfl) rfl⟩
theorem kv_RX8_191 : LkV RX8 191 mX8_overAt 2 := ⟨⟨TB_mem (mt5 88 rfl) rfl, TB_mem (mt1 10 rfl) rfl, TB_mem (mt5 91 rfl) rfl, by decide, by decide, by decide +kernel⟩, TB_mem (mt5 90 rfl) rfl, TB_mem (mt0 39 rfl) rfl⟩
theorem ks_RX8_194 : LkS RX8 194 mX8_size 1 := ⟨⟨TB_mem (mt5 104 rfl) rfl, TB_mem (mt1 10 rfl) rfl, TB_mem (mt5 106 rfl) rfl, by decide, by decide, by decide +kernel⟩, TB_mem (mt5 105 rfl) rfl⟩
theorem kv_RX8_197 : LkV RX8 197 mX8_isBent 1 := ⟨⟨TB_mem (mt5 100 rfl) rfl, TB_mem (mt1 10 rfl) rfl, TB_mem (mt5 103 rfl) rfl, by decide, by decide, by decide +kernel⟩, TB_mem (mt5 102 rfl) rfl, TB_mem (mt0 41 rfl) rfl⟩
theorem kv_RX8_200 : LkV RX8 200 mX8_isQuick 1 := ⟨⟨TB_mem (mt5 107 rfl) rfl, TB_mem (mt1 10 rfl) rfl, TB_mem (mt5 110 rfl) rfl, by decide, by decide, by decide +kernel⟩, TB_mem (mt5 109 rfl) rfl, TB_mem (mt0 42 rfl) rfl⟩
theorem kv_RX8_203 : LkV RX8 203 mX8_landsOn 1 := ⟨⟨TB_mem (mt5 111 rfl) rfl, TB_mem (mt1 10 rfl) rfl, TB_mem (mt5 114 rfl) rfl, by decide, by decide, by decide +kernel⟩, TB_mem (mt5 113 rfl) rfl, TB_mem (mt0 43 rfl) rfl⟩
theorem ks_RX8_206 : LkS RX8 206 mX8_doesBear 2 := ⟨⟨TB_mem (mt5 115 rfl) rfl, TB_mem (mt1 10 rfl) rfl, TB_mem (mt5 117 rfl) rfl, by decide, by decide, by decide +kernel⟩, TB_mem (mt5 116 rfl) rfl⟩
theorem kv_RX8_209 : LkV RX8 209 mX8_barredBy 2 := ⟨⟨TB_mem (mt5 96 rfl) rfl, TB_mem (mt1 10 rfl) rfl, TB_mem (mt5 99 rfl) rfl, by decide, by decide, by decide +kernel⟩, TB_mem (mt5 98 rfl) rfl, TB_mem (mt0 40 rfl) rfl⟩
theorem kv_RX8_212 : LkV RX8 212 mX8_worthOf 2 := ⟨⟨TB_mem (mt5 128 rfl) rfl, TB_mem (mt1 10 rfl) rfl, TB_mem (mt5 131 rfl) rfl, by decide, by decide, by decide +kernel⟩, TB_mem (mt5 130 rfl) rfl, TB_mem (mt0 44 rfl) rfl⟩
theorem kv_RX8_215 : LkV RX8 215 mX8_changed 2 := ⟨⟨TB_mem (mt5 132 rfl) rfl, TB_mem (mt1 10 rfl) rfl, TB_mem (mt5 135 rfl) rfl, by decide, by decide, by decide +kernel⟩, TB_mem (mt5 134 rfl) rfl, TB_mem (mt0 45 rfl) rfl⟩
theorem kv_RX8_222 : LkV RX8 222 mX8_worthBy 2 := ⟨⟨TB_mem (mt5 136 rfl) rfl, TB_mem (mt1 10 rfl) rfl, TB_mem (mt5 139 rfl) rfl, by decide, by decide, by decide +kernel⟩, TB_mem (mt5 138 rfl) rfl, TB_mem (mt0 46 rfl) rfl⟩
theorem kv_RX8_225 : LkV RX8 225 mX8_betterOf 1 := ⟨⟨TB_mem (mt5 144 rfl) rfl, TB_mem (mt1 10 rfl) rfl, TB_mem (mt5 147 rfl) rfl, by decide, by decide, by decide +kernel⟩, TB_mem (mt5 146 rfl) rfl, TB_mem (mt0 47 rfl) rfl⟩
theorem kv_RX8_230 : LkV RX8 230 mX8_worthOrNone 1 := ⟨⟨TB_mem (mt5 169 rfl) rfl, TB_mem (mt1 10 rfl) rfl, TB_mem (mt5 172 rfl) rfl, by decide, by decide, by decide +kernel⟩, TB_mem (mt5 171 rfl) rfl, TB_mem (mt0 49 rfl) rfl⟩
theorem kv_RX8_233 : LkV RX8 233 mX8_bestOf 0 := ⟨⟨TB_mem (mt5 165 rfl) rfl, TB_mem (mt1 10 rfl) rfl, TB_mem (mt5 168 rfl) rfl, by decide, by decide, by decide +kernel⟩, TB_mem (mt5 167 rfl) rfl, TB_mem (mt0 48 rfl) rfl⟩
theorem fl_RX8_242 : FL RX8 242 8 22 := ⟨RX8, TX8, 30, rfl, by decide, TB_mem (mt4 101 rfl) rfl, uw8⟩
theorem fp_RX8_242 : FP RX8 242 8 22 := ⟨RX8, TX8, 30, tyX8, rfl, by decide, TB_mem (mt4 101 rfl) rfl, uw8, tyX8_ok, nmX8, rfl, rfl⟩
theorem kv_RX8_245 : LkV RX8 245 mX8_isJumper 1 := ⟨⟨TB_mem (mt5 192 rfl) rfl, TB_mem (mt1 10 rfl) rfl, TB_mem (mt5 195 rfl) rfl, by decide, by decide, by decide +kernel⟩, TB_mem (mt5 194 rfl) rfl, TB_mem (mt0 50 rfl) rfl⟩
theorem kv_RX8_248 : LkV RX8 248 mX8_taken 1 := ⟨⟨TB_mem (mt5 212 rfl) rfl, TB_mem (mt1 10 rfl) rfl, TB_mem (mt5 215 rfl) rfl, by decide, by decide, by decide +kernel⟩, TB_mem (mt5 214 rfl) rfl, TB_mem (mt0 54 rfl) rfl⟩
theorem kv_RX8_251 : LkV RX8 251 mX8_layWorths 0 := ⟨⟨TB_mem (mt5 200 rfl) rfl, TB_mem (mt1 10 rfl) rfl, TB_mem (mt5 203 rfl) rfl, by decide, by decide, by decide +kernel⟩, TB_mem (mt5 202 rfl) rfl, TB_mem (mt0 51 rfl) rfl⟩
theorem kv_RX8_254 : LkV RX8 254 mX8_keepJumpers 0 := ⟨⟨TB_mem (mt5 204 rfl) rfl, TB_mem (mt1 10 rfl) rfl, TB_mem (mt5 207 rfl) rfl, by decide, by decide, by decide +kernel⟩, TB_mem (mt5 206 rfl) rfl, TB_mem (mt0 52 rfl) rfl⟩
theorem kv_RX8_257 : LkV RX8 257 mX8_oneYear 0 := ⟨⟨TB_mem (mt5 208 rfl) rfl, TB_mem (mt1 10 rfl) rfl, TB_mem (mt5 211 rfl) rfl, by decide, by decide, by decide +kernel⟩, TB_mem (mt5 210 rfl) rfl, TB_mem (mt0 53 rfl) rfl⟩
theorem kv_RX8_260 : LkV RX8 260 mX8_haveWay 1 := ⟨⟨TB_mem (mt5 220 rfl) rfl, TB_mem (mt1 10 rfl) rfl, TB_mem (mt5 223 rfl) rfl, by decide, by decide, by decide +kernel⟩, TB_mem (mt5 222 rfl) rfl, TB_mem (mt0 55 rfl) rfl⟩
theorem kv_RX8_263 : LkV RX8 263 mX8_jumpersBack 0 := ⟨⟨TB_mem (mt5 228 rfl) rfl, TB_mem (mt1 10 rfl) rfl, TB_mem (mt5 231 rfl) rfl, by decide, by decide, by decide +kernel⟩, TB_mem (mt5 230 rfl) rfl, TB_mem (mt0 56 rfl) rfl⟩
theorem ks_RX8_266 : LkS RX8 266 mX8_failing 3 := ⟨⟨TB_mem (mt6 0 rfl) rfl, TB_mem (mt1 10 rfl) rfl, TB_mem (mt6 2 rfl) rfl, by decide, by decide, by decide +kernel⟩, TB_mem (mt6 1 rfl) rfl⟩
theorem ks_RX8_270 : LkS RX8 270 mX8_inLowest 3 := ⟨⟨TB_mem (mt6 3 rfl) rfl, TB_mem (mt1 10 rfl) rfl, TB_mem (mt6 5 rfl) rfl, by decide, by decide, by decide +kernel⟩, TB_mem (mt6 4 rfl) rfl⟩
theorem fl_RX8_273 : FL RX8 273 8 29 := ⟨RX8, TX8, 30, rfl, by decide, TB_mem (mt4 108 rfl) rfl, uw8⟩
theorem fp_RX8_273 : FP RX8 273 8 29 := ⟨RX8, TX8, 30, tyX8, rfl, by decide, TB_mem (mt4 108 rfl) rfl, uw8, tyX8_ok, nmX8, rfl, rfl⟩
theorem fw_RJ0_9 : Cond.fieldLink RJ0 9 RJ0 "value" "[B" ∈ TB := TB_mem (mt6 32 rfl) rfl
theorem fw_RJ0_15 : Cond.fieldLink RJ0 15 RJ0 "coder" "B" ∈ TB := TB_mem (mt6 31 rfl) rfl
theorem fw_RJ0_38 : Cond.fieldLink RJ0 38 RJ0 "COMPACT_STRINGS" "Z" ∈ TB := TB_mem (mt2 31 rfl) rfl
theorem kv_RJ0_492 : LkV RJ0 492 mJ0_isLatin1_aae02 0 := ⟨⟨TB_mem (mt2 27 rfl) rfl, TB_mem (mt1 11 rfl) rfl, TB_mem (mt2 30 rfl) rfl, by decide, by decide, by decide +kernel⟩, TB_mem (mt2 28 rfl) rfl, TB_mem (mt2 29 rfl) rfl⟩
theorem ks_RJ0_495 : LkS RJ0 495 mJ1_charAt_3b067 2 := ⟨⟨TB_mem (mt2 33 rfl) rfl, TB_mem (mt1 12 rfl) rfl, TB_mem (mt2 35 rfl) rfl, by decide, by decide, by decide +kernel⟩, TB_mem (mt2 34 rfl) rfl⟩
theorem ks_RJ0_498 : LkS RJ0 498 mJ2_charAt_3b067 2 := ⟨⟨TB_mem (mt2 44 rfl) rfl, TB_mem (mt1 14 rfl) rfl, TB_mem (mt2 46 rfl) rfl, by decide, by decide, by decide +kernel⟩, TB_mem (mt2 45 rfl) rfl⟩
theorem fw_RJ0_1053 : Cond.fieldLink RJ0 1053 RJ3 "SIOOBE_FORMATTER" "Ljava/util/function/BiFunction;" ∈ TB := TB_mem (mt2 39 rfl) rfl
theorem ks_RJ0_1059 : LkS RJ0 1059 mJ3_checkIndex_8e157 3 := ⟨⟨TB_mem (mt2 41 rfl) rfl, TB_mem (mt1 13 rfl) rfl, TB_mem (mt2 43 rfl) rfl, by decide, by decide, by decide +kernel⟩, TB_mem (mt2 42 rfl) rfl⟩
theorem ks_RJ1_9 : LkS RJ1 9 mJ0_checkIndex_df160 2 := ⟨⟨TB_mem (mt2 36 rfl) rfl, TB_mem (mt1 11 rfl) rfl, TB_mem (mt2 38 rfl) rfl, by decide, by decide, by decide +kernel⟩, TB_mem (mt2 37 rfl) rfl⟩
theorem fw_RJ2_44 : Cond.fieldLink RJ2 44 RJ2 "$assertionsDisabled" "Z" ∈ TB := TB_mem (mt2 57 rfl) rfl
theorem ks_RJ2_48 : LkS RJ2 48 mJ2_length_9d52b 1 := ⟨⟨TB_mem (mt2 50 rfl) rfl, TB_mem (mt1 14 rfl) rfl, TB_mem (mt2 52 rfl) rfl, by decide, by decide, by decide +kernel⟩, TB_mem (mt2 51 rfl) rfl⟩
theorem fw_RJ2_59 : Cond.fieldLink RJ2 59 RJ2 "HI_BYTE_SHIFT" "I" ∈ TB := TB_mem (mt2 59 rfl) rfl
theorem fw_RJ2_63 : Cond.fieldLink RJ2 63 RJ2 "LO_BYTE_SHIFT" "I" ∈ TB := TB_mem (mt2 61 rfl) rfl
theorem ks_RJ2_67 : LkS RJ2 67 mJ2_checkIndex_2214a 2 := ⟨⟨TB_mem (mt2 47 rfl) rfl, TB_mem (mt1 14 rfl) rfl, TB_mem (mt2 49 rfl) rfl, by decide, by decide, by decide +kernel⟩, TB_mem (mt2 48 rfl) rfl⟩
theorem ks_RJ2_71 : LkS RJ2 71 mJ2_getChar_3b067 2 := ⟨⟨TB_mem (mt2 54 rfl) rfl, TB_mem (mt1 14 rfl) rfl, TB_mem (mt2 56 rfl) rfl, by decide, by decide, by decide +kernel⟩, TB_mem (mt2 55 rfl) rfl⟩
theorem ks_RJ2_414 : LkS RJ2 414 mJ0_checkIndex_df160 2 := ⟨⟨TB_mem (mt2 53 rfl) rfl, TB_mem (mt1 11 rfl) rfl, TB_mem (mt2 38 rfl) rfl, by decide, by decide, by decide +kernel⟩, TB_mem (mt2 37 rfl) rfl⟩
theorem kk_RX7_138 : Cond.constant RX7 138 (-1000000) ∈ TB := TB_mem (mt2 156 rfl) rfl
theorem kk_RX0_87 : Cond.constant RX0 87 (1000000) ∈ TB := TB_mem (mt2 201 rfl) rfl
theorem kk_RX0_88 : Cond.constant RX0 88 (-1000000) ∈ TB := TB_mem (mt2 202 rfl) rfl
theorem kk_RX7_159 : Cond.constant RX7 159 (-1000004) ∈ TB := TB_mem (mt3 5 rfl) rfl
theorem kk_RJ6_265 : Cond.constant RJ6 265 (1431655765) ∈ TB := TB_mem (mt4 70 rfl) rfl
theorem kk_RJ6_266 : Cond.constant RJ6 266 (858993459) ∈ TB := TB_mem (mt4 71 rfl) rfl
theorem kk_RJ6_267 : Cond.constant RJ6 267 (252645135) ∈ TB := TB_mem (mt4 72 rfl) rfl
theorem kk_RX8_97 : Cond.constantLong RX8 97 (97) ∈ TB := TB_mem (mt4 193 rfl) rfl
theorem kk_RX8_99 : Cond.constantLong RX8 99 (122) ∈ TB := TB_mem (mt4 194 rfl) rfl
theorem kk_RX8_109 : Cond.constantLong RX8 109 (48) ∈ TB := TB_mem (mt4 203 rfl) rfl
theorem kk_RX8_111 : Cond.constantLong RX8 111 (57) ∈ TB := TB_mem (mt4 204 rfl) rfl
theorem kk_RX8_131 : Cond.constantLong RX8 131 (17) ∈ TB := TB_mem (mt4 225 rfl) rfl
theorem kk_RX8_133 : Cond.constantLong RX8 133 (5) ∈ TB := TB_mem (mt4 233 rfl) rfl
theorem kk_RX8_144 : Cond.constantLong RX8 144 (2) ∈ TB := TB_mem (mt4 234 rfl) rfl
theorem kk_RX8_146 : Cond.constantLong RX8 146 (8) ∈ TB := TB_mem (mt4 235 rfl) rfl
theorem kk_RX8_142 : Cond.constantLong RX8 142 (3) ∈ TB := TB_mem (mt5 15 rfl) rfl
theorem kk_RX8_158 : Cond.constantLong RX8 158 (-9) ∈ TB := TB_mem (mt5 16 rfl) rfl
theorem kk_RX8_160 : Cond.constantLong RX8 160 (9) ∈ TB := TB_mem (mt5 17 rfl) rfl
theorem kk_RX8_176 : Cond.constant RX8 176 (-1000000) ∈ TB := TB_mem (mt5 50 rfl) rfl
theorem kk_RX8_190 : Cond.constant RX8 190 (-1000004) ∈ TB := TB_mem (mt5 83 rfl) rfl
theorem kk_RX8_218 : Cond.constantLong RX8 218 (-1) ∈ TB := TB_mem (mt5 126 rfl) rfl
theorem kk_RX8_220 : Cond.constantLong RX8 220 (127) ∈ TB := TB_mem (mt5 127 rfl) rfl
theorem kk_RX8_228 : Cond.constantLong RX8 228 (40) ∈ TB := TB_mem (mt5 152 rfl) rfl
theorem kk_RX8_236 : Cond.constantLong RX8 236 (20) ∈ TB := TB_mem (mt5 177 rfl) rfl
theorem kk_RX8_238 : Cond.constantLong RX8 238 (999) ∈ TB := TB_mem (mt5 182 rfl) rfl
theorem kk_RX8_240 : Cond.constantLong RX8 240 (99) ∈ TB := TB_mem (mt5 183 rfl) rfl
theorem kk_RL_13 : Cond.constantLong RL 13 (4294967295) ∈ TB := TB_mem (mt6 30 rfl) rfl
end
