section
-- ===== PART A: goes FIRST, ahead of the names: the tables' words, and 'selects' of the private methods out of them =====
/-- a private method of a class that the tables say can be made, by its rows of tables_1 -/
def lw_okq (q : MethodName × Nat) : Prop := (q.1.cls ≠ "java/lang/invoke/MethodHandle" ∧ q.1.cls ≠ "java/lang/invoke/VarHandle") ∧ Cond.instantiable q.1.cls q.2 ∈ tables_1 ∧ Cond.privateMethod q.1 ∈ tables_1 ∧ Cond.instanceMethod q.1 ∈ tables_1
theorem lw_p0 : lw_okq (⟨"FloorYears$Reader", "readLine", "()Z"⟩, 5) := ⟨⟨by decide +kernel, by decide +kernel⟩, List.mem_of_getElem? (i := 92) (by decide +kernel), List.mem_of_getElem? (i := 307) (by decide +kernel), List.mem_of_getElem? (i := 308) (by decide +kernel)⟩
theorem lw_p1 : lw_okq (⟨"FloorYears$Reader", "takeToken", "()V"⟩, 5) := ⟨⟨by decide +kernel, by decide +kernel⟩, List.mem_of_getElem? (i := 92) (by decide +kernel), List.mem_of_getElem? (i := 311) (by decide +kernel), List.mem_of_getElem? (i := 312) (by decide +kernel)⟩
theorem lw_p2 : lw_okq (⟨"FloorYears$Tape", "sortAt", "(I)I"⟩, 5) := ⟨⟨by decide +kernel, by decide +kernel⟩, List.mem_of_getElem? (i := 98) (by decide +kernel), List.mem_of_getElem? (i := 319) (by decide +kernel), List.mem_of_getElem? (i := 320) (by decide +kernel)⟩
theorem lw_p3 : lw_okq (⟨"FloorYears$Reader", "failIf", "(ZI)V"⟩, 5) := ⟨⟨by decide +kernel, by decide +kernel⟩, List.mem_of_getElem? (i := 92) (by decide +kernel), List.mem_of_getElem? (i := 323) (by decide +kernel), List.mem_of_getElem? (i := 324) (by decide +kernel)⟩
theorem lw_p4 : lw_okq (⟨"FloorYears$Reader", "wordRead", "()I"⟩, 5) := ⟨⟨by decide +kernel, by decide +kernel⟩, List.mem_of_getElem? (i := 92) (by decide +kernel), List.mem_of_getElem? (i := 327) (by decide +kernel), List.mem_of_getElem? (i := 328) (by decide +kernel)⟩
theorem lw_p5 : lw_okq (⟨"FloorYears$Reader", "readSo", "()V"⟩, 5) := ⟨⟨by decide +kernel, by decide +kernel⟩, List.mem_of_getElem? (i := 92) (by decide +kernel), List.mem_of_getElem? (i := 391) (by decide +kernel), List.mem_of_getElem? (i := 392) (by decide +kernel)⟩
theorem lw_p6 : lw_okq (⟨"FloorYears$Reader", "takeNumber", "(I)I"⟩, 5) := ⟨⟨by decide +kernel, by decide +kernel⟩, List.mem_of_getElem? (i := 92) (by decide +kernel), List.mem_of_getElem? (i := 395) (by decide +kernel), List.mem_of_getElem? (i := 396) (by decide +kernel)⟩
theorem lw_p7 : lw_okq (⟨"FloorYears$Reader", "takeStop", "()V"⟩, 5) := ⟨⟨by decide +kernel, by decide +kernel⟩, List.mem_of_getElem? (i := 92) (by decide +kernel), List.mem_of_getElem? (i := 406) (by decide +kernel), List.mem_of_getElem? (i := 407) (by decide +kernel)⟩
theorem lw_p8 : lw_okq (⟨"FloorYears$Reader", "readGuest", "()V"⟩, 5) := ⟨⟨by decide +kernel, by decide +kernel⟩, List.mem_of_getElem? (i := 92) (by decide +kernel), List.mem_of_getElem? (i := 410) (by decide +kernel), List.mem_of_getElem? (i := 411) (by decide +kernel)⟩
theorem lw_p9 : lw_okq (⟨"FloorYears$Reader", "readBan", "()V"⟩, 5) := ⟨⟨by decide +kernel, by decide +kernel⟩, List.mem_of_getElem? (i := 92) (by decide +kernel), List.mem_of_getElem? (i := 418) (by decide +kernel), List.mem_of_getElem? (i := 419) (by decide +kernel)⟩
theorem lw_p10 : lw_okq (⟨"FloorYears$Reader", "readThing", "(I)V"⟩, 5) := ⟨⟨by decide +kernel, by decide +kernel⟩, List.mem_of_getElem? (i := 92) (by decide +kernel), List.mem_of_getElem? (i := 426) (by decide +kernel), List.mem_of_getElem? (i := 427) (by decide +kernel)⟩
theorem lw_p11 : lw_okq (⟨"FloorYears$Search", "succeeds", "(LFloorYears$Floor;I)Z"⟩, 8) := ⟨⟨by decide +kernel, by decide +kernel⟩, List.mem_of_getElem? (i := 175) (by decide +kernel), List.mem_of_getElem? (i := 649) (by decide +kernel), List.mem_of_getElem? (i := 650) (by decide +kernel)⟩
theorem lw_p12 : lw_okq (⟨"FloorYears$Search", "holdRow", "(I)V"⟩, 8) := ⟨⟨by decide +kernel, by decide +kernel⟩, List.mem_of_getElem? (i := 175) (by decide +kernel), List.mem_of_getElem? (i := 660) (by decide +kernel), List.mem_of_getElem? (i := 661) (by decide +kernel)⟩
theorem lw_p13 : lw_okq (⟨"FloorYears$Search", "turnRow", "(II)V"⟩, 8) := ⟨⟨by decide +kernel, by decide +kernel⟩, List.mem_of_getElem? (i := 175) (by decide +kernel), List.mem_of_getElem? (i := 665) (by decide +kernel), List.mem_of_getElem? (i := 666) (by decide +kernel)⟩
theorem lw_p14 : lw_okq (⟨"FloorYears", "afterSlips", "(III)J"⟩, 10) := ⟨⟨by decide +kernel, by decide +kernel⟩, List.mem_of_getElem? (i := 19) (by decide +kernel), List.mem_of_getElem? (i := 699) (by decide +kernel), List.mem_of_getElem? (i := 700) (by decide +kernel)⟩
theorem lw_p15 : lw_okq (⟨"FloorYears$Sights", "suitYear", "(II)Z"⟩, 6) := ⟨⟨by decide +kernel, by decide +kernel⟩, List.mem_of_getElem? (i := 148) (by decide +kernel), List.mem_of_getElem? (i := 747) (by decide +kernel), List.mem_of_getElem? (i := 748) (by decide +kernel)⟩
def lw_privs_1 : List (MethodName × Nat) := [(⟨"FloorYears$Reader", "readLine", "()Z"⟩, 5), (⟨"FloorYears$Reader", "takeToken", "()V"⟩, 5), (⟨"FloorYears$Tape", "sortAt", "(I)I"⟩, 5), (⟨"FloorYears$Reader", "failIf", "(ZI)V"⟩, 5), (⟨"FloorYears$Reader", "wordRead", "()I"⟩, 5), (⟨"FloorYears$Reader", "readSo", "()V"⟩, 5), (⟨"FloorYears$Reader", "takeNumber", "(I)I"⟩, 5), (⟨"FloorYears$Reader", "takeStop", "()V"⟩, 5), (⟨"FloorYears$Reader", "readGuest", "()V"⟩, 5), (⟨"FloorYears$Reader", "readBan", "()V"⟩, 5), (⟨"FloorYears$Reader", "readThing", "(I)V"⟩, 5), (⟨"FloorYears$Search", "succeeds", "(LFloorYears$Floor;I)Z"⟩, 8), (⟨"FloorYears$Search", "holdRow", "(I)V"⟩, 8), (⟨"FloorYears$Search", "turnRow", "(II)V"⟩, 8), (⟨"FloorYears", "afterSlips", "(III)J"⟩, 10), (⟨"FloorYears$Sights", "suitYear", "(II)Z"⟩, 6)]
theorem lw_r1 : ∀ q ∈ lw_privs_1, lw_okq q := List.forall_mem_cons.mpr ⟨lw_p0, List.forall_mem_cons.mpr ⟨lw_p1, List.forall_mem_cons.mpr ⟨lw_p2, List.forall_mem_cons.mpr ⟨lw_p3, List.forall_mem_cons.mpr ⟨lw_p4, List.forall_mem_cons.mpr ⟨lw_p5, List.forall_mem_cons.mpr ⟨lw_p6, List.forall_mem_cons.mpr ⟨lw_p7, List.forall_mem_cons.mpr ⟨lw_p8, List.forall_mem_cons.mpr ⟨lw_p9, List.forall_mem_cons.mpr ⟨lw_p10, List.forall_mem_cons.mpr ⟨lw_p11, List.forall_mem_cons.mpr ⟨lw_p12, List.forall_mem_cons.mpr ⟨lw_p13, List.forall_mem_cons.mpr ⟨lw_p14, List.forall_mem_cons.mpr ⟨lw_p15, fun _ h => absurd h List.not_mem_nil⟩⟩⟩⟩⟩⟩⟩⟩⟩⟩⟩⟩⟩⟩⟩⟩
theorem lw_p16 : lw_okq (⟨"FloorYears", "visit", "(I)Z"⟩, 10) := ⟨⟨by decide +kernel, by decide +kernel⟩, List.mem_of_getElem? (i := 19) (by decide +kernel), List.mem_of_getElem? (i := 816) (by decide +kernel), List.mem_of_getElem? (i := 817) (by decide +kernel)⟩
theorem lw_p17 : lw_okq (⟨"FloorYearsModel", "step", "()V"⟩, 34) := ⟨⟨by decide +kernel, by decide +kernel⟩, List.mem_of_getElem? (i := 834) (by decide +kernel), List.mem_of_getElem? (i := 959) (by decide +kernel), List.mem_of_getElem? (i := 960) (by decide +kernel)⟩
theorem lw_p18 : lw_okq (⟨"FloorYearsModel", "byteAt", "(I)I"⟩, 34) := ⟨⟨by decide +kernel, by decide +kernel⟩, List.mem_of_getElem? (i := 834) (by decide +kernel), List.mem_of_getElem? (i := 963) (by decide +kernel), List.mem_of_getElem? (i := 964) (by decide +kernel)⟩
theorem lw_p19 : lw_okq (⟨"FloorYearsModel", "fails", "(I)V"⟩, 34) := ⟨⟨by decide +kernel, by decide +kernel⟩, List.mem_of_getElem? (i := 834) (by decide +kernel), List.mem_of_getElem? (i := 971) (by decide +kernel), List.mem_of_getElem? (i := 972) (by decide +kernel)⟩
theorem lw_p20 : lw_okq (⟨"FloorYearsModel", "readLine", "()V"⟩, 34) := ⟨⟨by decide +kernel, by decide +kernel⟩, List.mem_of_getElem? (i := 834) (by decide +kernel), List.mem_of_getElem? (i := 975) (by decide +kernel), List.mem_of_getElem? (i := 976) (by decide +kernel)⟩
theorem lw_p21 : lw_okq (⟨"FloorYearsModel", "nameHere", "()I"⟩, 34) := ⟨⟨by decide +kernel, by decide +kernel⟩, List.mem_of_getElem? (i := 834) (by decide +kernel), List.mem_of_getElem? (i := 979) (by decide +kernel), List.mem_of_getElem? (i := 980) (by decide +kernel)⟩
theorem lw_p22 : lw_okq (⟨"FloorYearsModel", "readMore", "(I)V"⟩, 34) := ⟨⟨by decide +kernel, by decide +kernel⟩, List.mem_of_getElem? (i := 834) (by decide +kernel), List.mem_of_getElem? (i := 984) (by decide +kernel), List.mem_of_getElem? (i := 985) (by decide +kernel)⟩
theorem lw_p23 : lw_okq (⟨"FloorYearsModel", "thingHere", "(I)I"⟩, 34) := ⟨⟨by decide +kernel, by decide +kernel⟩, List.mem_of_getElem? (i := 834) (by decide +kernel), List.mem_of_getElem? (i := 988) (by decide +kernel), List.mem_of_getElem? (i := 989) (by decide +kernel)⟩
theorem lw_p24 : lw_okq (⟨"FloorYearsModel", "other", "(III)I"⟩, 34) := ⟨⟨by decide +kernel, by decide +kernel⟩, List.mem_of_getElem? (i := 834) (by decide +kernel), List.mem_of_getElem? (i := 992) (by decide +kernel), List.mem_of_getElem? (i := 993) (by decide +kernel)⟩
theorem lw_p25 : lw_okq (⟨"FloorYearsModel", "readBan", "()V"⟩, 34) := ⟨⟨by decide +kernel, by decide +kernel⟩, List.mem_of_getElem? (i := 834) (by decide +kernel), List.mem_of_getElem? (i := 996) (by decide +kernel), List.mem_of_getElem? (i := 997) (by decide +kernel)⟩
theorem lw_p26 : lw_okq (⟨"FloorYearsModel", "isAllowed", "(I)Z"⟩, 34) := ⟨⟨by decide +kernel, by decide +kernel⟩, List.mem_of_getElem? (i := 834) (by decide +kernel), List.mem_of_getElem? (i := 1008) (by decide +kernel), List.mem_of_getElem? (i := 1009) (by decide +kernel)⟩
theorem lw_p27 : lw_okq (⟨"FloorYearsModel", "isBroken", "(II)Z"⟩, 34) := ⟨⟨by decide +kernel, by decide +kernel⟩, List.mem_of_getElem? (i := 834) (by decide +kernel), List.mem_of_getElem? (i := 1012) (by decide +kernel), List.mem_of_getElem? (i := 1013) (by decide +kernel)⟩
theorem lw_p28 : lw_okq (⟨"FloorYearsModel", "agrees", "(I)Z"⟩, 34) := ⟨⟨by decide +kernel, by decide +kernel⟩, List.mem_of_getElem? (i := 834) (by decide +kernel), List.mem_of_getElem? (i := 1016) (by decide +kernel), List.mem_of_getElem? (i := 1017) (by decide +kernel)⟩
theorem lw_p29 : lw_okq (⟨"FloorYearsModel", "nextOf", "(I)I"⟩, 34) := ⟨⟨by decide +kernel, by decide +kernel⟩, List.mem_of_getElem? (i := 834) (by decide +kernel), List.mem_of_getElem? (i := 1020) (by decide +kernel), List.mem_of_getElem? (i := 1021) (by decide +kernel)⟩
theorem lw_p30 : lw_okq (⟨"FloorYearsModel", "willBe", "(II)Z"⟩, 34) := ⟨⟨by decide +kernel, by decide +kernel⟩, List.mem_of_getElem? (i := 834) (by decide +kernel), List.mem_of_getElem? (i := 1024) (by decide +kernel), List.mem_of_getElem? (i := 1025) (by decide +kernel)⟩
theorem lw_p31 : lw_okq (⟨"FloorYearsModel", "firstOf", "(I)I"⟩, 34) := ⟨⟨by decide +kernel, by decide +kernel⟩, List.mem_of_getElem? (i := 834) (by decide +kernel), List.mem_of_getElem? (i := 1028) (by decide +kernel), List.mem_of_getElem? (i := 1029) (by decide +kernel)⟩
def lw_privs_2 : List (MethodName × Nat) := [(⟨"FloorYears", "visit", "(I)Z"⟩, 10), (⟨"FloorYearsModel", "step", "()V"⟩, 34), (⟨"FloorYearsModel", "byteAt", "(I)I"⟩, 34), (⟨"FloorYearsModel", "fails", "(I)V"⟩, 34), (⟨"FloorYearsModel", "readLine", "()V"⟩, 34), (⟨"FloorYearsModel", "nameHere", "()I"⟩, 34), (⟨"FloorYearsModel", "readMore", "(I)V"⟩, 34), (⟨"FloorYearsModel", "thingHere", "(I)I"⟩, 34), (⟨"FloorYearsModel", "other", "(III)I"⟩, 34), (⟨"FloorYearsModel", "readBan", "()V"⟩, 34), (⟨"FloorYearsModel", "isAllowed", "(I)Z"⟩, 34), (⟨"FloorYearsModel", "isBroken", "(II)Z"⟩, 34), (⟨"FloorYearsModel", "agrees", "(I)Z"⟩, 34), (⟨"FloorYearsModel", "nextOf", "(I)I"⟩, 34), (⟨"FloorYearsModel", "willBe", "(II)Z"⟩, 34), (⟨"FloorYearsModel", "firstOf", "(I)I"⟩, 34)]
theorem lw_r2 : ∀ q ∈ lw_privs_2, lw_okq q := List.forall_mem_cons.mpr ⟨lw_p16, List.forall_mem_cons.mpr ⟨lw_p17, List.forall_mem_cons.mpr ⟨lw_p18, List.forall_mem_cons.mpr ⟨lw_p19, List.forall_mem_cons.mpr ⟨lw_p20, List.forall_mem_cons.mpr ⟨lw_p21, List.forall_mem_cons.mpr ⟨lw_p22, List.forall_mem_cons.mpr ⟨lw_p23, List.forall_mem_cons.mpr ⟨lw_p24, List.forall_mem_cons.mpr ⟨lw_p25, List.forall_mem_cons.mpr ⟨lw_p26, List.forall_mem_cons.mpr ⟨lw_p27, List.forall_mem_cons.mpr ⟨lw_p28, List.forall_mem_cons.mpr ⟨lw_p29, List.forall_mem_cons.mpr ⟨lw_p30, List.forall_mem_cons.mpr ⟨lw_p31, fun _ h => absurd h List.not_mem_nil⟩⟩⟩⟩⟩⟩⟩⟩⟩⟩⟩⟩⟩⟩⟩⟩
theorem lw_p32 : lw_okq (⟨"FloorYearsModel", "secondOf", "(I)I"⟩, 34) := ⟨⟨by decide +kernel, by decide +kernel⟩, List.mem_of_getElem? (i := 834) (by decide +kernel), List.mem_of_getElem? (i := 1032) (by decide +kernel), List.mem_of_getElem? (i := 1033) (by decide +kernel)⟩
theorem lw_p33 : lw_okq (⟨"FloorYearsModel", "isThing", "(I)Z"⟩, 34) := ⟨⟨by decide +kernel, by decide +kernel⟩, List.mem_of_getElem? (i := 834) (by decide +kernel), List.mem_of_getElem? (i := 1040) (by decide +kernel), List.mem_of_getElem? (i := 1041) (by decide +kernel)⟩
theorem lw_p34 : lw_okq (⟨"FloorYearsModel", "isGuest", "(I)Z"⟩, 34) := ⟨⟨by decide +kernel, by decide +kernel⟩, List.mem_of_getElem? (i := 834) (by decide +kernel), List.mem_of_getElem? (i := 1048) (by decide +kernel), List.mem_of_getElem? (i := 1049) (by decide +kernel)⟩
theorem lw_p35 : lw_okq (⟨"FloorYearsModel", "isBan", "(I)Z"⟩, 34) := ⟨⟨by decide +kernel, by decide +kernel⟩, List.mem_of_getElem? (i := 834) (by decide +kernel), List.mem_of_getElem? (i := 1056) (by decide +kernel), List.mem_of_getElem? (i := 1057) (by decide +kernel)⟩
theorem lw_p36 : lw_okq (⟨"FloorYearsModel", "puts", "(ZIII)I"⟩, 34) := ⟨⟨by decide +kernel, by decide +kernel⟩, List.mem_of_getElem? (i := 834) (by decide +kernel), List.mem_of_getElem? (i := 1066) (by decide +kernel), List.mem_of_getElem? (i := 1067) (by decide +kernel)⟩
theorem lw_p37 : lw_okq (⟨"FloorYearsModel", "becomes", "(II)I"⟩, 34) := ⟨⟨by decide +kernel, by decide +kernel⟩, List.mem_of_getElem? (i := 834) (by decide +kernel), List.mem_of_getElem? (i := 1070) (by decide +kernel), List.mem_of_getElem? (i := 1071) (by decide +kernel)⟩
theorem lw_p38 : lw_okq (⟨"FloorYearsModel", "undoes", "(I)I"⟩, 34) := ⟨⟨by decide +kernel, by decide +kernel⟩, List.mem_of_getElem? (i := 834) (by decide +kernel), List.mem_of_getElem? (i := 1091) (by decide +kernel), List.mem_of_getElem? (i := 1092) (by decide +kernel)⟩
theorem lw_p39 : lw_okq (⟨"FloorYearsModel", "afterYears", "(II)I"⟩, 34) := ⟨⟨by decide +kernel, by decide +kernel⟩, List.mem_of_getElem? (i := 834) (by decide +kernel), List.mem_of_getElem? (i := 1100) (by decide +kernel), List.mem_of_getElem? (i := 1101) (by decide +kernel)⟩
theorem lw_p40 : lw_okq (⟨"FloorYearsModel", "isState", "(I)Z"⟩, 34) := ⟨⟨by decide +kernel, by decide +kernel⟩, List.mem_of_getElem? (i := 834) (by decide +kernel), List.mem_of_getElem? (i := 1112) (by decide +kernel), List.mem_of_getElem? (i := 1113) (by decide +kernel)⟩
theorem lw_p41 : lw_okq (⟨"FloorYearsModel", "states", "()I"⟩, 34) := ⟨⟨by decide +kernel, by decide +kernel⟩, List.mem_of_getElem? (i := 834) (by decide +kernel), List.mem_of_getElem? (i := 1116) (by decide +kernel), List.mem_of_getElem? (i := 1117) (by decide +kernel)⟩
theorem lw_p42 : lw_okq (⟨"FloorYearsModel", "ringOf", "(I)I"⟩, 34) := ⟨⟨by decide +kernel, by decide +kernel⟩, List.mem_of_getElem? (i := 834) (by decide +kernel), List.mem_of_getElem? (i := 1125) (by decide +kernel), List.mem_of_getElem? (i := 1126) (by decide +kernel)⟩
theorem lw_p43 : lw_okq (⟨"FloorYearsModel", "agreeMany", "()I"⟩, 34) := ⟨⟨by decide +kernel, by decide +kernel⟩, List.mem_of_getElem? (i := 834) (by decide +kernel), List.mem_of_getElem? (i := 1138) (by decide +kernel), List.mem_of_getElem? (i := 1139) (by decide +kernel)⟩
theorem lw_p44 : lw_okq (⟨"FloorYearsModel", "tellsNone", "()V"⟩, 34) := ⟨⟨by decide +kernel, by decide +kernel⟩, List.mem_of_getElem? (i := 834) (by decide +kernel), List.mem_of_getElem? (i := 1142) (by decide +kernel), List.mem_of_getElem? (i := 1143) (by decide +kernel)⟩
theorem lw_p45 : lw_okq (⟨"FloorYearsModel", "tells", "(I)V"⟩, 34) := ⟨⟨by decide +kernel, by decide +kernel⟩, List.mem_of_getElem? (i := 834) (by decide +kernel), List.mem_of_getElem? (i := 1146) (by decide +kernel), List.mem_of_getElem? (i := 1147) (by decide +kernel)⟩
theorem lw_p46 : lw_okq (⟨"FloorYearsModel", "told", "(I)I"⟩, 34) := ⟨⟨by decide +kernel, by decide +kernel⟩, List.mem_of_getElem? (i := 834) (by decide +kernel), List.mem_of_getElem? (i := 1150) (by decide +kernel), List.mem_of_getElem? (i := 1151) (by decide +kernel)⟩
theorem lw_p47 : lw_okq (⟨"FloorYearsModel", "comesOf", "(I)V"⟩, 34) := ⟨⟨by decide +kernel, by decide +kernel⟩, List.mem_of_getElem? (i := 834) (by decide +kernel), List.mem_of_getElem? (i := 1158) (by decide +kernel), List.mem_of_getElem? (i := 1159) (by decide +kernel)⟩
def lw_privs_3 : List (MethodName × Nat) := [(⟨"FloorYearsModel", "secondOf", "(I)I"⟩, 34), (⟨"FloorYearsModel", "isThing", "(I)Z"⟩, 34), (⟨"FloorYearsModel", "isGuest", "(I)Z"⟩, 34), (⟨"FloorYearsModel", "isBan", "(I)Z"⟩, 34), (⟨"FloorYearsModel", "puts", "(ZIII)I"⟩, 34), (⟨"FloorYearsModel", "becomes", "(II)I"⟩, 34), (⟨"FloorYearsModel", "undoes", "(I)I"⟩, 34), (⟨"FloorYearsModel", "afterYears", "(II)I"⟩, 34), (⟨"FloorYearsModel", "isState", "(I)Z"⟩, 34), (⟨"FloorYearsModel", "states", "()I"⟩, 34), (⟨"FloorYearsModel", "ringOf", "(I)I"⟩, 34), (⟨"FloorYearsModel", "agreeMany", "()I"⟩, 34), (⟨"FloorYearsModel", "tellsNone", "()V"⟩, 34), (⟨"FloorYearsModel", "tells", "(I)V"⟩, 34), (⟨"FloorYearsModel", "told", "(I)I"⟩, 34), (⟨"FloorYearsModel", "comesOf", "(I)V"⟩, 34)]
theorem lw_r3 : ∀ q ∈ lw_privs_3, lw_okq q := List.forall_mem_cons.mpr ⟨lw_p32, List.forall_mem_cons.mpr ⟨lw_p33, List.forall_mem_cons.mpr ⟨lw_p34, List.forall_mem_cons.mpr ⟨lw_p35, List.forall_mem_cons.mpr ⟨lw_p36, List.forall_mem_cons.mpr ⟨lw_p37, List.forall_mem_cons.mpr ⟨lw_p38, List.forall_mem_cons.mpr ⟨lw_p39, List.forall_mem_cons.mpr ⟨lw_p40, List.forall_mem_cons.mpr ⟨lw_p41, List.forall_mem_cons.mpr ⟨lw_p42, List.forall_mem_cons.mpr ⟨lw_p43, List.forall_mem_cons.mpr ⟨lw_p44, List.forall_mem_cons.mpr ⟨lw_p45, List.forall_mem_cons.mpr ⟨lw_p46, List.forall_mem_cons.mpr ⟨lw_p47, fun _ h => absurd h List.not_mem_nil⟩⟩⟩⟩⟩⟩⟩⟩⟩⟩⟩⟩⟩⟩⟩⟩
theorem lw_p48 : lw_okq (⟨"FloorYearsModel", "cheapest", "(III)V"⟩, 34) := ⟨⟨by decide +kernel, by decide +kernel⟩, List.mem_of_getElem? (i := 834) (by decide +kernel), List.mem_of_getElem? (i := 1176) (by decide +kernel), List.mem_of_getElem? (i := 1177) (by decide +kernel)⟩
theorem lw_p49 : lw_okq (⟨"FloorYearsModel", "powerOf", "(I)I"⟩, 34) := ⟨⟨by decide +kernel, by decide +kernel⟩, List.mem_of_getElem? (i := 834) (by decide +kernel), List.mem_of_getElem? (i := 1180) (by decide +kernel), List.mem_of_getElem? (i := 1181) (by decide +kernel)⟩
theorem lw_p50 : lw_okq (⟨"FloorYearsModel", "goesWay", "(II)Z"⟩, 34) := ⟨⟨by decide +kernel, by decide +kernel⟩, List.mem_of_getElem? (i := 834) (by decide +kernel), List.mem_of_getElem? (i := 1184) (by decide +kernel), List.mem_of_getElem? (i := 1185) (by decide +kernel)⟩
theorem lw_p51 : lw_okq (⟨"FloorYearsModel", "whoIn", "(III)I"⟩, 34) := ⟨⟨by decide +kernel, by decide +kernel⟩, List.mem_of_getElem? (i := 834) (by decide +kernel), List.mem_of_getElem? (i := 1188) (by decide +kernel), List.mem_of_getElem? (i := 1189) (by decide +kernel)⟩
theorem lw_p52 : lw_okq (⟨"FloorYearsModel", "toldWay", "(II)I"⟩, 34) := ⟨⟨by decide +kernel, by decide +kernel⟩, List.mem_of_getElem? (i := 834) (by decide +kernel), List.mem_of_getElem? (i := 1192) (by decide +kernel), List.mem_of_getElem? (i := 1193) (by decide +kernel)⟩
theorem lw_p53 : lw_okq (⟨"FloorYearsModel", "bySlips", "(III)J"⟩, 34) := ⟨⟨by decide +kernel, by decide +kernel⟩, List.mem_of_getElem? (i := 834) (by decide +kernel), List.mem_of_getElem? (i := 1212) (by decide +kernel), List.mem_of_getElem? (i := 1213) (by decide +kernel)⟩
theorem lw_p54 : lw_okq (⟨"FloorYearsModel", "doesFit", "(I)Z"⟩, 34) := ⟨⟨by decide +kernel, by decide +kernel⟩, List.mem_of_getElem? (i := 834) (by decide +kernel), List.mem_of_getElem? (i := 1243) (by decide +kernel), List.mem_of_getElem? (i := 1244) (by decide +kernel)⟩
theorem lw_p55 : lw_okq (⟨"FloorYearsModel", "copies", "(II)V"⟩, 34) := ⟨⟨by decide +kernel, by decide +kernel⟩, List.mem_of_getElem? (i := 834) (by decide +kernel), List.mem_of_getElem? (i := 1261) (by decide +kernel), List.mem_of_getElem? (i := 1262) (by decide +kernel)⟩
def lw_privs_4 : List (MethodName × Nat) := [(⟨"FloorYearsModel", "cheapest", "(III)V"⟩, 34), (⟨"FloorYearsModel", "powerOf", "(I)I"⟩, 34), (⟨"FloorYearsModel", "goesWay", "(II)Z"⟩, 34), (⟨"FloorYearsModel", "whoIn", "(III)I"⟩, 34), (⟨"FloorYearsModel", "toldWay", "(II)I"⟩, 34), (⟨"FloorYearsModel", "bySlips", "(III)J"⟩, 34), (⟨"FloorYearsModel", "doesFit", "(I)Z"⟩, 34), (⟨"FloorYearsModel", "copies", "(II)V"⟩, 34)]
theorem lw_r4 : ∀ q ∈ lw_privs_4, lw_okq q := List.forall_mem_cons.mpr ⟨lw_p48, List.forall_mem_cons.mpr ⟨lw_p49, List.forall_mem_cons.mpr ⟨lw_p50, List.forall_mem_cons.mpr ⟨lw_p51, List.forall_mem_cons.mpr ⟨lw_p52, List.forall_mem_cons.mpr ⟨lw_p53, List.forall_mem_cons.mpr ⟨lw_p54, List.forall_mem_cons.mpr ⟨lw_p55, fun _ h => absurd h List.not_mem_nil⟩⟩⟩⟩⟩⟩⟩⟩
def lw_privs : List (MethodName × Nat) := lw_privs_1 ++ (lw_privs_2 ++ (lw_privs_3 ++ (lw_privs_4)))
def lw_tbl : List Cond := k2_sels lw_privs ++ tables_1
theorem lw_privs_ok : ∀ q ∈ lw_privs, lw_okq q := by
  show ∀ q ∈ lw_privs_1 ++ (lw_privs_2 ++ (lw_privs_3 ++ (lw_privs_4))), lw_okq q
  exact List.forall_mem_append.mpr ⟨lw_r1, List.forall_mem_append.mpr ⟨lw_r2, List.forall_mem_append.mpr ⟨lw_r3, lw_r4⟩⟩⟩
end
section
def RX0 : String := "FloorYears$Floor"
def TX0 : u_T := fun k => match k with
  | 0 => ("FloorYears$Floor", "things", "I", false)
  | 1 => ("FloorYears$Floor", "kind", "[I", true)
  | 2 => ("FloorYears$Floor", "first", "[I", true)
  | 3 => ("FloorYears$Floor", "second", "[I", true)
  | 4 => ("FloorYears$Floor", "state", "I", false)
  | 5 => ("FloorYears$Floor", "guests", "I", false)
  | 6 => ("FloorYears$Floor", "undoes", "[I", true)
  | 7 => ("FloorYears$Floor", "price", "[I", true)
  | 8 => ("FloorYears$Floor", "bans", "I", false)
  | 9 => ("FloorYears$Floor", "banOne", "[I", true)
  | 10 => ("FloorYears$Floor", "banOther", "[I", true)
  | _ => ("FloorYears$Floor", "year", "I", false)
def tyX0 : Nat → FieldType := fun k => match k with
  | 0 => .int
  | 1 => .array .int
  | 2 => .array .int
  | 3 => .array .int
  | 4 => .int
  | 5 => .int
  | 6 => .array .int
  | 7 => .array .int
  | 8 => .int
  | 9 => .array .int
  | 10 => .array .int
  | _ => .int
theorem nmX0 : ∀ a, a < 12 → ∀ b, b < 12 → a ≠ b → (TX0 a).2.1 ≠ (TX0 b).2.1 := by decide +kernel
theorem tyX0_ok : ∀ k, k < 12 → parseFieldDescriptor (TX0 k).2.2.1 = some (tyX0 k) := by decide +kernel
abbrev cX0_init : ByteArray := prog_2_method_1_code
def yX0_init : MethodName := ⟨RX0, "<init>", "()V"⟩
abbrev cX0_clear : ByteArray := prog_2_method_2_code
def yX0_clear : MethodName := ⟨RX0, "clear", "()V"⟩
abbrev cX0_copyFrom : ByteArray := prog_2_method_3_code
def yX0_copyFrom : MethodName := ⟨RX0, "copyFrom", "(LFloorYears$Floor;)V"⟩
abbrev cX0_hasThing : ByteArray := prog_2_method_4_code
def yX0_hasThing : MethodName := ⟨RX0, "hasThing", "(I)Z"⟩
abbrev cX0_hasGuest : ByteArray := prog_2_method_5_code
def yX0_hasGuest : MethodName := ⟨RX0, "hasGuest", "(I)Z"⟩
abbrev cX0_hasBan : ByteArray := prog_2_method_6_code
def yX0_hasBan : MethodName := ⟨RX0, "hasBan", "(I)Z"⟩
abbrev cX0_isWhole : ByteArray := prog_2_method_7_code
def yX0_isWhole : MethodName := ⟨RX0, "isWhole", "()Z"⟩
abbrev cX0_hasState : ByteArray := prog_2_method_8_code
def yX0_hasState : MethodName := ⟨RX0, "hasState", "(I)Z"⟩
abbrev cX0_states : ByteArray := prog_2_method_9_code
def yX0_states : MethodName := ⟨RX0, "states", "()I"⟩
abbrev cX0_mayBecome : ByteArray := prog_2_method_10_code
def yX0_mayBecome : MethodName := ⟨RX0, "mayBecome", "(II)Z"⟩
abbrev cX0_addThing : ByteArray := prog_2_method_11_code
def yX0_addThing : MethodName := ⟨RX0, "addThing", "(III)V"⟩
abbrev cX0_addGuest : ByteArray := prog_2_method_12_code
def yX0_addGuest : MethodName := ⟨RX0, "addGuest", "(II)V"⟩
abbrev cX0_addBan : ByteArray := prog_2_method_13_code
def yX0_addBan : MethodName := ⟨RX0, "addBan", "(II)V"⟩
abbrev cX0_dropBan : ByteArray := prog_2_method_14_code
def yX0_dropBan : MethodName := ⟨RX0, "dropBan", "(I)V"⟩
abbrev cX0_allPrices : ByteArray := prog_2_method_15_code
def yX0_allPrices : MethodName := ⟨RX0, "allPrices", "()I"⟩
abbrev cX0_soAfter : ByteArray := prog_2_method_16_code
def yX0_soAfter : MethodName := ⟨RX0, "soAfter", "(II)I"⟩
abbrev cX0_afterYear : ByteArray := prog_2_method_17_code
def yX0_afterYear : MethodName := ⟨RX0, "afterYear", "(I)I"⟩
abbrev cX0_afterYears : ByteArray := prog_2_method_18_code
def yX0_afterYears : MethodName := ⟨RX0, "afterYears", "(II)I"⟩
abbrev cX0_breaks : ByteArray := prog_2_method_19_code
def yX0_breaks : MethodName := ⟨RX0, "breaks", "(II)Z"⟩
abbrev cX0_allows : ByteArray := prog_2_method_20_code
def yX0_allows : MethodName := ⟨RX0, "allows", "(I)Z"⟩
abbrev cX0_agrees : ByteArray := prog_2_method_21_code
def yX0_agrees : MethodName := ⟨RX0, "agrees", "(I)Z"⟩
abbrev cX0_settles : ByteArray := prog_2_method_22_code
def yX0_settles : MethodName := ⟨RX0, "settles", "(I)Z"⟩
abbrev cX0_settled : ByteArray := prog_2_method_23_code
def yX0_settled : MethodName := ⟨RX0, "settled", "()I"⟩
abbrev cX0_settledWithout : ByteArray := prog_2_method_24_code
def yX0_settledWithout : MethodName := ⟨RX0, "settledWithout", "(II)I"⟩
abbrev cX0_ringFrom : ByteArray := prog_2_method_25_code
def yX0_ringFrom : MethodName := ⟨RX0, "ringFrom", "(I)I"⟩
abbrev cX0_ringLedBy : ByteArray := prog_2_method_26_code
def yX0_ringLedBy : MethodName := ⟨RX0, "ringLedBy", "(I)I"⟩
abbrev cX0_worth : ByteArray := prog_2_method_27_code
def yX0_worth : MethodName := ⟨RX0, "worth", "(II)I"⟩
def RX1 : String := "FloorYears$Reader"
def TX1 : u_T := fun k => match k with
  | 0 => ("FloorYears$Reader", "tape", "LFloorYears$Tape;", true)
  | 1 => ("FloorYears$Reader", "told", "LFloorYears$Floor;", true)
  | 2 => ("FloorYears$Reader", "flaw", "I", false)
  | 3 => ("FloorYears$Reader", "flawPlace", "I", false)
  | _ => ("FloorYears$Reader", "lines", "I", false)
def tyX1 : Nat → FieldType := fun k => match k with
  | 0 => .object "FloorYears$Tape"
  | 1 => .object "FloorYears$Floor"
  | 2 => .int
  | 3 => .int
  | _ => .int
theorem nmX1 : ∀ a, a < 5 → ∀ b, b < 5 → a ≠ b → (TX1 a).2.1 ≠ (TX1 b).2.1 := by decide +kernel
theorem tyX1_ok : ∀ k, k < 5 → parseFieldDescriptor (TX1 k).2.2.1 = some (tyX1 k) := by decide +kernel
abbrev cX1_init : ByteArray := prog_3_method_1_code
def yX1_init : MethodName := ⟨RX1, "<init>", "()V"⟩
abbrev cX1_readAll : ByteArray := prog_3_method_2_code
def yX1_readAll : MethodName := ⟨RX1, "readAll", "()V"⟩
abbrev cX1_readLine : ByteArray := prog_3_method_3_code
def yX1_readLine : MethodName := ⟨RX1, "readLine", "()Z"⟩
abbrev cX1_wordRead : ByteArray := prog_3_method_4_code
def yX1_wordRead : MethodName := ⟨RX1, "wordRead", "()I"⟩
abbrev cX1_readThing : ByteArray := prog_3_method_5_code
def yX1_readThing : MethodName := ⟨RX1, "readThing", "(I)V"⟩
abbrev cX1_readSo : ByteArray := prog_3_method_6_code
def yX1_readSo : MethodName := ⟨RX1, "readSo", "()V"⟩
abbrev cX1_readGuest : ByteArray := prog_3_method_7_code
def yX1_readGuest : MethodName := ⟨RX1, "readGuest", "()V"⟩
abbrev cX1_readBan : ByteArray := prog_3_method_8_code
def yX1_readBan : MethodName := ⟨RX1, "readBan", "()V"⟩
abbrev cX1_takeNumber : ByteArray := prog_3_method_9_code
def yX1_takeNumber : MethodName := ⟨RX1, "takeNumber", "(I)I"⟩
abbrev cX1_takeStop : ByteArray := prog_3_method_10_code
def yX1_takeStop : MethodName := ⟨RX1, "takeStop", "()V"⟩
abbrev cX1_takeToken : ByteArray := prog_3_method_11_code
def yX1_takeToken : MethodName := ⟨RX1, "takeToken", "()V"⟩
abbrev cX1_failIf : ByteArray := prog_3_method_12_code
def yX1_failIf : MethodName := ⟨RX1, "failIf", "(ZI)V"⟩
def RX2 : String := "FloorYears$Search"
def TX2 : u_T := fun k => match k with
  | 0 => ("FloorYears$Search", "row", "[I", true)
  | 1 => ("FloorYears$Search", "bestRow", "[I", true)
  | 2 => ("FloorYears$Search", "bestYears", "I", false)
  | 3 => ("FloorYears$Search", "bestPrice", "I", false)
  | 4 => ("FloorYears$Search", "found", "Z", false)
  | 5 => ("FloorYears$Search", "goalThing", "I", false)
  | 6 => ("FloorYears$Search", "goalSo", "I", false)
  | _ => ("FloorYears$Search", "rowPrice", "I", false)
def tyX2 : Nat → FieldType := fun k => match k with
  | 0 => .array .int
  | 1 => .array .int
  | 2 => .int
  | 3 => .int
  | 4 => .boolean
  | 5 => .int
  | 6 => .int
  | _ => .int
theorem nmX2 : ∀ a, a < 8 → ∀ b, b < 8 → a ≠ b → (TX2 a).2.1 ≠ (TX2 b).2.1 := by decide +kernel
theorem tyX2_ok : ∀ k, k < 8 → parseFieldDescriptor (TX2 k).2.2.1 = some (tyX2 k) := by decide +kernel
abbrev cX2_init : ByteArray := prog_4_method_1_code
def yX2_init : MethodName := ⟨RX2, "<init>", "()V"⟩
abbrev cX2_aimAt : ByteArray := prog_4_method_2_code
def yX2_aimAt : MethodName := ⟨RX2, "aimAt", "(II)V"⟩
abbrev cX2_tryRows : ByteArray := prog_4_method_3_code
def yX2_tryRows : MethodName := ⟨RX2, "tryRows", "(LFloorYears$Floor;I)V"⟩
abbrev cX2_succeeds : ByteArray := prog_4_method_4_code
def yX2_succeeds : MethodName := ⟨RX2, "succeeds", "(LFloorYears$Floor;I)Z"⟩
abbrev cX2_holdRow : ByteArray := prog_4_method_5_code
def yX2_holdRow : MethodName := ⟨RX2, "holdRow", "(I)V"⟩
abbrev cX2_turnRow : ByteArray := prog_4_method_6_code
def yX2_turnRow : MethodName := ⟨RX2, "turnRow", "(II)V"⟩
abbrev cX2_guestAhead : ByteArray := prog_4_method_7_code
def yX2_guestAhead : MethodName := ⟨RX2, "guestAhead", "(I)I"⟩
def RX3 : String := "FloorYears$Sheet"
def TX3 : u_T := fun k => match k with
  | 0 => ("FloorYears$Sheet", "lane", "I", false)
  | 1 => ("FloorYears$Sheet", "size", "I", false)
  | _ => ("FloorYears$Sheet", "cells", "[I", true)
def tyX3 : Nat → FieldType := fun k => match k with
  | 0 => .int
  | 1 => .int
  | _ => .array .int
theorem nmX3 : ∀ a, a < 3 → ∀ b, b < 3 → a ≠ b → (TX3 a).2.1 ≠ (TX3 b).2.1 := by decide +kernel
theorem tyX3_ok : ∀ k, k < 3 → parseFieldDescriptor (TX3 k).2.2.1 = some (tyX3 k) := by decide +kernel
abbrev cX3_init : ByteArray := prog_5_method_1_code
def yX3_init : MethodName := ⟨RX3, "<init>", "()V"⟩
abbrev cX3_renew : ByteArray := prog_5_method_2_code
def yX3_renew : MethodName := ⟨RX3, "renew", "(II)V"⟩
abbrev cX3_refusal : ByteArray := prog_5_method_3_code
def yX3_refusal : MethodName := ⟨RX3, "refusal", "(II)I"⟩
abbrev cX3_put : ByteArray := prog_5_method_4_code
def yX3_put : MethodName := ⟨RX3, "put", "(II)V"⟩
def RX4 : String := "FloorYears$Sights"
def TX4 : u_T := fun k => match k with
  | 0 => ("FloorYears$Sights", "many", "I", false)
  | 1 => ("FloorYears$Sights", "things", "[I", true)
  | 2 => ("FloorYears$Sights", "years", "[I", true)
  | 3 => ("FloorYears$Sights", "so", "[Z", true)
  | 4 => ("FloorYears$Sights", "left", "I", false)
  | _ => ("FloorYears$Sights", "later", "[I", true)
def tyX4 : Nat → FieldType := fun k => match k with
  | 0 => .int
  | 1 => .array .int
  | 2 => .array .int
  | 3 => .array .boolean
  | 4 => .int
  | _ => .array .int
theorem nmX4 : ∀ a, a < 6 → ∀ b, b < 6 → a ≠ b → (TX4 a).2.1 ≠ (TX4 b).2.1 := by decide +kernel
theorem tyX4_ok : ∀ k, k < 6 → parseFieldDescriptor (TX4 k).2.2.1 = some (tyX4 k) := by decide +kernel
abbrev cX4_init : ByteArray := prog_6_method_1_code
def yX4_init : MethodName := ⟨RX4, "<init>", "()V"⟩
abbrev cX4_add : ByteArray := prog_6_method_2_code
def yX4_add : MethodName := ⟨RX4, "add", "(IIZ)V"⟩
abbrev cX4_suit : ByteArray := prog_6_method_3_code
def yX4_suit : MethodName := ⟨RX4, "suit", "(LFloorYears$Floor;I)Z"⟩
abbrev cX4_suitYear : ByteArray := prog_6_method_4_code
def yX4_suitYear : MethodName := ⟨RX4, "suitYear", "(II)Z"⟩
abbrev cX4_gather : ByteArray := prog_6_method_5_code
def yX4_gather : MethodName := ⟨RX4, "gather", "(LFloorYears$Floor;)V"⟩
abbrev cX4_worstLeft : ByteArray := prog_6_method_6_code
def yX4_worstLeft : MethodName := ⟨RX4, "worstLeft", "(I)I"⟩
abbrev cX4_passYear : ByteArray := prog_6_method_7_code
def yX4_passYear : MethodName := ⟨RX4, "passYear", "(LFloorYears$Floor;)V"⟩
def RX5 : String := "FloorYears$Tally"
def TX5 : u_T := fun k => match k with
  | 0 => ("FloorYears$Tally", "many", "I", false)
  | 1 => ("FloorYears$Tally", "least", "I", false)
  | 2 => ("FloorYears$Tally", "inAll", "I", false)
  | _ => ("FloorYears$Tally", "inSome", "I", false)
def tyX5 : Nat → FieldType := fun k => match k with
  | 0 => .int
  | 1 => .int
  | 2 => .int
  | _ => .int
theorem nmX5 : ∀ a, a < 4 → ∀ b, b < 4 → a ≠ b → (TX5 a).2.1 ≠ (TX5 b).2.1 := by decide +kernel
theorem tyX5_ok : ∀ k, k < 4 → parseFieldDescriptor (TX5 k).2.2.1 = some (tyX5 k) := by decide +kernel
abbrev cX5_init : ByteArray := prog_7_method_1_code
def yX5_init : MethodName := ⟨RX5, "<init>", "()V"⟩
abbrev cX5_clear : ByteArray := prog_7_method_2_code
def yX5_clear : MethodName := ⟨RX5, "clear", "()V"⟩
abbrev cX5_take : ByteArray := prog_7_method_3_code
def yX5_take : MethodName := ⟨RX5, "take", "(I)V"⟩
abbrev cX5_answer : ByteArray := prog_7_method_4_code
def yX5_answer : MethodName := ⟨RX5, "answer", "(I)I"⟩
def RX6 : String := "FloorYears$Tape"
def TX6 : u_T := fun k => match k with
  | 0 => ("FloorYears$Tape", "bytes", "[B", true)
  | 1 => ("FloorYears$Tape", "length", "I", false)
  | 2 => ("FloorYears$Tape", "place", "I", false)
  | 3 => ("FloorYears$Tape", "token", "I", false)
  | _ => ("FloorYears$Tape", "tokenPlace", "I", false)
def tyX6 : Nat → FieldType := fun k => match k with
  | 0 => .array .byte
  | 1 => .int
  | 2 => .int
  | 3 => .int
  | _ => .int
theorem nmX6 : ∀ a, a < 5 → ∀ b, b < 5 → a ≠ b → (TX6 a).2.1 ≠ (TX6 b).2.1 := by decide +kernel
theorem tyX6_ok : ∀ k, k < 5 → parseFieldDescriptor (TX6 k).2.2.1 = some (tyX6 k) := by decide +kernel
abbrev cX6_init : ByteArray := prog_8_method_1_code
def yX6_init : MethodName := ⟨RX6, "<init>", "()V"⟩
abbrev cX6_put : ByteArray := prog_8_method_2_code
def yX6_put : MethodName := ⟨RX6, "put", "(I)V"⟩
abbrev cX6_rewind : ByteArray := prog_8_method_3_code
def yX6_rewind : MethodName := ⟨RX6, "rewind", "()V"⟩
abbrev cX6_readToken : ByteArray := prog_8_method_4_code
def yX6_readToken : MethodName := ⟨RX6, "readToken", "()V"⟩
abbrev cX6_sortAt : ByteArray := prog_8_method_5_code
def yX6_sortAt : MethodName := ⟨RX6, "sortAt", "(I)I"⟩
abbrev cX6_tokenValue : ByteArray := prog_8_method_6_code
def yX6_tokenValue : MethodName := ⟨RX6, "tokenValue", "()I"⟩
abbrev cX6_tokenIs : ByteArray := prog_8_method_7_code
def yX6_tokenIs : MethodName := ⟨RX6, "tokenIs", "(Ljava/lang/String;)Z"⟩
def RX7 : String := "FloorYears"
def TX7 : u_T := fun k => match k with
  | 0 => ("FloorYears", "now", "LFloorYears$Floor;", true)
  | 1 => ("FloorYears", "trial", "LFloorYears$Floor;", true)
  | 2 => ("FloorYears", "images", "[LFloorYears$Floor;", true)
  | 3 => ("FloorYears", "kept", "[Z", true)
  | 4 => ("FloorYears", "reader", "LFloorYears$Reader;", true)
  | 5 => ("FloorYears", "sights", "LFloorYears$Sights;", true)
  | 6 => ("FloorYears", "search", "LFloorYears$Search;", true)
  | 7 => ("FloorYears", "tally", "LFloorYears$Tally;", true)
  | 8 => ("FloorYears", "sheets", "[LFloorYears$Sheet;", true)
  | _ => ("FloorYears", "tornFault", "I", false)
def tyX7 : Nat → FieldType := fun k => match k with
  | 0 => .object "FloorYears$Floor"
  | 1 => .object "FloorYears$Floor"
  | 2 => .array (.object "FloorYears$Floor")
  | 3 => .array .boolean
  | 4 => .object "FloorYears$Reader"
  | 5 => .object "FloorYears$Sights"
  | 6 => .object "FloorYears$Search"
  | 7 => .object "FloorYears$Tally"
  | 8 => .array (.object "FloorYears$Sheet")
  | _ => .int
theorem nmX7 : ∀ a, a < 10 → ∀ b, b < 10 → a ≠ b → (TX7 a).2.1 ≠ (TX7 b).2.1 := by decide +kernel
theorem tyX7_ok : ∀ k, k < 10 → parseFieldDescriptor (TX7 k).2.2.1 = some (tyX7 k) := by decide +kernel
abbrev cX7_init : ByteArray := prog_1_method_1_code
def yX7_init : MethodName := ⟨RX7, "<init>", "()V"⟩
abbrev cX7_feed : ByteArray := prog_1_method_2_code
def yX7_feed : MethodName := ⟨RX7, "feed", "(I)I"⟩
abbrev cX7_end : ByteArray := prog_1_method_3_code
def yX7_end : MethodName := ⟨RX7, "end", "(I)I"⟩
abbrev cX7_text : ByteArray := prog_1_method_4_code
def yX7_text : MethodName := ⟨RX7, "text", "()I"⟩
abbrev cX7_fault : ByteArray := prog_1_method_5_code
def yX7_fault : MethodName := ⟨RX7, "fault", "()I"⟩
abbrev cX7_rule : ByteArray := prog_1_method_6_code
def yX7_rule : MethodName := ⟨RX7, "rule", "(I)I"⟩
abbrev cX7_thing : ByteArray := prog_1_method_7_code
def yX7_thing : MethodName := ⟨RX7, "thing", "(II)I"⟩
abbrev cX7_guest : ByteArray := prog_1_method_8_code
def yX7_guest : MethodName := ⟨RX7, "guest", "(II)I"⟩
abbrev cX7_ban : ByteArray := prog_1_method_9_code
def yX7_ban : MethodName := ⟨RX7, "ban", "(II)I"⟩
abbrev cX7_alter : ByteArray := prog_1_method_10_code
def yX7_alter : MethodName := ⟨RX7, "alter", "(III)I"⟩
abbrev cX7_hire : ByteArray := prog_1_method_11_code
def yX7_hire : MethodName := ⟨RX7, "hire", "(III)I"⟩
abbrev cX7_forbid : ByteArray := prog_1_method_12_code
def yX7_forbid : MethodName := ⟨RX7, "forbid", "(II)I"⟩
abbrev cX7_lift : ByteArray := prog_1_method_13_code
def yX7_lift : MethodName := ⟨RX7, "lift", "(I)I"⟩
abbrev cX7_undo : ByteArray := prog_1_method_14_code
def yX7_undo : MethodName := ⟨RX7, "undo", "(I)I"⟩
abbrev cX7_go : ByteArray := prog_1_method_15_code
def yX7_go : MethodName := ⟨RX7, "go", "(I)I"⟩
abbrev cX7_ahead : ByteArray := prog_1_method_16_code
def yX7_ahead : MethodName := ⟨RX7, "ahead", "(I)I"⟩
abbrev cX7_next : ByteArray := prog_1_method_17_code
def yX7_next : MethodName := ⟨RX7, "next", "(I)I"⟩
abbrev cX7_ring : ByteArray := prog_1_method_18_code
def yX7_ring : MethodName := ⟨RX7, "ring", "(I)I"⟩
abbrev cX7_rings : ByteArray := prog_1_method_19_code
def yX7_rings : MethodName := ⟨RX7, "rings", "(I)I"⟩
abbrev cX7_agree : ByteArray := prog_1_method_20_code
def yX7_agree : MethodName := ⟨RX7, "agree", "(I)I"⟩
abbrev cX7_before : ByteArray := prog_1_method_21_code
def yX7_before : MethodName := ⟨RX7, "before", "(II)I"⟩
abbrev cX7_gardens : ByteArray := prog_1_method_22_code
def yX7_gardens : MethodName := ⟨RX7, "gardens", "()I"⟩
abbrev cX7_clash : ByteArray := prog_1_method_23_code
def yX7_clash : MethodName := ⟨RX7, "clash", "()I"⟩
abbrev cX7_way : ByteArray := prog_1_method_24_code
def yX7_way : MethodName := ⟨RX7, "way", "(III)I"⟩
abbrev cX7_peace : ByteArray := prog_1_method_25_code
def yX7_peace : MethodName := ⟨RX7, "peace", "(II)I"⟩
abbrev cX7_amend : ByteArray := prog_1_method_26_code
def yX7_amend : MethodName := ⟨RX7, "amend", "(I)I"⟩
abbrev cX7_strict : ByteArray := prog_1_method_27_code
def yX7_strict : MethodName := ⟨RX7, "strict", "(I)I"⟩
abbrev cX7_luck : ByteArray := prog_1_method_28_code
def yX7_luck : MethodName := ⟨RX7, "luck", "(II)J"⟩
abbrev cX7_calm : ByteArray := prog_1_method_29_code
def yX7_calm : MethodName := ⟨RX7, "calm", "(II)J"⟩
abbrev cX7_mean : ByteArray := prog_1_method_30_code
def yX7_mean : MethodName := ⟨RX7, "mean", "(II)J"⟩
abbrev cX7_see : ByteArray := prog_1_method_31_code
def yX7_see : MethodName := ⟨RX7, "see", "(IIZ)I"⟩
abbrev cX7_forget : ByteArray := prog_1_method_32_code
def yX7_forget : MethodName := ⟨RX7, "forget", "(I)I"⟩
abbrev cX7_fits : ByteArray := prog_1_method_33_code
def yX7_fits : MethodName := ⟨RX7, "fits", "(I)I"⟩
abbrev cX7_look : ByteArray := prog_1_method_34_code
def yX7_look : MethodName := ⟨RX7, "look", "(I)I"⟩
abbrev cX7_drift : ByteArray := prog_1_method_35_code
def yX7_drift : MethodName := ⟨RX7, "drift", "(III)I"⟩
abbrev cX7_keep : ByteArray := prog_1_method_36_code
def yX7_keep : MethodName := ⟨RX7, "keep", "(I)I"⟩
abbrev cX7_back : ByteArray := prog_1_method_37_code
def yX7_back : MethodName := ⟨RX7, "back", "(I)I"⟩
abbrev cX7_sheet : ByteArray := prog_1_method_38_code
def yX7_sheet : MethodName := ⟨RX7, "sheet", "(III)I"⟩
abbrev cX7_lay : ByteArray := prog_1_method_39_code
def yX7_lay : MethodName := ⟨RX7, "lay", "(III)I"⟩
abbrev cX7_read : ByteArray := prog_1_method_40_code
def yX7_read : MethodName := ⟨RX7, "read", "(IIII)I"⟩
abbrev cX7_torn : ByteArray := prog_1_method_41_code
def yX7_torn : MethodName := ⟨RX7, "torn", "()I"⟩
abbrev cX7_count : ByteArray := prog_1_method_42_code
def yX7_count : MethodName := ⟨RX7, "count", "(I)I"⟩
abbrev cX7_visit : ByteArray := prog_1_method_43_code
def yX7_visit : MethodName := ⟨RX7, "visit", "(I)Z"⟩
abbrev cX7_afterSlips : ByteArray := prog_1_method_44_code
def yX7_afterSlips : MethodName := ⟨RX7, "afterSlips", "(III)J"⟩
abbrev cX7_power : ByteArray := prog_1_method_45_code
def yX7_power : MethodName := ⟨RX7, "power", "(II)J"⟩
abbrev cX7_commonDivisor : ByteArray := prog_1_method_46_code
def yX7_commonDivisor : MethodName := ⟨RX7, "commonDivisor", "(JJ)J"⟩
abbrev cX7_bit : ByteArray := prog_1_method_47_code
def yX7_bit : MethodName := ⟨RX7, "bit", "(Z)I"⟩
abbrev cX7_isBit : ByteArray := prog_1_method_48_code
def yX7_isBit : MethodName := ⟨RX7, "isBit", "(I)Z"⟩
abbrev cX7_isSo : ByteArray := prog_1_method_49_code
def yX7_isSo : MethodName := ⟨RX7, "isSo", "(II)Z"⟩
abbrev cX7_undone : ByteArray := prog_1_method_50_code
def yX7_undone : MethodName := ⟨RX7, "undone", "(II)I"⟩
abbrev cX7_isWayYear : ByteArray := prog_1_method_51_code
def yX7_isWayYear : MethodName := ⟨RX7, "isWayYear", "(I)Z"⟩
abbrev cX7_isSheet : ByteArray := prog_1_method_52_code
def yX7_isSheet : MethodName := ⟨RX7, "isSheet", "(I)Z"⟩
abbrev cX7_isLane : ByteArray := prog_1_method_53_code
def yX7_isLane : MethodName := ⟨RX7, "isLane", "(I)Z"⟩
def RX8 : String := "FloorYearsModel"
def TX8 : u_T := fun k => match k with
  | 0 => ("FloorYearsModel", "state", "[I", true)
  | 1 => ("FloorYearsModel", "thingMany", "I", false)
  | 2 => ("FloorYearsModel", "guestMany", "I", false)
  | 3 => ("FloorYearsModel", "readPage", "[I", true)
  | 4 => ("FloorYearsModel", "readThings", "I", false)
  | 5 => ("FloorYearsModel", "readGuests", "I", false)
  | 6 => ("FloorYearsModel", "high", "I", false)
  | 7 => ("FloorYearsModel", "tape", "[I", true)
  | 8 => ("FloorYearsModel", "taped", "I", false)
  | 9 => ("FloorYearsModel", "fault", "I", false)
  | 10 => ("FloorYearsModel", "broken", "I", false)
  | 11 => ("FloorYearsModel", "brokenAt", "I", false)
  | 12 => ("FloorYearsModel", "spot", "I", false)
  | 13 => ("FloorYearsModel", "here", "I", false)
  | 14 => ("FloorYearsModel", "token", "I", false)
  | 15 => ("FloorYearsModel", "value", "I", false)
  | 16 => ("FloorYearsModel", "cuts", "[I", true)
  | 17 => ("FloorYearsModel", "letters", "[I", true)
  | 18 => ("FloorYearsModel", "toldMany", "I", false)
  | 19 => ("FloorYearsModel", "toldLeast", "I", false)
  | 20 => ("FloorYearsModel", "toldAll", "I", false)
  | 21 => ("FloorYearsModel", "toldSome", "I", false)
  | 22 => ("FloorYearsModel", "wayState", "I", false)
  | 23 => ("FloorYearsModel", "wayPrice", "I", false)
  | 24 => ("FloorYearsModel", "wayBest", "I", false)
  | 25 => ("FloorYearsModel", "wayCheap", "I", false)
  | 26 => ("FloorYearsModel", "seen", "[I", true)
  | 27 => ("FloorYearsModel", "seenMany", "I", false)
  | 28 => ("FloorYearsModel", "soMany", "[I", true)
  | 29 => ("FloorYearsModel", "isKept", "[Z", true)
  | 30 => ("FloorYearsModel", "lanes", "[I", true)
  | 31 => ("FloorYearsModel", "lengths", "[I", true)
  | 32 => ("FloorYearsModel", "cells", "[I", true)
  | _ => ("FloorYearsModel", "torn", "I", false)
def tyX8 : Nat → FieldType := fun k => match k with
  | 0 => .array .int
  | 1 => .int
  | 2 => .int
  | 3 => .array .int
  | 4 => .int
  | 5 => .int
  | 6 => .int
  | 7 => .array .int
  | 8 => .int
  | 9 => .int
  | 10 => .int
  | 11 => .int
  | 12 => .int
  | 13 => .int
  | 14 => .int
  | 15 => .int
  | 16 => .array .int
  | 17 => .array .int
  | 18 => .int
  | 19 => .int
  | 20 => .int
  | 21 => .int
  | 22 => .int
  | 23 => .int
  | 24 => .int
  | 25 => .int
  | 26 => .array .int
  | 27 => .int
  | 28 => .array .int
  | 29 => .array .boolean
  | 30 => .array .int
  | 31 => .array .int
  | 32 => .array .int
  | _ => .int
theorem nmX8 : ∀ a, a < 34 → ∀ b, b < 34 → a ≠ b → (TX8 a).2.1 ≠ (TX8 b).2.1 := by decide +kernel
theorem tyX8_ok : ∀ k, k < 34 → parseFieldDescriptor (TX8 k).2.2.1 = some (tyX8 k) := by decide +kernel
abbrev cX8_init : ByteArray := prog_10_method_1_code
def yX8_init : MethodName := ⟨RX8, "<init>", "()V"⟩
abbrev cX8_in : ByteArray := prog_10_method_3_code
def yX8_in : MethodName := ⟨RX8, "in", "(JJJ)Z"⟩
abbrev cX8_feed : ByteArray := prog_10_method_4_code
def yX8_feed : MethodName := ⟨RX8, "feed", "(I)I"⟩
abbrev cX8_end : ByteArray := prog_10_method_5_code
def yX8_end : MethodName := ⟨RX8, "end", "(I)I"⟩
abbrev cX8_byteAt : ByteArray := prog_10_method_6_code
def yX8_byteAt : MethodName := ⟨RX8, "byteAt", "(I)I"⟩
abbrev cX8_fails : ByteArray := prog_10_method_7_code
def yX8_fails : MethodName := ⟨RX8, "fails", "(I)V"⟩
abbrev cX8_nameHere : ByteArray := prog_10_method_8_code
def yX8_nameHere : MethodName := ⟨RX8, "nameHere", "()I"⟩
abbrev cX8_step : ByteArray := prog_10_method_9_code
def yX8_step : MethodName := ⟨RX8, "step", "()V"⟩
abbrev cX8_other : ByteArray := prog_10_method_10_code
def yX8_other : MethodName := ⟨RX8, "other", "(III)I"⟩
abbrev cX8_thingHere : ByteArray := prog_10_method_11_code
def yX8_thingHere : MethodName := ⟨RX8, "thingHere", "(I)I"⟩
abbrev cX8_readBan : ByteArray := prog_10_method_12_code
def yX8_readBan : MethodName := ⟨RX8, "readBan", "()V"⟩
abbrev cX8_readMore : ByteArray := prog_10_method_13_code
def yX8_readMore : MethodName := ⟨RX8, "readMore", "(I)V"⟩
abbrev cX8_readLine : ByteArray := prog_10_method_14_code
def yX8_readLine : MethodName := ⟨RX8, "readLine", "()V"⟩
abbrev cX8_text : ByteArray := prog_10_method_15_code
def yX8_text : MethodName := ⟨RX8, "text", "()I"⟩
abbrev cX8_fault : ByteArray := prog_10_method_16_code
def yX8_fault : MethodName := ⟨RX8, "fault", "()I"⟩
abbrev cX8_isThing : ByteArray := prog_10_method_17_code
def yX8_isThing : MethodName := ⟨RX8, "isThing", "(I)Z"⟩
abbrev cX8_isGuest : ByteArray := prog_10_method_18_code
def yX8_isGuest : MethodName := ⟨RX8, "isGuest", "(I)Z"⟩
abbrev cX8_isBan : ByteArray := prog_10_method_19_code
def yX8_isBan : MethodName := ⟨RX8, "isBan", "(I)Z"⟩
abbrev cX8_states : ByteArray := prog_10_method_20_code
def yX8_states : MethodName := ⟨RX8, "states", "()I"⟩
abbrev cX8_isState : ByteArray := prog_10_method_21_code
def yX8_isState : MethodName := ⟨RX8, "isState", "(I)Z"⟩
abbrev cX8_firstOf : ByteArray := prog_10_method_22_code
def yX8_firstOf : MethodName := ⟨RX8, "firstOf", "(I)I"⟩
abbrev cX8_secondOf : ByteArray := prog_10_method_23_code
def yX8_secondOf : MethodName := ⟨RX8, "secondOf", "(I)I"⟩
abbrev cX8_willBe : ByteArray := prog_10_method_24_code
def yX8_willBe : MethodName := ⟨RX8, "willBe", "(II)Z"⟩
abbrev cX8_nextOf : ByteArray := prog_10_method_25_code
def yX8_nextOf : MethodName := ⟨RX8, "nextOf", "(I)I"⟩
abbrev cX8_afterYears : ByteArray := prog_10_method_26_code
def yX8_afterYears : MethodName := ⟨RX8, "afterYears", "(II)I"⟩
abbrev cX8_isBroken : ByteArray := prog_10_method_27_code
def yX8_isBroken : MethodName := ⟨RX8, "isBroken", "(II)Z"⟩
abbrev cX8_isAllowed : ByteArray := prog_10_method_28_code
def yX8_isAllowed : MethodName := ⟨RX8, "isAllowed", "(I)Z"⟩
abbrev cX8_agrees : ByteArray := prog_10_method_29_code
def yX8_agrees : MethodName := ⟨RX8, "agrees", "(I)Z"⟩
abbrev cX8_rule : ByteArray := prog_10_method_30_code
def yX8_rule : MethodName := ⟨RX8, "rule", "(I)I"⟩
abbrev cX8_thing : ByteArray := prog_10_method_31_code
def yX8_thing : MethodName := ⟨RX8, "thing", "(II)I"⟩
abbrev cX8_guest : ByteArray := prog_10_method_32_code
def yX8_guest : MethodName := ⟨RX8, "guest", "(II)I"⟩
abbrev cX8_ban : ByteArray := prog_10_method_33_code
def yX8_ban : MethodName := ⟨RX8, "ban", "(II)I"⟩
abbrev cX8_puts : ByteArray := prog_10_method_34_code
def yX8_puts : MethodName := ⟨RX8, "puts", "(ZIII)I"⟩
abbrev cX8_alter : ByteArray := prog_10_method_35_code
def yX8_alter : MethodName := ⟨RX8, "alter", "(III)I"⟩
abbrev cX8_becomes : ByteArray := prog_10_method_36_code
def yX8_becomes : MethodName := ⟨RX8, "becomes", "(II)I"⟩
abbrev cX8_hire : ByteArray := prog_10_method_37_code
def yX8_hire : MethodName := ⟨RX8, "hire", "(III)I"⟩
abbrev cX8_forbid : ByteArray := prog_10_method_38_code
def yX8_forbid : MethodName := ⟨RX8, "forbid", "(II)I"⟩
abbrev cX8_lift : ByteArray := prog_10_method_39_code
def yX8_lift : MethodName := ⟨RX8, "lift", "(I)I"⟩
abbrev cX8_undoes : ByteArray := prog_10_method_40_code
def yX8_undoes : MethodName := ⟨RX8, "undoes", "(I)I"⟩
abbrev cX8_undo : ByteArray := prog_10_method_41_code
def yX8_undo : MethodName := ⟨RX8, "undo", "(I)I"⟩
abbrev cX8_go : ByteArray := prog_10_method_42_code
def yX8_go : MethodName := ⟨RX8, "go", "(I)I"⟩
abbrev cX8_ahead : ByteArray := prog_10_method_43_code
def yX8_ahead : MethodName := ⟨RX8, "ahead", "(I)I"⟩
abbrev cX8_next : ByteArray := prog_10_method_44_code
def yX8_next : MethodName := ⟨RX8, "next", "(I)I"⟩
abbrev cX8_ringOf : ByteArray := prog_10_method_45_code
def yX8_ringOf : MethodName := ⟨RX8, "ringOf", "(I)I"⟩
abbrev cX8_ring : ByteArray := prog_10_method_46_code
def yX8_ring : MethodName := ⟨RX8, "ring", "(I)I"⟩
abbrev cX8_rings : ByteArray := prog_10_method_47_code
def yX8_rings : MethodName := ⟨RX8, "rings", "(I)I"⟩
abbrev cX8_tellsNone : ByteArray := prog_10_method_48_code
def yX8_tellsNone : MethodName := ⟨RX8, "tellsNone", "()V"⟩
abbrev cX8_tells : ByteArray := prog_10_method_49_code
def yX8_tells : MethodName := ⟨RX8, "tells", "(I)V"⟩
abbrev cX8_told : ByteArray := prog_10_method_50_code
def yX8_told : MethodName := ⟨RX8, "told", "(I)I"⟩
abbrev cX8_agreeMany : ByteArray := prog_10_method_51_code
def yX8_agreeMany : MethodName := ⟨RX8, "agreeMany", "()I"⟩
abbrev cX8_agree : ByteArray := prog_10_method_52_code
def yX8_agree : MethodName := ⟨RX8, "agree", "(I)I"⟩
abbrev cX8_comesOf : ByteArray := prog_10_method_53_code
def yX8_comesOf : MethodName := ⟨RX8, "comesOf", "(I)V"⟩
abbrev cX8_before : ByteArray := prog_10_method_54_code
def yX8_before : MethodName := ⟨RX8, "before", "(II)I"⟩
abbrev cX8_gardens : ByteArray := prog_10_method_55_code
def yX8_gardens : MethodName := ⟨RX8, "gardens", "()I"⟩
abbrev cX8_clash : ByteArray := prog_10_method_56_code
def yX8_clash : MethodName := ⟨RX8, "clash", "()I"⟩
abbrev cX8_goesWay : ByteArray := prog_10_method_57_code
def yX8_goesWay : MethodName := ⟨RX8, "goesWay", "(II)Z"⟩
abbrev cX8_whoIn : ByteArray := prog_10_method_58_code
def yX8_whoIn : MethodName := ⟨RX8, "whoIn", "(III)I"⟩
abbrev cX8_powerOf : ByteArray := prog_10_method_59_code
def yX8_powerOf : MethodName := ⟨RX8, "powerOf", "(I)I"⟩
abbrev cX8_cheapest : ByteArray := prog_10_method_60_code
def yX8_cheapest : MethodName := ⟨RX8, "cheapest", "(III)V"⟩
abbrev cX8_toldWay : ByteArray := prog_10_method_61_code
def yX8_toldWay : MethodName := ⟨RX8, "toldWay", "(II)I"⟩
abbrev cX8_way : ByteArray := prog_10_method_62_code
def yX8_way : MethodName := ⟨RX8, "way", "(III)I"⟩
abbrev cX8_peace : ByteArray := prog_10_method_63_code
def yX8_peace : MethodName := ⟨RX8, "peace", "(II)I"⟩
abbrev cX8_amend : ByteArray := prog_10_method_64_code
def yX8_amend : MethodName := ⟨RX8, "amend", "(I)I"⟩
abbrev cX8_strict : ByteArray := prog_10_method_65_code
def yX8_strict : MethodName := ⟨RX8, "strict", "(I)I"⟩
abbrev cX8_lowest : ByteArray := prog_10_method_66_code
def yX8_lowest : MethodName := ⟨RX8, "lowest", "(JJI)J"⟩
abbrev cX8_bitsOf : ByteArray := prog_10_method_67_code
def yX8_bitsOf : MethodName := ⟨RX8, "bitsOf", "(I)I"⟩
abbrev cX8_bySlips : ByteArray := prog_10_method_68_code
def yX8_bySlips : MethodName := ⟨RX8, "bySlips", "(III)J"⟩
abbrev cX8_luck : ByteArray := prog_10_method_69_code
def yX8_luck : MethodName := ⟨RX8, "luck", "(II)J"⟩
abbrev cX8_calm : ByteArray := prog_10_method_70_code
def yX8_calm : MethodName := ⟨RX8, "calm", "(II)J"⟩
abbrev cX8_mean : ByteArray := prog_10_method_71_code
def yX8_mean : MethodName := ⟨RX8, "mean", "(II)J"⟩
abbrev cX8_see : ByteArray := prog_10_method_72_code
def yX8_see : MethodName := ⟨RX8, "see", "(IIZ)I"⟩
abbrev cX8_forget : ByteArray := prog_10_method_73_code
def yX8_forget : MethodName := ⟨RX8, "forget", "(I)I"⟩
abbrev cX8_doesFit : ByteArray := prog_10_method_74_code
def yX8_doesFit : MethodName := ⟨RX8, "doesFit", "(I)Z"⟩
abbrev cX8_fits : ByteArray := prog_10_method_75_code
def yX8_fits : MethodName := ⟨RX8, "fits", "(I)I"⟩
abbrev cX8_look : ByteArray := prog_10_method_76_code
def yX8_look : MethodName := ⟨RX8, "look", "(I)I"⟩
abbrev cX8_drift : ByteArray := prog_10_method_77_code
def yX8_drift : MethodName := ⟨RX8, "drift", "(III)I"⟩
abbrev cX8_copies : ByteArray := prog_10_method_78_code
def yX8_copies : MethodName := ⟨RX8, "copies", "(II)V"⟩
abbrev cX8_keep : ByteArray := prog_10_method_79_code
def yX8_keep : MethodName := ⟨RX8, "keep", "(I)I"⟩
abbrev cX8_back : ByteArray := prog_10_method_80_code
def yX8_back : MethodName := ⟨RX8, "back", "(I)I"⟩
abbrev cX8_sheet : ByteArray := prog_10_method_81_code
def yX8_sheet : MethodName := ⟨RX8, "sheet", "(III)I"⟩
abbrev cX8_lay : ByteArray := prog_10_method_82_code
def yX8_lay : MethodName := ⟨RX8, "lay", "(III)I"⟩
abbrev cX8_read : ByteArray := prog_10_method_83_code
def yX8_read : MethodName := ⟨RX8, "read", "(IIII)I"⟩
abbrev cX8_torn : ByteArray := prog_10_method_84_code
def yX8_torn : MethodName := ⟨RX8, "torn", "()I"⟩
abbrev cX8_count : ByteArray := prog_10_method_85_code
def yX8_count : MethodName := ⟨RX8, "count", "(I)I"⟩
def RJ6 : String := "java/lang/Integer"
abbrev cJ6_bitCount_0f7a4 : ByteArray := prog_11_method_49_code
def yJ6_bitCount_0f7a4 : MethodName := ⟨RJ6, "bitCount", "(I)I"⟩
def RJ13 : String := "java/lang/Long"
abbrev cJ13_bitCount_95d88 : ByteArray := prog_12_method_50_code
def yJ13_bitCount_95d88 : MethodName := ⟨RJ13, "bitCount", "(J)I"⟩
def RJ9 : String := "java/lang/Math"
abbrev cJ9_max_7cf53 : ByteArray := prog_13_method_65_code
def yJ9_max_7cf53 : MethodName := ⟨RJ9, "max", "(II)I"⟩
abbrev cJ9_min_7cf53 : ByteArray := prog_13_method_69_code
def yJ9_min_7cf53 : MethodName := ⟨RJ9, "min", "(II)I"⟩
def RJ0 : String := "java/lang/String"
abbrev cJ0_length_8abf5 : ByteArray := prog_14_method_54_code
def yJ0_length_8abf5 : MethodName := ⟨RJ0, "length", "()I"⟩
abbrev cJ0_charAt_5068e : ByteArray := prog_14_method_56_code
def yJ0_charAt_5068e : MethodName := ⟨RJ0, "charAt", "(I)C"⟩
abbrev cJ0_coder_7d493 : ByteArray := prog_14_method_152_code
def yJ0_coder_7d493 : MethodName := ⟨RJ0, "coder", "()B"⟩
abbrev cJ0_isLatin1_aae02 : ByteArray := prog_14_method_154_code
def yJ0_isLatin1_aae02 : MethodName := ⟨RJ0, "isLatin1", "()Z"⟩
abbrev cJ0_checkIndex_df160 : ByteArray := prog_14_method_155_code
def yJ0_checkIndex_df160 : MethodName := ⟨RJ0, "checkIndex", "(II)V"⟩
def RJ1 : String := "java/lang/StringLatin1"
abbrev cJ1_charAt_3b067 : ByteArray := prog_15_method_2_code
def yJ1_charAt_3b067 : MethodName := ⟨RJ1, "charAt", "([BI)C"⟩
def RJ2 : String := "java/lang/StringUTF16"
abbrev cJ2_getChar_3b067 : ByteArray := prog_16_method_5_code
def yJ2_getChar_3b067 : MethodName := ⟨RJ2, "getChar", "([BI)C"⟩
abbrev cJ2_length_9d52b : ByteArray := prog_16_method_6_code
def yJ2_length_9d52b : MethodName := ⟨RJ2, "length", "([B)I"⟩
abbrev cJ2_charAt_3b067 : ByteArray := prog_16_method_83_code
def yJ2_charAt_3b067 : MethodName := ⟨RJ2, "charAt", "([BI)C"⟩
abbrev cJ2_checkIndex_2214a : ByteArray := prog_16_method_91_code
def yJ2_checkIndex_2214a : MethodName := ⟨RJ2, "checkIndex", "(I[B)V"⟩
def RJ10 : String := "java/lang/System"
def RJ3 : String := "jdk/internal/util/Preconditions"
abbrev cJ3_checkIndex_8e157 : ByteArray := prog_18_method_11_code
def yJ3_checkIndex_8e157 : MethodName := ⟨RJ3, "checkIndex", "(IILjava/util/function/BiFunction;)I"⟩
def RL : String := "FloorYearsLaw"
abbrev cL_law : ByteArray := code
def yL_law : MethodName := ⟨RL, "law", "([I)Z"⟩
abbrev vwCl : List vw_C := [(RX0, TX0, 12), (RX1, TX1, 5), (RX2, TX2, 8), (RX3, TX3, 3), (RX4, TX4, 6), (RX5, TX5, 4), (RX6, TX6, 5), (RX7, TX7, 10), (RX8, TX8, 34)]
end
section
theorem dX0_init_0 : decode cX0_init 0 = .ok (.aload_n 0, 1) := by decide +kernel
theorem dX0_init_1 : decode cX0_init 1 = .ok (.invokespecial 3, 3) := by decide +kernel
theorem dX0_init_4 : decode cX0_init 4 = .ok (.aload_n 0, 1) := by decide +kernel
theorem dX0_init_5 : decode cX0_init 5 = .ok (.bipush 6, 2) := by decide +kernel
theorem dX0_init_7 : decode cX0_init 7 = .ok (.newarray .int, 2) := by decide +kernel
theorem dX0_init_9 : decode cX0_init 9 = .ok (.putfield 9, 3) := by decide +kernel
theorem dX0_init_12 : decode cX0_init 12 = .ok (.aload_n 0, 1) := by decide +kernel
theorem dX0_init_13 : decode cX0_init 13 = .ok (.bipush 6, 2) := by decide +kernel
theorem dX0_init_15 : decode cX0_init 15 = .ok (.newarray .int, 2) := by decide +kernel
theorem dX0_init_17 : decode cX0_init 17 = .ok (.putfield 15, 3) := by decide +kernel
theorem dX0_init_20 : decode cX0_init 20 = .ok (.aload_n 0, 1) := by decide +kernel
theorem dX0_init_21 : decode cX0_init 21 = .ok (.bipush 6, 2) := by decide +kernel
theorem dX0_init_23 : decode cX0_init 23 = .ok (.newarray .int, 2) := by decide +kernel
theorem dX0_init_25 : decode cX0_init 25 = .ok (.putfield 18, 3) := by decide +kernel
theorem dX0_init_28 : decode cX0_init 28 = .ok (.aload_n 0, 1) := by decide +kernel
theorem dX0_init_29 : decode cX0_init 29 = .ok (.iconst 4, 1) := by decide +kernel
theorem dX0_init_30 : decode cX0_init 30 = .ok (.newarray .int, 2) := by decide +kernel
theorem dX0_init_32 : decode cX0_init 32 = .ok (.putfield 21, 3) := by decide +kernel
theorem dX0_init_35 : decode cX0_init 35 = .ok (.aload_n 0, 1) := by decide +kernel
theorem dX0_init_36 : decode cX0_init 36 = .ok (.iconst 4, 1) := by decide +kernel
theorem dX0_init_37 : decode cX0_init 37 = .ok (.newarray .int, 2) := by decide +kernel
theorem dX0_init_39 : decode cX0_init 39 = .ok (.putfield 24, 3) := by decide +kernel
theorem dX0_init_42 : decode cX0_init 42 = .ok (.aload_n 0, 1) := by decide +kernel
theorem dX0_init_43 : decode cX0_init 43 = .ok (.iconst 4, 1) := by decide +kernel
theorem dX0_init_44 : decode cX0_init 44 = .ok (.newarray .int, 2) := by decide +kernel
theorem dX0_init_46 : decode cX0_init 46 = .ok (.putfield 27, 3) := by decide +kernel
theorem dX0_init_49 : decode cX0_init 49 = .ok (.aload_n 0, 1) := by decide +kernel
theorem dX0_init_50 : decode cX0_init 50 = .ok (.iconst 4, 1) := by decide +kernel
theorem dX0_init_51 : decode cX0_init 51 = .ok (.newarray .int, 2) := by decide +kernel
theorem dX0_init_53 : decode cX0_init 53 = .ok (.putfield 30, 3) := by decide +kernel
theorem dX0_init_56 : decode cX0_init 56 = .ok (.return_, 1) := by decide +kernel
theorem dX0_clear_0 : decode cX0_clear 0 = .ok (.aload_n 0, 1) := by decide +kernel
theorem dX0_clear_1 : decode cX0_clear 1 = .ok (.iconst 0, 1) := by decide +kernel
theorem dX0_clear_2 : decode cX0_clear 2 = .ok (.putfield 33, 3) := by decide +kernel
theorem dX0_clear_5 : decode cX0_clear 5 = .ok (.aload_n 0, 1) := by decide +kernel
theorem dX0_clear_6 : decode cX0_clear 6 = .ok (.iconst 0, 1) := by decide +kernel
theorem dX0_clear_7 : decode cX0_clear 7 = .ok (.putfield 37, 3) := by decide +kernel
theorem dX0_clear_10 : decode cX0_clear 10 = .ok (.aload_n 0, 1) := by decide +kernel
theorem dX0_clear_11 : decode cX0_clear 11 = .ok (.iconst 0, 1) := by decide +kernel
theorem dX0_clear_12 : decode cX0_clear 12 = .ok (.putfield 40, 3) := by decide +kernel
theorem dX0_clear_15 : decode cX0_clear 15 = .ok (.aload_n 0, 1) := by decide +kernel
theorem dX0_clear_16 : decode cX0_clear 16 = .ok (.iconst 0, 1) := by decide +kernel
theorem dX0_clear_17 : decode cX0_clear 17 = .ok (.putfield 43, 3) := by decide +kernel
theorem dX0_clear_20 : decode cX0_clear 20 = .ok (.aload_n 0, 1) := by decide +kernel
theorem dX0_clear_21 : decode cX0_clear 21 = .ok (.iconst 0, 1) := by decide +kernel
theorem dX0_clear_22 : decode cX0_clear 22 = .ok (.putfield 46, 3) := by decide +kernel
theorem dX0_clear_25 : decode cX0_clear 25 = .ok (.return_, 1) := by decide +kernel
theorem dX0_copyFrom_0 : decode cX0_copyFrom 0 = .ok (.aload_n 0, 1) := by decide +kernel
theorem dX0_copyFrom_1 : decode cX0_copyFrom 1 = .ok (.aload_n 1, 1) := by decide +kernel
theorem dX0_copyFrom_2 : decode cX0_copyFrom 2 = .ok (.getfield 33, 3) := by decide +kernel
theorem dX0_copyFrom_5 : decode cX0_copyFrom 5 = .ok (.putfield 33, 3) := by decide +kernel
theorem dX0_copyFrom_8 : decode cX0_copyFrom 8 = .ok (.aload_n 1, 1) := by decide +kernel
theorem dX0_copyFrom_9 : decode cX0_copyFrom 9 = .ok (.getfield 9, 3) := by decide +kernel
theorem dX0_copyFrom_12 : decode cX0_copyFrom 12 = .ok (.iconst 0, 1) := by decide +kernel
theorem dX0_copyFrom_13 : decode cX0_copyFrom 13 = .ok (.aload_n 0, 1) := by decide +kernel
theorem dX0_copyFrom_14 : decode cX0_copyFrom 14 = .ok (.getfield 9, 3) := by decide +kernel
theorem dX0_copyFrom_17 : decode cX0_copyFrom 17 = .ok (.iconst 0, 1) := by decide +kernel
theorem dX0_copyFrom_18 : decode cX0_copyFrom 18 = .ok (.bipush 6, 2) := by decide +kernel
theorem dX0_copyFrom_20 : decode cX0_copyFrom 20 = .ok (.invokestatic 49, 3) := by decide +kernel
theorem dX0_copyFrom_23 : decode cX0_copyFrom 23 = .ok (.aload_n 1, 1) := by decide +kernel
theorem dX0_copyFrom_24 : decode cX0_copyFrom 24 = .ok (.getfield 15, 3) := by decide +kernel
theorem dX0_copyFrom_27 : decode cX0_copyFrom 27 = .ok (.iconst 0, 1) := by decide +kernel
theorem dX0_copyFrom_28 : decode cX0_copyFrom 28 = .ok (.aload_n 0, 1) := by decide +kernel
theorem dX0_copyFrom_29 : decode cX0_copyFrom 29 = .ok (.getfield 15, 3) := by decide +kernel
theorem dX0_copyFrom_32 : decode cX0_copyFrom 32 = .ok (.iconst 0, 1) := by decide +kernel
theorem dX0_copyFrom_33 : decode cX0_copyFrom 33 = .ok (.bipush 6, 2) := by decide +kernel
theorem dX0_copyFrom_35 : decode cX0_copyFrom 35 = .ok (.invokestatic 49, 3) := by decide +kernel
theorem dX0_copyFrom_38 : decode cX0_copyFrom 38 = .ok (.aload_n 1, 1) := by decide +kernel
theorem dX0_copyFrom_39 : decode cX0_copyFrom 39 = .ok (.getfield 18, 3) := by decide +kernel
theorem dX0_copyFrom_42 : decode cX0_copyFrom 42 = .ok (.iconst 0, 1) := by decide +kernel
theorem dX0_copyFrom_43 : decode cX0_copyFrom 43 = .ok (.aload_n 0, 1) := by decide +kernel
theorem dX0_copyFrom_44 : decode cX0_copyFrom 44 = .ok (.getfield 18, 3) := by decide +kernel
theorem dX0_copyFrom_47 : decode cX0_copyFrom 47 = .ok (.iconst 0, 1) := by decide +kernel
theorem dX0_copyFrom_48 : decode cX0_copyFrom 48 = .ok (.bipush 6, 2) := by decide +kernel
theorem dX0_copyFrom_50 : decode cX0_copyFrom 50 = .ok (.invokestatic 49, 3) := by decide +kernel
theorem dX0_copyFrom_53 : decode cX0_copyFrom 53 = .ok (.aload_n 0, 1) := by decide +kernel
theorem dX0_copyFrom_54 : decode cX0_copyFrom 54 = .ok (.aload_n 1, 1) := by decide +kernel
theorem dX0_copyFrom_55 : decode cX0_copyFrom 55 = .ok (.getfield 37, 3) := by decide +kernel
theorem dX0_copyFrom_58 : decode cX0_copyFrom 58 = .ok (.putfield 37, 3) := by decide +kernel
theorem dX0_copyFrom_61 : decode cX0_copyFrom 61 = .ok (.aload_n 0, 1) := by decide +kernel
theorem dX0_copyFrom_62 : decode cX0_copyFrom 62 = .ok (.aload_n 1, 1) := by decide +kernel
theorem dX0_copyFrom_63 : decode cX0_copyFrom 63 = .ok (.getfield 40, 3) := by decide +kernel
theorem dX0_copyFrom_66 : decode cX0_copyFrom 66 = .ok (.putfield 40, 3) := by decide +kernel
theorem dX0_copyFrom_69 : decode cX0_copyFrom 69 = .ok (.aload_n 1, 1) := by decide +kernel
theorem dX0_copyFrom_70 : decode cX0_copyFrom 70 = .ok (.getfield 21, 3) := by decide +kernel
theorem dX0_copyFrom_73 : decode cX0_copyFrom 73 = .ok (.iconst 0, 1) := by decide +kernel
theorem dX0_copyFrom_74 : decode cX0_copyFrom 74 = .ok (.aload_n 0, 1) := by decide +kernel
theorem dX0_copyFrom_75 : decode cX0_copyFrom 75 = .ok (.getfield 21, 3) := by decide +kernel
theorem dX0_copyFrom_78 : decode cX0_copyFrom 78 = .ok (.iconst 0, 1) := by decide +kernel
theorem dX0_copyFrom_79 : decode cX0_copyFrom 79 = .ok (.iconst 4, 1) := by decide +kernel
theorem dX0_copyFrom_80 : decode cX0_copyFrom 80 = .ok (.invokestatic 49, 3) := by decide +kernel
theorem dX0_copyFrom_83 : decode cX0_copyFrom 83 = .ok (.aload_n 1, 1) := by decide +kernel
theorem dX0_copyFrom_84 : decode cX0_copyFrom 84 = .ok (.getfield 24, 3) := by decide +kernel
theorem dX0_copyFrom_87 : decode cX0_copyFrom 87 = .ok (.iconst 0, 1) := by decide +kernel
theorem dX0_copyFrom_88 : decode cX0_copyFrom 88 = .ok (.aload_n 0, 1) := by decide +kernel
theorem dX0_copyFrom_89 : decode cX0_copyFrom 89 = .ok (.getfield 24, 3) := by decide +kernel
theorem dX0_copyFrom_92 : decode cX0_copyFrom 92 = .ok (.iconst 0, 1) := by decide +kernel
theorem dX0_copyFrom_93 : decode cX0_copyFrom 93 = .ok (.iconst 4, 1) := by decide +kernel
theorem dX0_copyFrom_94 : decode cX0_copyFrom 94 = .ok (.invokestatic 49, 3) := by decide +kernel
theorem dX0_copyFrom_97 : decode cX0_copyFrom 97 = .ok (.aload_n 0, 1) := by decide +kernel
theorem dX0_copyFrom_98 : decode cX0_copyFrom 98 = .ok (.aload_n 1, 1) := by decide +kernel
theorem dX0_copyFrom_99 : decode cX0_copyFrom 99 = .ok (.getfield 43, 3) := by decide +kernel
theorem dX0_copyFrom_102 : decode cX0_copyFrom 102 = .ok (.putfield 43, 3) := by decide +kernel
theorem dX0_copyFrom_105 : decode cX0_copyFrom 105 = .ok (.aload_n 1, 1) := by decide +kernel
theorem dX0_copyFrom_106 : decode cX0_copyFrom 106 = .ok (.getfield 27, 3) := by decide +kernel
theorem dX0_copyFrom_109 : decode cX0_copyFrom 109 = .ok (.iconst 0, 1) := by decide +kernel
theorem dX0_copyFrom_110 : decode cX0_copyFrom 110 = .ok (.aload_n 0, 1) := by decide +kernel
theorem dX0_copyFrom_111 : decode cX0_copyFrom 111 = .ok (.getfield 27, 3) := by decide +kernel
theorem dX0_copyFrom_114 : decode cX0_copyFrom 114 = .ok (.iconst 0, 1) := by decide +kernel
theorem dX0_copyFrom_115 : decode cX0_copyFrom 115 = .ok (.iconst 4, 1) := by decide +kernel
theorem dX0_copyFrom_116 : decode cX0_copyFrom 116 = .ok (.invokestatic 49, 3) := by decide +kernel
theorem dX0_copyFrom_119 : decode cX0_copyFrom 119 = .ok (.aload_n 1, 1) := by decide +kernel
theorem dX0_copyFrom_120 : decode cX0_copyFrom 120 = .ok (.getfield 30, 3) := by decide +kernel
theorem dX0_copyFrom_123 : decode cX0_copyFrom 123 = .ok (.iconst 0, 1) := by decide +kernel
theorem dX0_copyFrom_124 : decode cX0_copyFrom 124 = .ok (.aload_n 0, 1) := by decide +kernel
theorem dX0_copyFrom_125 : decode cX0_copyFrom 125 = .ok (.getfield 30, 3) := by decide +kernel
theorem dX0_copyFrom_128 : decode cX0_copyFrom 128 = .ok (.iconst 0, 1) := by decide +kernel
theorem dX0_copyFrom_129 : decode cX0_copyFrom 129 = .ok (.iconst 4, 1) := by decide +kernel
theorem dX0_copyFrom_130 : decode cX0_copyFrom 130 = .ok (.invokestatic 49, 3) := by decide +kernel
theorem dX0_copyFrom_133 : decode cX0_copyFrom 133 = .ok (.aload_n 0, 1) := by decide +kernel
theorem dX0_copyFrom_134 : decode cX0_copyFrom 134 = .ok (.aload_n 1, 1) := by decide +kernel
theorem dX0_copyFrom_135 : decode cX0_copyFrom 135 = .ok (.getfield 46, 3) := by decide +kernel
theorem dX0_copyFrom_138 : decode cX0_copyFrom 138 = .ok (.putfield 46, 3) := by decide +kernel
theorem dX0_copyFrom_141 : decode cX0_copyFrom 141 = .ok (.return_, 1) := by decide +kernel
theorem dX0_hasThing_0 : decode cX0_hasThing 0 = .ok (.iload_n 1, 1) := by decide +kernel
theorem dX0_hasThing_1 : decode cX0_hasThing 1 = .ok (.ifCond .lt 15, 3) := by decide +kernel
theorem dX0_hasThing_4 : decode cX0_hasThing 4 = .ok (.iload_n 1, 1) := by decide +kernel
theorem dX0_hasThing_5 : decode cX0_hasThing 5 = .ok (.aload_n 0, 1) := by decide +kernel
theorem dX0_hasThing_6 : decode cX0_hasThing 6 = .ok (.getfield 33, 3) := by decide +kernel
theorem dX0_hasThing_9 : decode cX0_hasThing 9 = .ok (.if_icmp .ge 7, 3) := by decide +kernel
theorem dX0_hasThing_12 : decode cX0_hasThing 12 = .ok (.iconst 1, 1) := by decide +kernel
theorem dX0_hasThing_13 : decode cX0_hasThing 13 = .ok (.goto 4, 3) := by decide +kernel
theorem dX0_hasThing_16 : decode cX0_hasThing 16 = .ok (.iconst 0, 1) := by decide +kernel
theorem dX0_hasThing_17 : decode cX0_hasThing 17 = .ok (.ireturn, 1) := by decide +kernel
theorem dX0_hasGuest_0 : decode cX0_hasGuest 0 = .ok (.iload_n 1, 1) := by decide +kernel
theorem dX0_hasGuest_1 : decode cX0_hasGuest 1 = .ok (.ifCond .lt 15, 3) := by decide +kernel
theorem dX0_hasGuest_4 : decode cX0_hasGuest 4 = .ok (.iload_n 1, 1) := by decide +kernel
theorem dX0_hasGuest_5 : decode cX0_hasGuest 5 = .ok (.aload_n 0, 1) := by decide +kernel
theorem dX0_hasGuest_6 : decode cX0_hasGuest 6 = .ok (.getfield 40, 3) := by decide +kernel
theorem dX0_hasGuest_9 : decode cX0_hasGuest 9 = .ok (.if_icmp .ge 7, 3) := by decide +kernel
theorem dX0_hasGuest_12 : decode cX0_hasGuest 12 = .ok (.iconst 1, 1) := by decide +kernel
theorem dX0_hasGuest_13 : decode cX0_hasGuest 13 = .ok (.goto 4, 3) := by decide +kernel
theorem dX0_hasGuest_16 : decode cX0_hasGuest 16 = .ok (.iconst 0, 1) := by decide +kernel
theorem dX0_hasGuest_17 : decode cX0_hasGuest 17 = .ok (.ireturn, 1) := by decide +kernel
theorem dX0_hasBan_0 : decode cX0_hasBan 0 = .ok (.iload_n 1, 1) := by decide +kernel
theorem dX0_hasBan_1 : decode cX0_hasBan 1 = .ok (.ifCond .lt 15, 3) := by decide +kernel
theorem dX0_hasBan_4 : decode cX0_hasBan 4 = .ok (.iload_n 1, 1) := by decide +kernel
theorem dX0_hasBan_5 : decode cX0_hasBan 5 = .ok (.aload_n 0, 1) := by decide +kernel
theorem dX0_hasBan_6 : decode cX0_hasBan 6 = .ok (.getfield 43, 3) := by decide +kernel
theorem dX0_hasBan_9 : decode cX0_hasBan 9 = .ok (.if_icmp .ge 7, 3) := by decide +kernel
theorem dX0_hasBan_12 : decode cX0_hasBan 12 = .ok (.iconst 1, 1) := by decide +kernel
theorem dX0_hasBan_13 : decode cX0_hasBan 13 = .ok (.goto 4, 3) := by decide +kernel
theorem dX0_hasBan_16 : decode cX0_hasBan 16 = .ok (.iconst 0, 1) := by decide +kernel
theorem dX0_hasBan_17 : decode cX0_hasBan 17 = .ok (.ireturn, 1) := by decide +kernel
theorem dX0_isWhole_0 : decode cX0_isWhole 0 = .ok (.aload_n 0, 1) := by decide +kernel
theorem dX0_isWhole_1 : decode cX0_isWhole 1 = .ok (.getfield 37, 3) := by decide +kernel
theorem dX0_isWhole_4 : decode cX0_isWhole 4 = .ok (.aload_n 0, 1) := by decide +kernel
theorem dX0_isWhole_5 : decode cX0_isWhole 5 = .ok (.invokevirtual 55, 3) := by decide +kernel
theorem dX0_isWhole_8 : decode cX0_isWhole 8 = .ok (.if_icmp .ge 7, 3) := by decide +kernel
theorem dX0_isWhole_11 : decode cX0_isWhole 11 = .ok (.iconst 1, 1) := by decide +kernel
theorem dX0_isWhole_12 : decode cX0_isWhole 12 = .ok (.goto 4, 3) := by decide +kernel
theorem dX0_isWhole_15 : decode cX0_isWhole 15 = .ok (.iconst 0, 1) := by decide +kernel
theorem dX0_isWhole_16 : decode cX0_isWhole 16 = .ok (.istore_n 1, 1) := by decide +kernel
theorem dX0_isWhole_17 : decode cX0_isWhole 17 = .ok (.iconst 0, 1) := by decide +kernel
theorem dX0_isWhole_18 : decode cX0_isWhole 18 = .ok (.istore_n 2, 1) := by decide +kernel
theorem dX0_isWhole_19 : decode cX0_isWhole 19 = .ok (.iload_n 2, 1) := by decide +kernel
theorem dX0_isWhole_20 : decode cX0_isWhole 20 = .ok (.aload_n 0, 1) := by decide +kernel
theorem dX0_isWhole_21 : decode cX0_isWhole 21 = .ok (.getfield 33, 3) := by decide +kernel
theorem dX0_isWhole_24 : decode cX0_isWhole 24 = .ok (.if_icmp .ge 43, 3) := by decide +kernel
theorem dX0_isWhole_27 : decode cX0_isWhole 27 = .ok (.iload_n 1, 1) := by decide +kernel
theorem dX0_isWhole_28 : decode cX0_isWhole 28 = .ok (.aload_n 0, 1) := by decide +kernel
theorem dX0_isWhole_29 : decode cX0_isWhole 29 = .ok (.aload_n 0, 1) := by decide +kernel
theorem dX0_isWhole_30 : decode cX0_isWhole 30 = .ok (.getfield 15, 3) := by decide +kernel
theorem dX0_isWhole_33 : decode cX0_isWhole 33 = .ok (.iload_n 2, 1) := by decide +kernel
theorem dX0_isWhole_34 : decode cX0_isWhole 34 = .ok (.iaload, 1) := by decide +kernel
theorem dX0_isWhole_35 : decode cX0_isWhole 35 = .ok (.invokevirtual 59, 3) := by decide +kernel
theorem dX0_isWhole_38 : decode cX0_isWhole 38 = .ok (.ifCond .eq 20, 3) := by decide +kernel
theorem dX0_isWhole_41 : decode cX0_isWhole 41 = .ok (.aload_n 0, 1) := by decide +kernel
theorem dX0_isWhole_42 : decode cX0_isWhole 42 = .ok (.aload_n 0, 1) := by decide +kernel
theorem dX0_isWhole_43 : decode cX0_isWhole 43 = .ok (.getfield 18, 3) := by decide +kernel
theorem dX0_isWhole_46 : decode cX0_isWhole 46 = .ok (.iload_n 2, 1) := by decide +kernel
theorem dX0_isWhole_47 : decode cX0_isWhole 47 = .ok (.iaload, 1) := by decide +kernel
theorem dX0_isWhole_48 : decode cX0_isWhole 48 = .ok (.invokevirtual 59, 3) := by decide +kernel
theorem dX0_isWhole_51 : decode cX0_isWhole 51 = .ok (.ifCond .eq 7, 3) := by decide +kernel
theorem dX0_isWhole_54 : decode cX0_isWhole 54 = .ok (.iconst 1, 1) := by decide +kernel
theorem dX0_isWhole_55 : decode cX0_isWhole 55 = .ok (.goto 4, 3) := by decide +kernel
theorem dX0_isWhole_58 : decode cX0_isWhole 58 = .ok (.iconst 0, 1) := by decide +kernel
theorem dX0_isWhole_59 : decode cX0_isWhole 59 = .ok (.iand, 1) := by decide +kernel
theorem dX0_isWhole_60 : decode cX0_isWhole 60 = .ok (.istore_n 1, 1) := by decide +kernel
theorem dX0_isWhole_61 : decode cX0_isWhole 61 = .ok (.iinc 2 1, 3) := by decide +kernel
theorem dX0_isWhole_64 : decode cX0_isWhole 64 = .ok (.goto (-45), 3) := by decide +kernel
theorem dX0_isWhole_67 : decode cX0_isWhole 67 = .ok (.iconst 0, 1) := by decide +kernel
theorem dX0_isWhole_68 : decode cX0_isWhole 68 = .ok (.istore_n 2, 1) := by decide +kernel
theorem dX0_isWhole_69 : decode cX0_isWhole 69 = .ok (.iload_n 2, 1) := by decide +kernel
theorem dX0_isWhole_70 : decode cX0_isWhole 70 = .ok (.aload_n 0, 1) := by decide +kernel
theorem dX0_isWhole_71 : decode cX0_isWhole 71 = .ok (.getfield 40, 3) := by decide +kernel
theorem dX0_isWhole_74 : decode cX0_isWhole 74 = .ok (.if_icmp .ge 22, 3) := by decide +kernel
theorem dX0_isWhole_77 : decode cX0_isWhole 77 = .ok (.iload_n 1, 1) := by decide +kernel
theorem dX0_isWhole_78 : decode cX0_isWhole 78 = .ok (.aload_n 0, 1) := by decide +kernel
theorem dX0_isWhole_79 : decode cX0_isWhole 79 = .ok (.aload_n 0, 1) := by decide +kernel
theorem dX0_isWhole_80 : decode cX0_isWhole 80 = .ok (.getfield 21, 3) := by decide +kernel
theorem dX0_isWhole_83 : decode cX0_isWhole 83 = .ok (.iload_n 2, 1) := by decide +kernel
theorem dX0_isWhole_84 : decode cX0_isWhole 84 = .ok (.iaload, 1) := by decide +kernel
theorem dX0_isWhole_85 : decode cX0_isWhole 85 = .ok (.invokevirtual 59, 3) := by decide +kernel
theorem dX0_isWhole_88 : decode cX0_isWhole 88 = .ok (.iand, 1) := by decide +kernel
theorem dX0_isWhole_89 : decode cX0_isWhole 89 = .ok (.istore_n 1, 1) := by decide +kernel
theorem dX0_isWhole_90 : decode cX0_isWhole 90 = .ok (.iinc 2 1, 3) := by decide +kernel
theorem dX0_isWhole_93 : decode cX0_isWhole 93 = .ok (.goto (-24), 3) := by decide +kernel
theorem dX0_isWhole_96 : decode cX0_isWhole 96 = .ok (.iconst 0, 1) := by decide +kernel
theorem dX0_isWhole_97 : decode cX0_isWhole 97 = .ok (.istore_n 2, 1) := by decide +kernel
theorem dX0_isWhole_98 : decode cX0_isWhole 98 = .ok (.iload_n 2, 1) := by decide +kernel
theorem dX0_isWhole_99 : decode cX0_isWhole 99 = .ok (.aload_n 0, 1) := by decide +kernel
theorem dX0_isWhole_100 : decode cX0_isWhole 100 = .ok (.getfield 43, 3) := by decide +kernel
theorem dX0_isWhole_103 : decode cX0_isWhole 103 = .ok (.if_icmp .ge 43, 3) := by decide +kernel
theorem dX0_isWhole_106 : decode cX0_isWhole 106 = .ok (.iload_n 1, 1) := by decide +kernel
theorem dX0_isWhole_107 : decode cX0_isWhole 107 = .ok (.aload_n 0, 1) := by decide +kernel
theorem dX0_isWhole_108 : decode cX0_isWhole 108 = .ok (.aload_n 0, 1) := by decide +kernel
theorem dX0_isWhole_109 : decode cX0_isWhole 109 = .ok (.getfield 27, 3) := by decide +kernel
theorem dX0_isWhole_112 : decode cX0_isWhole 112 = .ok (.iload_n 2, 1) := by decide +kernel
theorem dX0_isWhole_113 : decode cX0_isWhole 113 = .ok (.iaload, 1) := by decide +kernel
theorem dX0_isWhole_114 : decode cX0_isWhole 114 = .ok (.invokevirtual 59, 3) := by decide +kernel
theorem dX0_isWhole_117 : decode cX0_isWhole 117 = .ok (.ifCond .eq 20, 3) := by decide +kernel
theorem dX0_isWhole_120 : decode cX0_isWhole 120 = .ok (.aload_n 0, 1) := by decide +kernel
theorem dX0_isWhole_121 : decode cX0_isWhole 121 = .ok (.aload_n 0, 1) := by decide +kernel
theorem dX0_isWhole_122 : decode cX0_isWhole 122 = .ok (.getfield 30, 3) := by decide +kernel
theorem dX0_isWhole_125 : decode cX0_isWhole 125 = .ok (.iload_n 2, 1) := by decide +kernel
theorem dX0_isWhole_126 : decode cX0_isWhole 126 = .ok (.iaload, 1) := by decide +kernel
theorem dX0_isWhole_127 : decode cX0_isWhole 127 = .ok (.invokevirtual 59, 3) := by decide +kernel
theorem dX0_isWhole_130 : decode cX0_isWhole 130 = .ok (.ifCond .eq 7, 3) := by decide +kernel
theorem dX0_isWhole_133 : decode cX0_isWhole 133 = .ok (.iconst 1, 1) := by decide +kernel
theorem dX0_isWhole_134 : decode cX0_isWhole 134 = .ok (.goto 4, 3) := by decide +kernel
theorem dX0_isWhole_137 : decode cX0_isWhole 137 = .ok (.iconst 0, 1) := by decide +kernel
theorem dX0_isWhole_138 : decode cX0_isWhole 138 = .ok (.iand, 1) := by decide +kernel
theorem dX0_isWhole_139 : decode cX0_isWhole 139 = .ok (.istore_n 1, 1) := by decide +kernel
theorem dX0_isWhole_140 : decode cX0_isWhole 140 = .ok (.iinc 2 1, 3) := by decide +kernel
theorem dX0_isWhole_143 : decode cX0_isWhole 143 = .ok (.goto (-45), 3) := by decide +kernel
theorem dX0_isWhole_146 : decode cX0_isWhole 146 = .ok (.iload_n 1, 1) := by decide +kernel
theorem dX0_isWhole_147 : decode cX0_isWhole 147 = .ok (.ireturn, 1) := by decide +kernel
theorem dX0_hasState_0 : decode cX0_hasState 0 = .ok (.iload_n 1, 1) := by decide +kernel
theorem dX0_hasState_1 : decode cX0_hasState 1 = .ok (.ifCond .lt 15, 3) := by decide +kernel
theorem dX0_hasState_4 : decode cX0_hasState 4 = .ok (.iload_n 1, 1) := by decide +kernel
theorem dX0_hasState_5 : decode cX0_hasState 5 = .ok (.aload_n 0, 1) := by decide +kernel
theorem dX0_hasState_6 : decode cX0_hasState 6 = .ok (.invokevirtual 55, 3) := by decide +kernel
theorem dX0_hasState_9 : decode cX0_hasState 9 = .ok (.if_icmp .ge 7, 3) := by decide +kernel
theorem dX0_hasState_12 : decode cX0_hasState 12 = .ok (.iconst 1, 1) := by decide +kernel
theorem dX0_hasState_13 : decode cX0_hasState 13 = .ok (.goto 4, 3) := by decide +kernel
theorem dX0_hasState_16 : decode cX0_hasState 16 = .ok (.iconst 0, 1) := by decide +kernel
theorem dX0_hasState_17 : decode cX0_hasState 17 = .ok (.ireturn, 1) := by decide +kernel
theorem dX0_states_0 : decode cX0_states 0 = .ok (.iconst 1, 1) := by decide +kernel
theorem dX0_states_1 : decode cX0_states 1 = .ok (.aload_n 0, 1) := by decide +kernel
theorem dX0_states_2 : decode cX0_states 2 = .ok (.getfield 33, 3) := by decide +kernel
theorem dX0_states_5 : decode cX0_states 5 = .ok (.ishl, 1) := by decide +kernel
theorem dX0_states_6 : decode cX0_states 6 = .ok (.ireturn, 1) := by decide +kernel
theorem dX0_mayBecome_0 : decode cX0_mayBecome 0 = .ok (.iload_n 1, 1) := by decide +kernel
theorem dX0_mayBecome_1 : decode cX0_mayBecome 1 = .ok (.ifCond .ne 18, 3) := by decide +kernel
theorem dX0_mayBecome_4 : decode cX0_mayBecome 4 = .ok (.iload_n 2, 1) := by decide +kernel
theorem dX0_mayBecome_5 : decode cX0_mayBecome 5 = .ok (.ifCond .lt 12, 3) := by decide +kernel
theorem dX0_mayBecome_8 : decode cX0_mayBecome 8 = .ok (.iload_n 2, 1) := by decide +kernel
theorem dX0_mayBecome_9 : decode cX0_mayBecome 9 = .ok (.iconst 4, 1) := by decide +kernel
theorem dX0_mayBecome_10 : decode cX0_mayBecome 10 = .ok (.if_icmp .gt 7, 3) := by decide +kernel
theorem dX0_mayBecome_13 : decode cX0_mayBecome 13 = .ok (.iconst 1, 1) := by decide +kernel
theorem dX0_mayBecome_14 : decode cX0_mayBecome 14 = .ok (.goto 4, 3) := by decide +kernel
theorem dX0_mayBecome_17 : decode cX0_mayBecome 17 = .ok (.iconst 0, 1) := by decide +kernel
theorem dX0_mayBecome_18 : decode cX0_mayBecome 18 = .ok (.ireturn, 1) := by decide +kernel
theorem dX0_mayBecome_19 : decode cX0_mayBecome 19 = .ok (.iload_n 1, 1) := by decide +kernel
theorem dX0_mayBecome_20 : decode cX0_mayBecome 20 = .ok (.iconst 3, 1) := by decide +kernel
theorem dX0_mayBecome_21 : decode cX0_mayBecome 21 = .ok (.if_icmp .ne 10, 3) := by decide +kernel
theorem dX0_mayBecome_24 : decode cX0_mayBecome 24 = .ok (.iload_n 2, 1) := by decide +kernel
theorem dX0_mayBecome_25 : decode cX0_mayBecome 25 = .ok (.invokestatic 63, 3) := by decide +kernel
theorem dX0_mayBecome_28 : decode cX0_mayBecome 28 = .ok (.goto 8, 3) := by decide +kernel
theorem dX0_mayBecome_31 : decode cX0_mayBecome 31 = .ok (.aload_n 0, 1) := by decide +kernel
theorem dX0_mayBecome_32 : decode cX0_mayBecome 32 = .ok (.iload_n 2, 1) := by decide +kernel
theorem dX0_mayBecome_33 : decode cX0_mayBecome 33 = .ok (.invokevirtual 59, 3) := by decide +kernel
theorem dX0_mayBecome_36 : decode cX0_mayBecome 36 = .ok (.ireturn, 1) := by decide +kernel
theorem dX0_addThing_0 : decode cX0_addThing 0 = .ok (.aload_n 0, 1) := by decide +kernel
theorem dX0_addThing_1 : decode cX0_addThing 1 = .ok (.getfield 33, 3) := by decide +kernel
theorem dX0_addThing_4 : decode cX0_addThing 4 = .ok (.bipush 6, 2) := by decide +kernel
theorem dX0_addThing_6 : decode cX0_addThing 6 = .ok (.if_icmp .ge 43, 3) := by decide +kernel
theorem dX0_addThing_9 : decode cX0_addThing 9 = .ok (.aload_n 0, 1) := by decide +kernel
theorem dX0_addThing_10 : decode cX0_addThing 10 = .ok (.getfield 9, 3) := by decide +kernel
theorem dX0_addThing_13 : decode cX0_addThing 13 = .ok (.aload_n 0, 1) := by decide +kernel
theorem dX0_addThing_14 : decode cX0_addThing 14 = .ok (.getfield 33, 3) := by decide +kernel
theorem dX0_addThing_17 : decode cX0_addThing 17 = .ok (.iload_n 1, 1) := by decide +kernel
theorem dX0_addThing_18 : decode cX0_addThing 18 = .ok (.iastore, 1) := by decide +kernel
theorem dX0_addThing_19 : decode cX0_addThing 19 = .ok (.aload_n 0, 1) := by decide +kernel
theorem dX0_addThing_20 : decode cX0_addThing 20 = .ok (.getfield 15, 3) := by decide +kernel
theorem dX0_addThing_23 : decode cX0_addThing 23 = .ok (.aload_n 0, 1) := by decide +kernel
theorem dX0_addThing_24 : decode cX0_addThing 24 = .ok (.getfield 33, 3) := by decide +kernel
theorem dX0_addThing_27 : decode cX0_addThing 27 = .ok (.iload_n 2, 1) := by decide +kernel
theorem dX0_addThing_28 : decode cX0_addThing 28 = .ok (.iastore, 1) := by decide +kernel
theorem dX0_addThing_29 : decode cX0_addThing 29 = .ok (.aload_n 0, 1) := by decide +kernel
theorem dX0_addThing_30 : decode cX0_addThing 30 = .ok (.getfield 18, 3) := by decide +kernel
theorem dX0_addThing_33 : decode cX0_addThing 33 = .ok (.aload_n 0, 1) := by decide +kernel
theorem dX0_addThing_34 : decode cX0_addThing 34 = .ok (.getfield 33, 3) := by decide +kernel
theorem dX0_addThing_37 : decode cX0_addThing 37 = .ok (.iload_n 3, 1) := by decide +kernel
theorem dX0_addThing_38 : decode cX0_addThing 38 = .ok (.iastore, 1) := by decide +kernel
theorem dX0_addThing_39 : decode cX0_addThing 39 = .ok (.aload_n 0, 1) := by decide +kernel
theorem dX0_addThing_40 : decode cX0_addThing 40 = .ok (.dup, 1) := by decide +kernel
theorem dX0_addThing_41 : decode cX0_addThing 41 = .ok (.getfield 33, 3) := by decide +kernel
theorem dX0_addThing_44 : decode cX0_addThing 44 = .ok (.iconst 1, 1) := by decide +kernel
theorem dX0_addThing_45 : decode cX0_addThing 45 = .ok (.iadd, 1) := by decide +kernel
theorem dX0_addThing_46 : decode cX0_addThing 46 = .ok (.putfield 33, 3) := by decide +kernel
theorem dX0_addThing_49 : decode cX0_addThing 49 = .ok (.return_, 1) := by decide +kernel
theorem dX0_addGuest_0 : decode cX0_addGuest 0 = .ok (.aload_n 0, 1) := by decide +kernel
theorem dX0_addGuest_1 : decode cX0_addGuest 1 = .ok (.getfield 40, 3) := by decide +kernel
theorem dX0_addGuest_4 : decode cX0_addGuest 4 = .ok (.iconst 4, 1) := by decide +kernel
theorem dX0_addGuest_5 : decode cX0_addGuest 5 = .ok (.if_icmp .ge 33, 3) := by decide +kernel
theorem dX0_addGuest_8 : decode cX0_addGuest 8 = .ok (.aload_n 0, 1) := by decide +kernel
theorem dX0_addGuest_9 : decode cX0_addGuest 9 = .ok (.getfield 21, 3) := by decide +kernel
theorem dX0_addGuest_12 : decode cX0_addGuest 12 = .ok (.aload_n 0, 1) := by decide +kernel
theorem dX0_addGuest_13 : decode cX0_addGuest 13 = .ok (.getfield 40, 3) := by decide +kernel
theorem dX0_addGuest_16 : decode cX0_addGuest 16 = .ok (.iload_n 1, 1) := by decide +kernel
theorem dX0_addGuest_17 : decode cX0_addGuest 17 = .ok (.iastore, 1) := by decide +kernel
theorem dX0_addGuest_18 : decode cX0_addGuest 18 = .ok (.aload_n 0, 1) := by decide +kernel
theorem dX0_addGuest_19 : decode cX0_addGuest 19 = .ok (.getfield 24, 3) := by decide +kernel
theorem dX0_addGuest_22 : decode cX0_addGuest 22 = .ok (.aload_n 0, 1) := by decide +kernel
theorem dX0_addGuest_23 : decode cX0_addGuest 23 = .ok (.getfield 40, 3) := by decide +kernel
theorem dX0_addGuest_26 : decode cX0_addGuest 26 = .ok (.iload_n 2, 1) := by decide +kernel
theorem dX0_addGuest_27 : decode cX0_addGuest 27 = .ok (.iastore, 1) := by decide +kernel
theorem dX0_addGuest_28 : decode cX0_addGuest 28 = .ok (.aload_n 0, 1) := by decide +kernel
theorem dX0_addGuest_29 : decode cX0_addGuest 29 = .ok (.dup, 1) := by decide +kernel
theorem dX0_addGuest_30 : decode cX0_addGuest 30 = .ok (.getfield 40, 3) := by decide +kernel
theorem dX0_addGuest_33 : decode cX0_addGuest 33 = .ok (.iconst 1, 1) := by decide +kernel
theorem dX0_addGuest_34 : decode cX0_addGuest 34 = .ok (.iadd, 1) := by decide +kernel
theorem dX0_addGuest_35 : decode cX0_addGuest 35 = .ok (.putfield 40, 3) := by decide +kernel
theorem dX0_addGuest_38 : decode cX0_addGuest 38 = .ok (.return_, 1) := by decide +kernel
theorem dX0_addBan_0 : decode cX0_addBan 0 = .ok (.aload_n 0, 1) := by decide +kernel
theorem dX0_addBan_1 : decode cX0_addBan 1 = .ok (.getfield 43, 3) := by decide +kernel
theorem dX0_addBan_4 : decode cX0_addBan 4 = .ok (.iconst 4, 1) := by decide +kernel
theorem dX0_addBan_5 : decode cX0_addBan 5 = .ok (.if_icmp .ge 33, 3) := by decide +kernel
theorem dX0_addBan_8 : decode cX0_addBan 8 = .ok (.aload_n 0, 1) := by decide +kernel
theorem dX0_addBan_9 : decode cX0_addBan 9 = .ok (.getfield 27, 3) := by decide +kernel
theorem dX0_addBan_12 : decode cX0_addBan 12 = .ok (.aload_n 0, 1) := by decide +kernel
theorem dX0_addBan_13 : decode cX0_addBan 13 = .ok (.getfield 43, 3) := by decide +kernel
theorem dX0_addBan_16 : decode cX0_addBan 16 = .ok (.iload_n 1, 1) := by decide +kernel
theorem dX0_addBan_17 : decode cX0_addBan 17 = .ok (.iastore, 1) := by decide +kernel
theorem dX0_addBan_18 : decode cX0_addBan 18 = .ok (.aload_n 0, 1) := by decide +kernel
theorem dX0_addBan_19 : decode cX0_addBan 19 = .ok (.getfield 30, 3) := by decide +kernel
theorem dX0_addBan_22 : decode cX0_addBan 22 = .ok (.aload_n 0, 1) := by decide +kernel
theorem dX0_addBan_23 : decode cX0_addBan 23 = .ok (.getfield 43, 3) := by decide +kernel
theorem dX0_addBan_26 : decode cX0_addBan 26 = .ok (.iload_n 2, 1) := by decide +kernel
theorem dX0_addBan_27 : decode cX0_addBan 27 = .ok (.iastore, 1) := by decide +kernel
theorem dX0_addBan_28 : decode cX0_addBan 28 = .ok (.aload_n 0, 1) := by decide +kernel
theorem dX0_addBan_29 : decode cX0_addBan 29 = .ok (.dup, 1) := by decide +kernel
theorem dX0_addBan_30 : decode cX0_addBan 30 = .ok (.getfield 43, 3) := by decide +kernel
theorem dX0_addBan_33 : decode cX0_addBan 33 = .ok (.iconst 1, 1) := by decide +kernel
theorem dX0_addBan_34 : decode cX0_addBan 34 = .ok (.iadd, 1) := by decide +kernel
theorem dX0_addBan_35 : decode cX0_addBan 35 = .ok (.putfield 43, 3) := by decide +kernel
theorem dX0_addBan_38 : decode cX0_addBan 38 = .ok (.return_, 1) := by decide +kernel
theorem dX0_dropBan_0 : decode cX0_dropBan 0 = .ok (.iload_n 1, 1) := by decide +kernel
theorem dX0_dropBan_1 : decode cX0_dropBan 1 = .ok (.istore_n 2, 1) := by decide +kernel
theorem dX0_dropBan_2 : decode cX0_dropBan 2 = .ok (.iload_n 2, 1) := by decide +kernel
theorem dX0_dropBan_3 : decode cX0_dropBan 3 = .ok (.iconst 1, 1) := by decide +kernel
theorem dX0_dropBan_4 : decode cX0_dropBan 4 = .ok (.iadd, 1) := by decide +kernel
theorem dX0_dropBan_5 : decode cX0_dropBan 5 = .ok (.aload_n 0, 1) := by decide +kernel
theorem dX0_dropBan_6 : decode cX0_dropBan 6 = .ok (.getfield 43, 3) := by decide +kernel
theorem dX0_dropBan_9 : decode cX0_dropBan 9 = .ok (.if_icmp .ge 37, 3) := by decide +kernel
theorem dX0_dropBan_12 : decode cX0_dropBan 12 = .ok (.aload_n 0, 1) := by decide +kernel
theorem dX0_dropBan_13 : decode cX0_dropBan 13 = .ok (.getfield 27, 3) := by decide +kernel
theorem dX0_dropBan_16 : decode cX0_dropBan 16 = .ok (.iload_n 2, 1) := by decide +kernel
theorem dX0_dropBan_17 : decode cX0_dropBan 17 = .ok (.aload_n 0, 1) := by decide +kernel
theorem dX0_dropBan_18 : decode cX0_dropBan 18 = .ok (.getfield 27, 3) := by decide +kernel
theorem dX0_dropBan_21 : decode cX0_dropBan 21 = .ok (.iload_n 2, 1) := by decide +kernel
theorem dX0_dropBan_22 : decode cX0_dropBan 22 = .ok (.iconst 1, 1) := by decide +kernel
theorem dX0_dropBan_23 : decode cX0_dropBan 23 = .ok (.iadd, 1) := by decide +kernel
theorem dX0_dropBan_24 : decode cX0_dropBan 24 = .ok (.iaload, 1) := by decide +kernel
theorem dX0_dropBan_25 : decode cX0_dropBan 25 = .ok (.iastore, 1) := by decide +kernel
theorem dX0_dropBan_26 : decode cX0_dropBan 26 = .ok (.aload_n 0, 1) := by decide +kernel
theorem dX0_dropBan_27 : decode cX0_dropBan 27 = .ok (.getfield 30, 3) := by decide +kernel
theorem dX0_dropBan_30 : decode cX0_dropBan 30 = .ok (.iload_n 2, 1) := by decide +kernel
theorem dX0_dropBan_31 : decode cX0_dropBan 31 = .ok (.aload_n 0, 1) := by decide +kernel
theorem dX0_dropBan_32 : decode cX0_dropBan 32 = .ok (.getfield 30, 3) := by decide +kernel
theorem dX0_dropBan_35 : decode cX0_dropBan 35 = .ok (.iload_n 2, 1) := by decide +kernel
theorem dX0_dropBan_36 : decode cX0_dropBan 36 = .ok (.iconst 1, 1) := by decide +kernel
theorem dX0_dropBan_37 : decode cX0_dropBan 37 = .ok (.iadd, 1) := by decide +kernel
theorem dX0_dropBan_38 : decode cX0_dropBan 38 = .ok (.iaload, 1) := by decide +kernel
theorem dX0_dropBan_39 : decode cX0_dropBan 39 = .ok (.iastore, 1) := by decide +kernel
theorem dX0_dropBan_40 : decode cX0_dropBan 40 = .ok (.iinc 2 1, 3) := by decide +kernel
theorem dX0_dropBan_43 : decode cX0_dropBan 43 = .ok (.goto (-41), 3) := by decide +kernel
theorem dX0_dropBan_46 : decode cX0_dropBan 46 = .ok (.aload_n 0, 1) := by decide +kernel
theorem dX0_dropBan_47 : decode cX0_dropBan 47 = .ok (.dup, 1) := by decide +kernel
theorem dX0_dropBan_48 : decode cX0_dropBan 48 = .ok (.getfield 43, 3) := by decide +kernel
theorem dX0_dropBan_51 : decode cX0_dropBan 51 = .ok (.iconst 1, 1) := by decide +kernel
theorem dX0_dropBan_52 : decode cX0_dropBan 52 = .ok (.isub, 1) := by decide +kernel
theorem dX0_dropBan_53 : decode cX0_dropBan 53 = .ok (.putfield 43, 3) := by decide +kernel
theorem dX0_dropBan_56 : decode cX0_dropBan 56 = .ok (.return_, 1) := by decide +kernel
theorem dX0_allPrices_0 : decode cX0_allPrices 0 = .ok (.iconst 0, 1) := by decide +kernel
theorem dX0_allPrices_1 : decode cX0_allPrices 1 = .ok (.istore_n 1, 1) := by decide +kernel
theorem dX0_allPrices_2 : decode cX0_allPrices 2 = .ok (.iconst 0, 1) := by decide +kernel
theorem dX0_allPrices_3 : decode cX0_allPrices 3 = .ok (.istore_n 2, 1) := by decide +kernel
theorem dX0_allPrices_4 : decode cX0_allPrices 4 = .ok (.iload_n 2, 1) := by decide +kernel
theorem dX0_allPrices_5 : decode cX0_allPrices 5 = .ok (.aload_n 0, 1) := by decide +kernel
theorem dX0_allPrices_6 : decode cX0_allPrices 6 = .ok (.getfield 40, 3) := by decide +kernel
theorem dX0_allPrices_9 : decode cX0_allPrices 9 = .ok (.if_icmp .ge 18, 3) := by decide +kernel
theorem dX0_allPrices_12 : decode cX0_allPrices 12 = .ok (.iload_n 1, 1) := by decide +kernel
theorem dX0_allPrices_13 : decode cX0_allPrices 13 = .ok (.aload_n 0, 1) := by decide +kernel
theorem dX0_allPrices_14 : decode cX0_allPrices 14 = .ok (.getfield 24, 3) := by decide +kernel
theorem dX0_allPrices_17 : decode cX0_allPrices 17 = .ok (.iload_n 2, 1) := by decide +kernel
theorem dX0_allPrices_18 : decode cX0_allPrices 18 = .ok (.iaload, 1) := by decide +kernel
theorem dX0_allPrices_19 : decode cX0_allPrices 19 = .ok (.iadd, 1) := by decide +kernel
theorem dX0_allPrices_20 : decode cX0_allPrices 20 = .ok (.istore_n 1, 1) := by decide +kernel
theorem dX0_allPrices_21 : decode cX0_allPrices 21 = .ok (.iinc 2 1, 3) := by decide +kernel
theorem dX0_allPrices_24 : decode cX0_allPrices 24 = .ok (.goto (-20), 3) := by decide +kernel
theorem dX0_allPrices_27 : decode cX0_allPrices 27 = .ok (.iload_n 1, 1) := by decide +kernel
theorem dX0_allPrices_28 : decode cX0_allPrices 28 = .ok (.ireturn, 1) := by decide +kernel
theorem dX0_soAfter_0 : decode cX0_soAfter 0 = .ok (.iload_n 2, 1) := by decide +kernel
theorem dX0_soAfter_1 : decode cX0_soAfter 1 = .ok (.aload_n 0, 1) := by decide +kernel
theorem dX0_soAfter_2 : decode cX0_soAfter 2 = .ok (.getfield 15, 3) := by decide +kernel
theorem dX0_soAfter_5 : decode cX0_soAfter 5 = .ok (.iload_n 1, 1) := by decide +kernel
theorem dX0_soAfter_6 : decode cX0_soAfter 6 = .ok (.iaload, 1) := by decide +kernel
theorem dX0_soAfter_7 : decode cX0_soAfter 7 = .ok (.ishr, 1) := by decide +kernel
theorem dX0_soAfter_8 : decode cX0_soAfter 8 = .ok (.iconst 1, 1) := by decide +kernel
theorem dX0_soAfter_9 : decode cX0_soAfter 9 = .ok (.iand, 1) := by decide +kernel
theorem dX0_soAfter_10 : decode cX0_soAfter 10 = .ok (.istore_n 3, 1) := by decide +kernel
theorem dX0_soAfter_11 : decode cX0_soAfter 11 = .ok (.iload_n 2, 1) := by decide +kernel
theorem dX0_soAfter_12 : decode cX0_soAfter 12 = .ok (.aload_n 0, 1) := by decide +kernel
theorem dX0_soAfter_13 : decode cX0_soAfter 13 = .ok (.getfield 18, 3) := by decide +kernel
theorem dX0_soAfter_16 : decode cX0_soAfter 16 = .ok (.iload_n 1, 1) := by decide +kernel
theorem dX0_soAfter_17 : decode cX0_soAfter 17 = .ok (.iaload, 1) := by decide +kernel
theorem dX0_soAfter_18 : decode cX0_soAfter 18 = .ok (.ishr, 1) := by decide +kernel
theorem dX0_soAfter_19 : decode cX0_soAfter 19 = .ok (.iconst 1, 1) := by decide +kernel
theorem dX0_soAfter_20 : decode cX0_soAfter 20 = .ok (.iand, 1) := by decide +kernel
theorem dX0_soAfter_21 : decode cX0_soAfter 21 = .ok (.istore 4, 2) := by decide +kernel
theorem dX0_soAfter_23 : decode cX0_soAfter 23 = .ok (.aload_n 0, 1) := by decide +kernel
theorem dX0_soAfter_24 : decode cX0_soAfter 24 = .ok (.getfield 9, 3) := by decide +kernel
theorem dX0_soAfter_27 : decode cX0_soAfter 27 = .ok (.iload_n 1, 1) := by decide +kernel
theorem dX0_soAfter_28 : decode cX0_soAfter 28 = .ok (.iaload, 1) := by decide +kernel
theorem dX0_soAfter_29 : decode cX0_soAfter 29 = .ok (.tableswitch 49 1 4 #[31, 33, 37, 44], 31) := by decide +kernel
theorem dX0_soAfter_60 : decode cX0_soAfter 60 = .ok (.iload_n 3, 1) := by decide +kernel
theorem dX0_soAfter_61 : decode cX0_soAfter 61 = .ok (.ireturn, 1) := by decide +kernel
theorem dX0_soAfter_62 : decode cX0_soAfter 62 = .ok (.iconst 1, 1) := by decide +kernel
theorem dX0_soAfter_63 : decode cX0_soAfter 63 = .ok (.iload_n 3, 1) := by decide +kernel
theorem dX0_soAfter_64 : decode cX0_soAfter 64 = .ok (.isub, 1) := by decide +kernel
theorem dX0_soAfter_65 : decode cX0_soAfter 65 = .ok (.ireturn, 1) := by decide +kernel
theorem dX0_soAfter_66 : decode cX0_soAfter 66 = .ok (.iload_n 3, 1) := by decide +kernel
theorem dX0_soAfter_67 : decode cX0_soAfter 67 = .ok (.iconst 1, 1) := by decide +kernel
theorem dX0_soAfter_68 : decode cX0_soAfter 68 = .ok (.iload 4, 2) := by decide +kernel
theorem dX0_soAfter_70 : decode cX0_soAfter 70 = .ok (.isub, 1) := by decide +kernel
theorem dX0_soAfter_71 : decode cX0_soAfter 71 = .ok (.iand, 1) := by decide +kernel
theorem dX0_soAfter_72 : decode cX0_soAfter 72 = .ok (.ireturn, 1) := by decide +kernel
theorem dX0_soAfter_73 : decode cX0_soAfter 73 = .ok (.iload_n 3, 1) := by decide +kernel
theorem dX0_soAfter_74 : decode cX0_soAfter 74 = .ok (.iload 4, 2) := by decide +kernel
theorem dX0_soAfter_76 : decode cX0_soAfter 76 = .ok (.ior, 1) := by decide +kernel
theorem dX0_soAfter_77 : decode cX0_soAfter 77 = .ok (.ireturn, 1) := by decide +kernel
theorem dX0_soAfter_78 : decode cX0_soAfter 78 = .ok (.iload_n 2, 1) := by decide +kernel
theorem dX0_soAfter_79 : decode cX0_soAfter 79 = .ok (.iload_n 1, 1) := by decide +kernel
theorem dX0_soAfter_80 : decode cX0_soAfter 80 = .ok (.ishr, 1) := by decide +kernel
theorem dX0_soAfter_81 : decode cX0_soAfter 81 = .ok (.iconst 1, 1) := by decide +kernel
theorem dX0_soAfter_82 : decode cX0_soAfter 82 = .ok (.iand, 1) := by decide +kernel
theorem dX0_soAfter_83 : decode cX0_soAfter 83 = .ok (.ireturn, 1) := by decide +kernel
theorem dX0_afterYear_0 : decode cX0_afterYear 0 = .ok (.iconst 0, 1) := by decide +kernel
theorem dX0_afterYear_1 : decode cX0_afterYear 1 = .ok (.istore_n 2, 1) := by decide +kernel
theorem dX0_afterYear_2 : decode cX0_afterYear 2 = .ok (.iconst 0, 1) := by decide +kernel
theorem dX0_afterYear_3 : decode cX0_afterYear 3 = .ok (.istore_n 3, 1) := by decide +kernel
theorem dX0_afterYear_4 : decode cX0_afterYear 4 = .ok (.iload_n 3, 1) := by decide +kernel
theorem dX0_afterYear_5 : decode cX0_afterYear 5 = .ok (.aload_n 0, 1) := by decide +kernel
theorem dX0_afterYear_6 : decode cX0_afterYear 6 = .ok (.getfield 33, 3) := by decide +kernel
theorem dX0_afterYear_9 : decode cX0_afterYear 9 = .ok (.if_icmp .ge 20, 3) := by decide +kernel
theorem dX0_afterYear_12 : decode cX0_afterYear 12 = .ok (.iload_n 2, 1) := by decide +kernel
theorem dX0_afterYear_13 : decode cX0_afterYear 13 = .ok (.aload_n 0, 1) := by decide +kernel
theorem dX0_afterYear_14 : decode cX0_afterYear 14 = .ok (.iload_n 3, 1) := by decide +kernel
theorem dX0_afterYear_15 : decode cX0_afterYear 15 = .ok (.iload_n 1, 1) := by decide +kernel
theorem dX0_afterYear_16 : decode cX0_afterYear 16 = .ok (.invokevirtual 66, 3) := by decide +kernel
theorem dX0_afterYear_19 : decode cX0_afterYear 19 = .ok (.iload_n 3, 1) := by decide +kernel
theorem dX0_afterYear_20 : decode cX0_afterYear 20 = .ok (.ishl, 1) := by decide +kernel
theorem dX0_afterYear_21 : decode cX0_afterYear 21 = .ok (.ior, 1) := by decide +kernel
theorem dX0_afterYear_22 : decode cX0_afterYear 22 = .ok (.istore_n 2, 1) := by decide +kernel
theorem dX0_afterYear_23 : decode cX0_afterYear 23 = .ok (.iinc 3 1, 3) := by decide +kernel
theorem dX0_afterYear_26 : decode cX0_afterYear 26 = .ok (.goto (-22), 3) := by decide +kernel
theorem dX0_afterYear_29 : decode cX0_afterYear 29 = .ok (.iload_n 2, 1) := by decide +kernel
theorem dX0_afterYear_30 : decode cX0_afterYear 30 = .ok (.ireturn, 1) := by decide +kernel
theorem dX0_afterYears_0 : decode cX0_afterYears 0 = .ok (.iload_n 1, 1) := by decide +kernel
theorem dX0_afterYears_1 : decode cX0_afterYears 1 = .ok (.istore_n 3, 1) := by decide +kernel
theorem dX0_afterYears_2 : decode cX0_afterYears 2 = .ok (.iconst 0, 1) := by decide +kernel
theorem dX0_afterYears_3 : decode cX0_afterYears 3 = .ok (.istore 4, 2) := by decide +kernel
theorem dX0_afterYears_5 : decode cX0_afterYears 5 = .ok (.iload 4, 2) := by decide +kernel
theorem dX0_afterYears_7 : decode cX0_afterYears 7 = .ok (.iload_n 2, 1) := by decide +kernel
theorem dX0_afterYears_8 : decode cX0_afterYears 8 = .ok (.if_icmp .ge 15, 3) := by decide +kernel
theorem dX0_afterYears_11 : decode cX0_afterYears 11 = .ok (.aload_n 0, 1) := by decide +kernel
theorem dX0_afterYears_12 : decode cX0_afterYears 12 = .ok (.iload_n 3, 1) := by decide +kernel
theorem dX0_afterYears_13 : decode cX0_afterYears 13 = .ok (.invokevirtual 70, 3) := by decide +kernel
theorem dX0_afterYears_16 : decode cX0_afterYears 16 = .ok (.istore_n 3, 1) := by decide +kernel
theorem dX0_afterYears_17 : decode cX0_afterYears 17 = .ok (.iinc 4 1, 3) := by decide +kernel
theorem dX0_afterYears_20 : decode cX0_afterYears 20 = .ok (.goto (-15), 3) := by decide +kernel
theorem dX0_afterYears_23 : decode cX0_afterYears 23 = .ok (.iload_n 3, 1) := by decide +kernel
theorem dX0_afterYears_24 : decode cX0_afterYears 24 = .ok (.ireturn, 1) := by decide +kernel
theorem dX0_breaks_0 : decode cX0_breaks 0 = .ok (.iload_n 2, 1) := by decide +kernel
theorem dX0_breaks_1 : decode cX0_breaks 1 = .ok (.aload_n 0, 1) := by decide +kernel
theorem dX0_breaks_2 : decode cX0_breaks 2 = .ok (.getfield 27, 3) := by decide +kernel
theorem dX0_breaks_5 : decode cX0_breaks 5 = .ok (.iload_n 1, 1) := by decide +kernel
theorem dX0_breaks_6 : decode cX0_breaks 6 = .ok (.iaload, 1) := by decide +kernel
theorem dX0_breaks_7 : decode cX0_breaks 7 = .ok (.invokestatic 74, 3) := by decide +kernel
theorem dX0_breaks_10 : decode cX0_breaks 10 = .ok (.ifCond .eq 20, 3) := by decide +kernel
theorem dX0_breaks_13 : decode cX0_breaks 13 = .ok (.iload_n 2, 1) := by decide +kernel
theorem dX0_breaks_14 : decode cX0_breaks 14 = .ok (.aload_n 0, 1) := by decide +kernel
theorem dX0_breaks_15 : decode cX0_breaks 15 = .ok (.getfield 30, 3) := by decide +kernel
theorem dX0_breaks_18 : decode cX0_breaks 18 = .ok (.iload_n 1, 1) := by decide +kernel
theorem dX0_breaks_19 : decode cX0_breaks 19 = .ok (.iaload, 1) := by decide +kernel
theorem dX0_breaks_20 : decode cX0_breaks 20 = .ok (.invokestatic 74, 3) := by decide +kernel
theorem dX0_breaks_23 : decode cX0_breaks 23 = .ok (.ifCond .eq 7, 3) := by decide +kernel
theorem dX0_breaks_26 : decode cX0_breaks 26 = .ok (.iconst 1, 1) := by decide +kernel
theorem dX0_breaks_27 : decode cX0_breaks 27 = .ok (.goto 4, 3) := by decide +kernel
theorem dX0_breaks_30 : decode cX0_breaks 30 = .ok (.iconst 0, 1) := by decide +kernel
theorem dX0_breaks_31 : decode cX0_breaks 31 = .ok (.ireturn, 1) := by decide +kernel
theorem dX0_allows_0 : decode cX0_allows 0 = .ok (.iconst 0, 1) := by decide +kernel
theorem dX0_allows_1 : decode cX0_allows 1 = .ok (.istore_n 2, 1) := by decide +kernel
theorem dX0_allows_2 : decode cX0_allows 2 = .ok (.iload_n 2, 1) := by decide +kernel
theorem dX0_allows_3 : decode cX0_allows 3 = .ok (.aload_n 0, 1) := by decide +kernel
theorem dX0_allows_4 : decode cX0_allows 4 = .ok (.getfield 43, 3) := by decide +kernel
theorem dX0_allows_7 : decode cX0_allows 7 = .ok (.if_icmp .ge 20, 3) := by decide +kernel
theorem dX0_allows_10 : decode cX0_allows 10 = .ok (.aload_n 0, 1) := by decide +kernel
theorem dX0_allows_11 : decode cX0_allows 11 = .ok (.iload_n 2, 1) := by decide +kernel
theorem dX0_allows_12 : decode cX0_allows 12 = .ok (.iload_n 1, 1) := by decide +kernel
theorem dX0_allows_13 : decode cX0_allows 13 = .ok (.invokevirtual 78, 3) := by decide +kernel
theorem dX0_allows_16 : decode cX0_allows 16 = .ok (.ifCond .eq 5, 3) := by decide +kernel
theorem dX0_allows_19 : decode cX0_allows 19 = .ok (.iconst 0, 1) := by decide +kernel
theorem dX0_allows_20 : decode cX0_allows 20 = .ok (.ireturn, 1) := by decide +kernel
theorem dX0_allows_21 : decode cX0_allows 21 = .ok (.iinc 2 1, 3) := by decide +kernel
theorem dX0_allows_24 : decode cX0_allows 24 = .ok (.goto (-22), 3) := by decide +kernel
theorem dX0_allows_27 : decode cX0_allows 27 = .ok (.iconst 1, 1) := by decide +kernel
theorem dX0_allows_28 : decode cX0_allows 28 = .ok (.ireturn, 1) := by decide +kernel
theorem dX0_agrees_0 : decode cX0_agrees 0 = .ok (.aload_n 0, 1) := by decide +kernel
theorem dX0_agrees_1 : decode cX0_agrees 1 = .ok (.iload_n 1, 1) := by decide +kernel
theorem dX0_agrees_2 : decode cX0_agrees 2 = .ok (.invokevirtual 70, 3) := by decide +kernel
theorem dX0_agrees_5 : decode cX0_agrees 5 = .ok (.iload_n 1, 1) := by decide +kernel
theorem dX0_agrees_6 : decode cX0_agrees 6 = .ok (.if_icmp .ne 7, 3) := by decide +kernel
theorem dX0_agrees_9 : decode cX0_agrees 9 = .ok (.iconst 1, 1) := by decide +kernel
theorem dX0_agrees_10 : decode cX0_agrees 10 = .ok (.goto 4, 3) := by decide +kernel
theorem dX0_agrees_13 : decode cX0_agrees 13 = .ok (.iconst 0, 1) := by decide +kernel
theorem dX0_agrees_14 : decode cX0_agrees 14 = .ok (.ireturn, 1) := by decide +kernel
theorem dX0_settles_0 : decode cX0_settles 0 = .ok (.aload_n 0, 1) := by decide +kernel
theorem dX0_settles_1 : decode cX0_settles 1 = .ok (.iload_n 1, 1) := by decide +kernel
theorem dX0_settles_2 : decode cX0_settles 2 = .ok (.invokevirtual 81, 3) := by decide +kernel
theorem dX0_settles_5 : decode cX0_settles 5 = .ok (.ifCond .eq 15, 3) := by decide +kernel
theorem dX0_settles_8 : decode cX0_settles 8 = .ok (.aload_n 0, 1) := by decide +kernel
theorem dX0_settles_9 : decode cX0_settles 9 = .ok (.iload_n 1, 1) := by decide +kernel
theorem dX0_settles_10 : decode cX0_settles 10 = .ok (.invokevirtual 84, 3) := by decide +kernel
theorem dX0_settles_13 : decode cX0_settles 13 = .ok (.ifCond .eq 7, 3) := by decide +kernel
theorem dX0_settles_16 : decode cX0_settles 16 = .ok (.iconst 1, 1) := by decide +kernel
theorem dX0_settles_17 : decode cX0_settles 17 = .ok (.goto 4, 3) := by decide +kernel
theorem dX0_settles_20 : decode cX0_settles 20 = .ok (.iconst 0, 1) := by decide +kernel
theorem dX0_settles_21 : decode cX0_settles 21 = .ok (.ireturn, 1) := by decide +kernel
theorem dX0_settled_0 : decode cX0_settled 0 = .ok (.iconst 0, 1) := by decide +kernel
theorem dX0_settled_1 : decode cX0_settled 1 = .ok (.istore_n 1, 1) := by decide +kernel
theorem dX0_settled_2 : decode cX0_settled 2 = .ok (.iconst 0, 1) := by decide +kernel
theorem dX0_settled_3 : decode cX0_settled 3 = .ok (.istore_n 2, 1) := by decide +kernel
theorem dX0_settled_4 : decode cX0_settled 4 = .ok (.iload_n 2, 1) := by decide +kernel
theorem dX0_settled_5 : decode cX0_settled 5 = .ok (.aload_n 0, 1) := by decide +kernel
theorem dX0_settled_6 : decode cX0_settled 6 = .ok (.invokevirtual 55, 3) := by decide +kernel
theorem dX0_settled_9 : decode cX0_settled 9 = .ok (.if_icmp .ge 20, 3) := by decide +kernel
theorem dX0_settled_12 : decode cX0_settled 12 = .ok (.iload_n 1, 1) := by decide +kernel
theorem dX0_settled_13 : decode cX0_settled 13 = .ok (.aload_n 0, 1) := by decide +kernel
theorem dX0_settled_14 : decode cX0_settled 14 = .ok (.iload_n 2, 1) := by decide +kernel
theorem dX0_settled_15 : decode cX0_settled 15 = .ok (.invokevirtual 87, 3) := by decide +kernel
theorem dX0_settled_18 : decode cX0_settled 18 = .ok (.invokestatic 90, 3) := by decide +kernel
theorem dX0_settled_21 : decode cX0_settled 21 = .ok (.iadd, 1) := by decide +kernel
theorem dX0_settled_22 : decode cX0_settled 22 = .ok (.istore_n 1, 1) := by decide +kernel
theorem dX0_settled_23 : decode cX0_settled 23 = .ok (.iinc 2 1, 3) := by decide +kernel
theorem dX0_settled_26 : decode cX0_settled 26 = .ok (.goto (-22), 3) := by decide +kernel
theorem dX0_settled_29 : decode cX0_settled 29 = .ok (.iload_n 1, 1) := by decide +kernel
theorem dX0_settled_30 : decode cX0_settled 30 = .ok (.ireturn, 1) := by decide +kernel
theorem dX0_settledWithout_0 : decode cX0_settledWithout 0 = .ok (.iconst 0, 1) := by decide +kernel
theorem dX0_settledWithout_1 : decode cX0_settledWithout 1 = .ok (.istore_n 3, 1) := by decide +kernel
theorem dX0_settledWithout_2 : decode cX0_settledWithout 2 = .ok (.iconst 0, 1) := by decide +kernel
theorem dX0_settledWithout_3 : decode cX0_settledWithout 3 = .ok (.istore 4, 2) := by decide +kernel
theorem dX0_settledWithout_5 : decode cX0_settledWithout 5 = .ok (.iload 4, 2) := by decide +kernel
theorem dX0_settledWithout_7 : decode cX0_settledWithout 7 = .ok (.aload_n 0, 1) := by decide +kernel
theorem dX0_settledWithout_8 : decode cX0_settledWithout 8 = .ok (.invokevirtual 55, 3) := by decide +kernel
theorem dX0_settledWithout_11 : decode cX0_settledWithout 11 = .ok (.if_icmp .ge 47, 3) := by decide +kernel
theorem dX0_settledWithout_14 : decode cX0_settledWithout 14 = .ok (.iload_n 3, 1) := by decide +kernel
theorem dX0_settledWithout_15 : decode cX0_settledWithout 15 = .ok (.aload_n 0, 1) := by decide +kernel
theorem dX0_settledWithout_16 : decode cX0_settledWithout 16 = .ok (.iload 4, 2) := by decide +kernel
theorem dX0_settledWithout_18 : decode cX0_settledWithout 18 = .ok (.invokevirtual 87, 3) := by decide +kernel
theorem dX0_settledWithout_21 : decode cX0_settledWithout 21 = .ok (.ifCond .eq 25, 3) := by decide +kernel
theorem dX0_settledWithout_24 : decode cX0_settledWithout 24 = .ok (.iload 4, 2) := by decide +kernel
theorem dX0_settledWithout_26 : decode cX0_settledWithout 26 = .ok (.iload_n 1, 1) := by decide +kernel
theorem dX0_settledWithout_27 : decode cX0_settledWithout 27 = .ok (.invokestatic 74, 3) := by decide +kernel
theorem dX0_settledWithout_30 : decode cX0_settledWithout 30 = .ok (.ifCond .eq 12, 3) := by decide +kernel
theorem dX0_settledWithout_33 : decode cX0_settledWithout 33 = .ok (.iload 4, 2) := by decide +kernel
theorem dX0_settledWithout_35 : decode cX0_settledWithout 35 = .ok (.iload_n 2, 1) := by decide +kernel
theorem dX0_settledWithout_36 : decode cX0_settledWithout 36 = .ok (.invokestatic 74, 3) := by decide +kernel
theorem dX0_settledWithout_39 : decode cX0_settledWithout 39 = .ok (.ifCond .ne 7, 3) := by decide +kernel
theorem dX0_settledWithout_42 : decode cX0_settledWithout 42 = .ok (.iconst 1, 1) := by decide +kernel
theorem dX0_settledWithout_43 : decode cX0_settledWithout 43 = .ok (.goto 4, 3) := by decide +kernel
theorem dX0_settledWithout_46 : decode cX0_settledWithout 46 = .ok (.iconst 0, 1) := by decide +kernel
theorem dX0_settledWithout_47 : decode cX0_settledWithout 47 = .ok (.invokestatic 90, 3) := by decide +kernel
theorem dX0_settledWithout_50 : decode cX0_settledWithout 50 = .ok (.iadd, 1) := by decide +kernel
theorem dX0_settledWithout_51 : decode cX0_settledWithout 51 = .ok (.istore_n 3, 1) := by decide +kernel
theorem dX0_settledWithout_52 : decode cX0_settledWithout 52 = .ok (.iinc 4 1, 3) := by decide +kernel
theorem dX0_settledWithout_55 : decode cX0_settledWithout 55 = .ok (.goto (-50), 3) := by decide +kernel
theorem dX0_settledWithout_58 : decode cX0_settledWithout 58 = .ok (.iload_n 3, 1) := by decide +kernel
theorem dX0_settledWithout_59 : decode cX0_settledWithout 59 = .ok (.ireturn, 1) := by decide +kernel
theorem dX0_ringFrom_0 : decode cX0_ringFrom 0 = .ok (.iload_n 1, 1) := by decide +kernel
theorem dX0_ringFrom_1 : decode cX0_ringFrom 1 = .ok (.istore_n 2, 1) := by decide +kernel
theorem dX0_ringFrom_2 : decode cX0_ringFrom 2 = .ok (.iconst 1, 1) := by decide +kernel
theorem dX0_ringFrom_3 : decode cX0_ringFrom 3 = .ok (.istore_n 3, 1) := by decide +kernel
theorem dX0_ringFrom_4 : decode cX0_ringFrom 4 = .ok (.iload_n 3, 1) := by decide +kernel
theorem dX0_ringFrom_5 : decode cX0_ringFrom 5 = .ok (.aload_n 0, 1) := by decide +kernel
theorem dX0_ringFrom_6 : decode cX0_ringFrom 6 = .ok (.invokevirtual 55, 3) := by decide +kernel
theorem dX0_ringFrom_9 : decode cX0_ringFrom 9 = .ok (.if_icmp .gt 22, 3) := by decide +kernel
theorem dX0_ringFrom_12 : decode cX0_ringFrom 12 = .ok (.aload_n 0, 1) := by decide +kernel
theorem dX0_ringFrom_13 : decode cX0_ringFrom 13 = .ok (.iload_n 2, 1) := by decide +kernel
theorem dX0_ringFrom_14 : decode cX0_ringFrom 14 = .ok (.invokevirtual 70, 3) := by decide +kernel
theorem dX0_ringFrom_17 : decode cX0_ringFrom 17 = .ok (.istore_n 2, 1) := by decide +kernel
theorem dX0_ringFrom_18 : decode cX0_ringFrom 18 = .ok (.iload_n 2, 1) := by decide +kernel
theorem dX0_ringFrom_19 : decode cX0_ringFrom 19 = .ok (.iload_n 1, 1) := by decide +kernel
theorem dX0_ringFrom_20 : decode cX0_ringFrom 20 = .ok (.if_icmp .ne 5, 3) := by decide +kernel
theorem dX0_ringFrom_23 : decode cX0_ringFrom 23 = .ok (.iload_n 3, 1) := by decide +kernel
theorem dX0_ringFrom_24 : decode cX0_ringFrom 24 = .ok (.ireturn, 1) := by decide +kernel
theorem dX0_ringFrom_25 : decode cX0_ringFrom 25 = .ok (.iinc 3 1, 3) := by decide +kernel
theorem dX0_ringFrom_28 : decode cX0_ringFrom 28 = .ok (.goto (-24), 3) := by decide +kernel
theorem dX0_ringFrom_31 : decode cX0_ringFrom 31 = .ok (.iconst 0, 1) := by decide +kernel
theorem dX0_ringFrom_32 : decode cX0_ringFrom 32 = .ok (.ireturn, 1) := by decide +kernel
theorem dX0_ringLedBy_0 : decode cX0_ringLedBy 0 = .ok (.iload_n 1, 1) := by decide +kernel
theorem dX0_ringLedBy_1 : decode cX0_ringLedBy 1 = .ok (.istore_n 2, 1) := by decide +kernel
theorem dX0_ringLedBy_2 : decode cX0_ringLedBy 2 = .ok (.iconst 1, 1) := by decide +kernel
theorem dX0_ringLedBy_3 : decode cX0_ringLedBy 3 = .ok (.istore_n 3, 1) := by decide +kernel
theorem dX0_ringLedBy_4 : decode cX0_ringLedBy 4 = .ok (.iload_n 3, 1) := by decide +kernel
theorem dX0_ringLedBy_5 : decode cX0_ringLedBy 5 = .ok (.aload_n 0, 1) := by decide +kernel
theorem dX0_ringLedBy_6 : decode cX0_ringLedBy 6 = .ok (.invokevirtual 55, 3) := by decide +kernel
theorem dX0_ringLedBy_9 : decode cX0_ringLedBy 9 = .ok (.if_icmp .gt 29, 3) := by decide +kernel
theorem dX0_ringLedBy_12 : decode cX0_ringLedBy 12 = .ok (.aload_n 0, 1) := by decide +kernel
theorem dX0_ringLedBy_13 : decode cX0_ringLedBy 13 = .ok (.iload_n 2, 1) := by decide +kernel
theorem dX0_ringLedBy_14 : decode cX0_ringLedBy 14 = .ok (.invokevirtual 70, 3) := by decide +kernel
theorem dX0_ringLedBy_17 : decode cX0_ringLedBy 17 = .ok (.istore_n 2, 1) := by decide +kernel
theorem dX0_ringLedBy_18 : decode cX0_ringLedBy 18 = .ok (.iload_n 2, 1) := by decide +kernel
theorem dX0_ringLedBy_19 : decode cX0_ringLedBy 19 = .ok (.iload_n 1, 1) := by decide +kernel
theorem dX0_ringLedBy_20 : decode cX0_ringLedBy 20 = .ok (.if_icmp .ne 5, 3) := by decide +kernel
theorem dX0_ringLedBy_23 : decode cX0_ringLedBy 23 = .ok (.iload_n 3, 1) := by decide +kernel
theorem dX0_ringLedBy_24 : decode cX0_ringLedBy 24 = .ok (.ireturn, 1) := by decide +kernel
theorem dX0_ringLedBy_25 : decode cX0_ringLedBy 25 = .ok (.iload_n 2, 1) := by decide +kernel
theorem dX0_ringLedBy_26 : decode cX0_ringLedBy 26 = .ok (.iload_n 1, 1) := by decide +kernel
theorem dX0_ringLedBy_27 : decode cX0_ringLedBy 27 = .ok (.if_icmp .ge 5, 3) := by decide +kernel
theorem dX0_ringLedBy_30 : decode cX0_ringLedBy 30 = .ok (.iconst 0, 1) := by decide +kernel
theorem dX0_ringLedBy_31 : decode cX0_ringLedBy 31 = .ok (.ireturn, 1) := by decide +kernel
theorem dX0_ringLedBy_32 : decode cX0_ringLedBy 32 = .ok (.iinc 3 1, 3) := by decide +kernel
theorem dX0_ringLedBy_35 : decode cX0_ringLedBy 35 = .ok (.goto (-31), 3) := by decide +kernel
theorem dX0_ringLedBy_38 : decode cX0_ringLedBy 38 = .ok (.iconst 0, 1) := by decide +kernel
theorem dX0_ringLedBy_39 : decode cX0_ringLedBy 39 = .ok (.ireturn, 1) := by decide +kernel
theorem dX0_worth_0 : decode cX0_worth 0 = .ok (.iload_n 2, 1) := by decide +kernel
theorem dX0_worth_1 : decode cX0_worth 1 = .ok (.lookupswitch 45 #[(0, 27), (1, 36)], 27) := by decide +kernel
theorem dX0_worth_28 : decode cX0_worth 28 = .ok (.aload_n 0, 1) := by decide +kernel
theorem dX0_worth_29 : decode cX0_worth 29 = .ok (.iload_n 1, 1) := by decide +kernel
theorem dX0_worth_30 : decode cX0_worth 30 = .ok (.invokevirtual 84, 3) := by decide +kernel
theorem dX0_worth_33 : decode cX0_worth 33 = .ok (.invokestatic 90, 3) := by decide +kernel
theorem dX0_worth_36 : decode cX0_worth 36 = .ok (.ireturn, 1) := by decide +kernel
theorem dX0_worth_37 : decode cX0_worth 37 = .ok (.aload_n 0, 1) := by decide +kernel
theorem dX0_worth_38 : decode cX0_worth 38 = .ok (.iload_n 1, 1) := by decide +kernel
theorem dX0_worth_39 : decode cX0_worth 39 = .ok (.invokevirtual 81, 3) := by decide +kernel
theorem dX0_worth_42 : decode cX0_worth 42 = .ok (.invokestatic 90, 3) := by decide +kernel
theorem dX0_worth_45 : decode cX0_worth 45 = .ok (.ireturn, 1) := by decide +kernel
theorem dX0_worth_46 : decode cX0_worth 46 = .ok (.iload_n 1, 1) := by decide +kernel
theorem dX0_worth_47 : decode cX0_worth 47 = .ok (.invokestatic 94, 3) := by decide +kernel
theorem dX0_worth_50 : decode cX0_worth 50 = .ok (.ireturn, 1) := by decide +kernel
theorem dX1_init_0 : decode cX1_init 0 = .ok (.aload_n 0, 1) := by decide +kernel
theorem dX1_init_1 : decode cX1_init 1 = .ok (.invokespecial 3, 3) := by decide +kernel
theorem dX1_init_4 : decode cX1_init 4 = .ok (.aload_n 0, 1) := by decide +kernel
theorem dX1_init_5 : decode cX1_init 5 = .ok (.new 9, 3) := by decide +kernel
theorem dX1_init_8 : decode cX1_init 8 = .ok (.dup, 1) := by decide +kernel
theorem dX1_init_9 : decode cX1_init 9 = .ok (.invokespecial 11, 3) := by decide +kernel
theorem dX1_init_12 : decode cX1_init 12 = .ok (.putfield 12, 3) := by decide +kernel
theorem dX1_init_15 : decode cX1_init 15 = .ok (.aload_n 0, 1) := by decide +kernel
theorem dX1_init_16 : decode cX1_init 16 = .ok (.new 18, 3) := by decide +kernel
theorem dX1_init_19 : decode cX1_init 19 = .ok (.dup, 1) := by decide +kernel
theorem dX1_init_20 : decode cX1_init 20 = .ok (.invokespecial 20, 3) := by decide +kernel
theorem dX1_init_23 : decode cX1_init 23 = .ok (.putfield 21, 3) := by decide +kernel
theorem dX1_init_26 : decode cX1_init 26 = .ok (.return_, 1) := by decide +kernel
theorem dX1_readAll_0 : decode cX1_readAll 0 = .ok (.aload_n 0, 1) := by decide +kernel
theorem dX1_readAll_1 : decode cX1_readAll 1 = .ok (.getfield 21, 3) := by decide +kernel
theorem dX1_readAll_4 : decode cX1_readAll 4 = .ok (.invokevirtual 25, 3) := by decide +kernel
theorem dX1_readAll_7 : decode cX1_readAll 7 = .ok (.aload_n 0, 1) := by decide +kernel
theorem dX1_readAll_8 : decode cX1_readAll 8 = .ok (.getfield 12, 3) := by decide +kernel
theorem dX1_readAll_11 : decode cX1_readAll 11 = .ok (.invokevirtual 28, 3) := by decide +kernel
theorem dX1_readAll_14 : decode cX1_readAll 14 = .ok (.aload_n 0, 1) := by decide +kernel
theorem dX1_readAll_15 : decode cX1_readAll 15 = .ok (.iconst 0, 1) := by decide +kernel
theorem dX1_readAll_16 : decode cX1_readAll 16 = .ok (.putfield 31, 3) := by decide +kernel
theorem dX1_readAll_19 : decode cX1_readAll 19 = .ok (.aload_n 0, 1) := by decide +kernel
theorem dX1_readAll_20 : decode cX1_readAll 20 = .ok (.iconst 0, 1) := by decide +kernel
theorem dX1_readAll_21 : decode cX1_readAll 21 = .ok (.putfield 35, 3) := by decide +kernel
theorem dX1_readAll_24 : decode cX1_readAll 24 = .ok (.aload_n 0, 1) := by decide +kernel
theorem dX1_readAll_25 : decode cX1_readAll 25 = .ok (.iconst 0, 1) := by decide +kernel
theorem dX1_readAll_26 : decode cX1_readAll 26 = .ok (.putfield 38, 3) := by decide +kernel
theorem dX1_readAll_29 : decode cX1_readAll 29 = .ok (.aload_n 0, 1) := by decide +kernel
theorem dX1_readAll_30 : decode cX1_readAll 30 = .ok (.getfield 38, 3) := by decide +kernel
theorem dX1_readAll_33 : decode cX1_readAll 33 = .ok (.sipush 160, 3) := by decide +kernel
theorem dX1_readAll_36 : decode cX1_readAll 36 = .ok (.if_icmp .ge 23, 3) := by decide +kernel
theorem dX1_readAll_39 : decode cX1_readAll 39 = .ok (.aload_n 0, 1) := by decide +kernel
theorem dX1_readAll_40 : decode cX1_readAll 40 = .ok (.invokevirtual 41, 3) := by decide +kernel
theorem dX1_readAll_43 : decode cX1_readAll 43 = .ok (.ifCond .eq 16, 3) := by decide +kernel
theorem dX1_readAll_46 : decode cX1_readAll 46 = .ok (.aload_n 0, 1) := by decide +kernel
theorem dX1_readAll_47 : decode cX1_readAll 47 = .ok (.dup, 1) := by decide +kernel
theorem dX1_readAll_48 : decode cX1_readAll 48 = .ok (.getfield 38, 3) := by decide +kernel
theorem dX1_readAll_51 : decode cX1_readAll 51 = .ok (.iconst 1, 1) := by decide +kernel
theorem dX1_readAll_52 : decode cX1_readAll 52 = .ok (.iadd, 1) := by decide +kernel
theorem dX1_readAll_53 : decode cX1_readAll 53 = .ok (.putfield 38, 3) := by decide +kernel
theorem dX1_readAll_56 : decode cX1_readAll 56 = .ok (.goto (-27), 3) := by decide +kernel
theorem dX1_readAll_59 : decode cX1_readAll 59 = .ok (.aload_n 0, 1) := by decide +kernel
theorem dX1_readAll_60 : decode cX1_readAll 60 = .ok (.aload_n 0, 1) := by decide +kernel
theorem dX1_readAll_61 : decode cX1_readAll 61 = .ok (.getfield 21, 3) := by decide +kernel
theorem dX1_readAll_64 : decode cX1_readAll 64 = .ok (.invokevirtual 45, 3) := by decide +kernel
theorem dX1_readAll_67 : decode cX1_readAll 67 = .ok (.ifCond .ne 7, 3) := by decide +kernel
theorem dX1_readAll_70 : decode cX1_readAll 70 = .ok (.iconst 1, 1) := by decide +kernel
theorem dX1_readAll_71 : decode cX1_readAll 71 = .ok (.goto 4, 3) := by decide +kernel
theorem dX1_readAll_74 : decode cX1_readAll 74 = .ok (.iconst 0, 1) := by decide +kernel
theorem dX1_readAll_75 : decode cX1_readAll 75 = .ok (.bipush 6, 2) := by decide +kernel
theorem dX1_readAll_77 : decode cX1_readAll 77 = .ok (.invokevirtual 48, 3) := by decide +kernel
theorem dX1_readAll_80 : decode cX1_readAll 80 = .ok (.return_, 1) := by decide +kernel
theorem dX1_readLine_0 : decode cX1_readLine 0 = .ok (.aload_n 0, 1) := by decide +kernel
theorem dX1_readLine_1 : decode cX1_readLine 1 = .ok (.invokevirtual 52, 3) := by decide +kernel
theorem dX1_readLine_4 : decode cX1_readLine 4 = .ok (.aload_n 0, 1) := by decide +kernel
theorem dX1_readLine_5 : decode cX1_readLine 5 = .ok (.getfield 31, 3) := by decide +kernel
theorem dX1_readLine_8 : decode cX1_readLine 8 = .ok (.ifCond .ne 14, 3) := by decide +kernel
theorem dX1_readLine_11 : decode cX1_readLine 11 = .ok (.aload_n 0, 1) := by decide +kernel
theorem dX1_readLine_12 : decode cX1_readLine 12 = .ok (.getfield 12, 3) := by decide +kernel
theorem dX1_readLine_15 : decode cX1_readLine 15 = .ok (.getfield 55, 3) := by decide +kernel
theorem dX1_readLine_18 : decode cX1_readLine 18 = .ok (.iconst 4, 1) := by decide +kernel
theorem dX1_readLine_19 : decode cX1_readLine 19 = .ok (.if_icmp .ne 5, 3) := by decide +kernel
theorem dX1_readLine_22 : decode cX1_readLine 22 = .ok (.iconst 0, 1) := by decide +kernel
theorem dX1_readLine_23 : decode cX1_readLine 23 = .ok (.ireturn, 1) := by decide +kernel
theorem dX1_readLine_24 : decode cX1_readLine 24 = .ok (.aload_n 0, 1) := by decide +kernel
theorem dX1_readLine_25 : decode cX1_readLine 25 = .ok (.invokevirtual 58, 3) := by decide +kernel
theorem dX1_readLine_28 : decode cX1_readLine 28 = .ok (.istore_n 1, 1) := by decide +kernel
theorem dX1_readLine_29 : decode cX1_readLine 29 = .ok (.iload_n 1, 1) := by decide +kernel
theorem dX1_readLine_30 : decode cX1_readLine 30 = .ok (.tableswitch 80 (-1) 7 #[50, 80, 80, 80, 80, 80, 59, 66, 73], 50) := by decide +kernel
theorem dX1_readLine_80 : decode cX1_readLine 80 = .ok (.aload_n 0, 1) := by decide +kernel
theorem dX1_readLine_81 : decode cX1_readLine 81 = .ok (.iconst 1, 1) := by decide +kernel
theorem dX1_readLine_82 : decode cX1_readLine 82 = .ok (.iconst 2, 1) := by decide +kernel
theorem dX1_readLine_83 : decode cX1_readLine 83 = .ok (.invokevirtual 48, 3) := by decide +kernel
theorem dX1_readLine_86 : decode cX1_readLine 86 = .ok (.goto 29, 3) := by decide +kernel
theorem dX1_readLine_89 : decode cX1_readLine 89 = .ok (.aload_n 0, 1) := by decide +kernel
theorem dX1_readLine_90 : decode cX1_readLine 90 = .ok (.invokevirtual 62, 3) := by decide +kernel
theorem dX1_readLine_93 : decode cX1_readLine 93 = .ok (.goto 22, 3) := by decide +kernel
theorem dX1_readLine_96 : decode cX1_readLine 96 = .ok (.aload_n 0, 1) := by decide +kernel
theorem dX1_readLine_97 : decode cX1_readLine 97 = .ok (.invokevirtual 65, 3) := by decide +kernel
theorem dX1_readLine_100 : decode cX1_readLine 100 = .ok (.goto 15, 3) := by decide +kernel
theorem dX1_readLine_103 : decode cX1_readLine 103 = .ok (.aload_n 0, 1) := by decide +kernel
theorem dX1_readLine_104 : decode cX1_readLine 104 = .ok (.invokevirtual 68, 3) := by decide +kernel
theorem dX1_readLine_107 : decode cX1_readLine 107 = .ok (.goto 8, 3) := by decide +kernel
theorem dX1_readLine_110 : decode cX1_readLine 110 = .ok (.aload_n 0, 1) := by decide +kernel
theorem dX1_readLine_111 : decode cX1_readLine 111 = .ok (.iload_n 1, 1) := by decide +kernel
theorem dX1_readLine_112 : decode cX1_readLine 112 = .ok (.invokevirtual 71, 3) := by decide +kernel
theorem dX1_readLine_115 : decode cX1_readLine 115 = .ok (.aload_n 0, 1) := by decide +kernel
theorem dX1_readLine_116 : decode cX1_readLine 116 = .ok (.getfield 31, 3) := by decide +kernel
theorem dX1_readLine_119 : decode cX1_readLine 119 = .ok (.ifCond .ne 7, 3) := by decide +kernel
theorem dX1_readLine_122 : decode cX1_readLine 122 = .ok (.iconst 1, 1) := by decide +kernel
theorem dX1_readLine_123 : decode cX1_readLine 123 = .ok (.goto 4, 3) := by decide +kernel
theorem dX1_readLine_126 : decode cX1_readLine 126 = .ok (.iconst 0, 1) := by decide +kernel
theorem dX1_readLine_127 : decode cX1_readLine 127 = .ok (.ireturn, 1) := by decide +kernel
theorem dX1_wordRead_0 : decode cX1_wordRead 0 = .ok (.aload_n 0, 1) := by decide +kernel
theorem dX1_wordRead_1 : decode cX1_wordRead 1 = .ok (.getfield 12, 3) := by decide +kernel
theorem dX1_wordRead_4 : decode cX1_wordRead 4 = .ok (.ldc 75, 2) := by decide +kernel
theorem dX1_wordRead_6 : decode cX1_wordRead 6 = .ok (.invokevirtual 77, 3) := by decide +kernel
theorem dX1_wordRead_9 : decode cX1_wordRead 9 = .ok (.ifCond .eq 5, 3) := by decide +kernel
theorem dX1_wordRead_12 : decode cX1_wordRead 12 = .ok (.iconst 0, 1) := by decide +kernel
theorem dX1_wordRead_13 : decode cX1_wordRead 13 = .ok (.ireturn, 1) := by decide +kernel
theorem dX1_wordRead_14 : decode cX1_wordRead 14 = .ok (.aload_n 0, 1) := by decide +kernel
theorem dX1_wordRead_15 : decode cX1_wordRead 15 = .ok (.getfield 12, 3) := by decide +kernel
theorem dX1_wordRead_18 : decode cX1_wordRead 18 = .ok (.ldc 81, 2) := by decide +kernel
theorem dX1_wordRead_20 : decode cX1_wordRead 20 = .ok (.invokevirtual 77, 3) := by decide +kernel
theorem dX1_wordRead_23 : decode cX1_wordRead 23 = .ok (.ifCond .eq 5, 3) := by decide +kernel
theorem dX1_wordRead_26 : decode cX1_wordRead 26 = .ok (.iconst 1, 1) := by decide +kernel
theorem dX1_wordRead_27 : decode cX1_wordRead 27 = .ok (.ireturn, 1) := by decide +kernel
theorem dX1_wordRead_28 : decode cX1_wordRead 28 = .ok (.aload_n 0, 1) := by decide +kernel
theorem dX1_wordRead_29 : decode cX1_wordRead 29 = .ok (.getfield 12, 3) := by decide +kernel
theorem dX1_wordRead_32 : decode cX1_wordRead 32 = .ok (.ldc 83, 2) := by decide +kernel
theorem dX1_wordRead_34 : decode cX1_wordRead 34 = .ok (.invokevirtual 77, 3) := by decide +kernel
theorem dX1_wordRead_37 : decode cX1_wordRead 37 = .ok (.ifCond .eq 5, 3) := by decide +kernel
theorem dX1_wordRead_40 : decode cX1_wordRead 40 = .ok (.iconst 2, 1) := by decide +kernel
theorem dX1_wordRead_41 : decode cX1_wordRead 41 = .ok (.ireturn, 1) := by decide +kernel
theorem dX1_wordRead_42 : decode cX1_wordRead 42 = .ok (.aload_n 0, 1) := by decide +kernel
theorem dX1_wordRead_43 : decode cX1_wordRead 43 = .ok (.getfield 12, 3) := by decide +kernel
theorem dX1_wordRead_46 : decode cX1_wordRead 46 = .ok (.ldc 85, 2) := by decide +kernel
theorem dX1_wordRead_48 : decode cX1_wordRead 48 = .ok (.invokevirtual 77, 3) := by decide +kernel
theorem dX1_wordRead_51 : decode cX1_wordRead 51 = .ok (.ifCond .eq 5, 3) := by decide +kernel
theorem dX1_wordRead_54 : decode cX1_wordRead 54 = .ok (.iconst 3, 1) := by decide +kernel
theorem dX1_wordRead_55 : decode cX1_wordRead 55 = .ok (.ireturn, 1) := by decide +kernel
theorem dX1_wordRead_56 : decode cX1_wordRead 56 = .ok (.aload_n 0, 1) := by decide +kernel
theorem dX1_wordRead_57 : decode cX1_wordRead 57 = .ok (.getfield 12, 3) := by decide +kernel
theorem dX1_wordRead_60 : decode cX1_wordRead 60 = .ok (.ldc 87, 2) := by decide +kernel
theorem dX1_wordRead_62 : decode cX1_wordRead 62 = .ok (.invokevirtual 77, 3) := by decide +kernel
theorem dX1_wordRead_65 : decode cX1_wordRead 65 = .ok (.ifCond .eq 5, 3) := by decide +kernel
theorem dX1_wordRead_68 : decode cX1_wordRead 68 = .ok (.iconst 4, 1) := by decide +kernel
theorem dX1_wordRead_69 : decode cX1_wordRead 69 = .ok (.ireturn, 1) := by decide +kernel
theorem dX1_wordRead_70 : decode cX1_wordRead 70 = .ok (.aload_n 0, 1) := by decide +kernel
theorem dX1_wordRead_71 : decode cX1_wordRead 71 = .ok (.getfield 12, 3) := by decide +kernel
theorem dX1_wordRead_74 : decode cX1_wordRead 74 = .ok (.ldc 89, 2) := by decide +kernel
theorem dX1_wordRead_76 : decode cX1_wordRead 76 = .ok (.invokevirtual 77, 3) := by decide +kernel
theorem dX1_wordRead_79 : decode cX1_wordRead 79 = .ok (.ifCond .eq 5, 3) := by decide +kernel
theorem dX1_wordRead_82 : decode cX1_wordRead 82 = .ok (.iconst 5, 1) := by decide +kernel
theorem dX1_wordRead_83 : decode cX1_wordRead 83 = .ok (.ireturn, 1) := by decide +kernel
theorem dX1_wordRead_84 : decode cX1_wordRead 84 = .ok (.aload_n 0, 1) := by decide +kernel
theorem dX1_wordRead_85 : decode cX1_wordRead 85 = .ok (.getfield 12, 3) := by decide +kernel
theorem dX1_wordRead_88 : decode cX1_wordRead 88 = .ok (.ldc 91, 2) := by decide +kernel
theorem dX1_wordRead_90 : decode cX1_wordRead 90 = .ok (.invokevirtual 77, 3) := by decide +kernel
theorem dX1_wordRead_93 : decode cX1_wordRead 93 = .ok (.ifCond .eq 6, 3) := by decide +kernel
theorem dX1_wordRead_96 : decode cX1_wordRead 96 = .ok (.bipush 6, 2) := by decide +kernel
theorem dX1_wordRead_98 : decode cX1_wordRead 98 = .ok (.ireturn, 1) := by decide +kernel
theorem dX1_wordRead_99 : decode cX1_wordRead 99 = .ok (.aload_n 0, 1) := by decide +kernel
theorem dX1_wordRead_100 : decode cX1_wordRead 100 = .ok (.getfield 12, 3) := by decide +kernel
theorem dX1_wordRead_103 : decode cX1_wordRead 103 = .ok (.ldc 93, 2) := by decide +kernel
theorem dX1_wordRead_105 : decode cX1_wordRead 105 = .ok (.invokevirtual 77, 3) := by decide +kernel
theorem dX1_wordRead_108 : decode cX1_wordRead 108 = .ok (.ifCond .eq 8, 3) := by decide +kernel
theorem dX1_wordRead_111 : decode cX1_wordRead 111 = .ok (.bipush 7, 2) := by decide +kernel
theorem dX1_wordRead_113 : decode cX1_wordRead 113 = .ok (.goto 4, 3) := by decide +kernel
theorem dX1_wordRead_116 : decode cX1_wordRead 116 = .ok (.iconst (-1), 1) := by decide +kernel
theorem dX1_wordRead_117 : decode cX1_wordRead 117 = .ok (.ireturn, 1) := by decide +kernel
theorem dX1_readThing_0 : decode cX1_readThing 0 = .ok (.aload_n 0, 1) := by decide +kernel
theorem dX1_readThing_1 : decode cX1_readThing 1 = .ok (.getfield 21, 3) := by decide +kernel
theorem dX1_readThing_4 : decode cX1_readThing 4 = .ok (.getfield 95, 3) := by decide +kernel
theorem dX1_readThing_7 : decode cX1_readThing 7 = .ok (.istore_n 2, 1) := by decide +kernel
theorem dX1_readThing_8 : decode cX1_readThing 8 = .ok (.aload_n 0, 1) := by decide +kernel
theorem dX1_readThing_9 : decode cX1_readThing 9 = .ok (.iload_n 2, 1) := by decide +kernel
theorem dX1_readThing_10 : decode cX1_readThing 10 = .ok (.bipush 6, 2) := by decide +kernel
theorem dX1_readThing_12 : decode cX1_readThing 12 = .ok (.if_icmp .lt 7, 3) := by decide +kernel
theorem dX1_readThing_15 : decode cX1_readThing 15 = .ok (.iconst 1, 1) := by decide +kernel
theorem dX1_readThing_16 : decode cX1_readThing 16 = .ok (.goto 4, 3) := by decide +kernel
theorem dX1_readThing_19 : decode cX1_readThing 19 = .ok (.iconst 0, 1) := by decide +kernel
theorem dX1_readThing_20 : decode cX1_readThing 20 = .ok (.iconst 5, 1) := by decide +kernel
theorem dX1_readThing_21 : decode cX1_readThing 21 = .ok (.invokevirtual 48, 3) := by decide +kernel
theorem dX1_readThing_24 : decode cX1_readThing 24 = .ok (.iload_n 1, 1) := by decide +kernel
theorem dX1_readThing_25 : decode cX1_readThing 25 = .ok (.ifCond .ne 7, 3) := by decide +kernel
theorem dX1_readThing_28 : decode cX1_readThing 28 = .ok (.iload_n 2, 1) := by decide +kernel
theorem dX1_readThing_29 : decode cX1_readThing 29 = .ok (.goto 8, 3) := by decide +kernel
theorem dX1_readThing_32 : decode cX1_readThing 32 = .ok (.aload_n 0, 1) := by decide +kernel
theorem dX1_readThing_33 : decode cX1_readThing 33 = .ok (.iconst 5, 1) := by decide +kernel
theorem dX1_readThing_34 : decode cX1_readThing 34 = .ok (.invokevirtual 98, 3) := by decide +kernel
theorem dX1_readThing_37 : decode cX1_readThing 37 = .ok (.istore_n 3, 1) := by decide +kernel
theorem dX1_readThing_38 : decode cX1_readThing 38 = .ok (.iload_n 1, 1) := by decide +kernel
theorem dX1_readThing_39 : decode cX1_readThing 39 = .ok (.iconst 3, 1) := by decide +kernel
theorem dX1_readThing_40 : decode cX1_readThing 40 = .ok (.if_icmp .eq 8, 3) := by decide +kernel
theorem dX1_readThing_43 : decode cX1_readThing 43 = .ok (.iload_n 1, 1) := by decide +kernel
theorem dX1_readThing_44 : decode cX1_readThing 44 = .ok (.iconst 4, 1) := by decide +kernel
theorem dX1_readThing_45 : decode cX1_readThing 45 = .ok (.if_icmp .ne 11, 3) := by decide +kernel
theorem dX1_readThing_48 : decode cX1_readThing 48 = .ok (.aload_n 0, 1) := by decide +kernel
theorem dX1_readThing_49 : decode cX1_readThing 49 = .ok (.iconst 5, 1) := by decide +kernel
theorem dX1_readThing_50 : decode cX1_readThing 50 = .ok (.invokevirtual 98, 3) := by decide +kernel
theorem dX1_readThing_53 : decode cX1_readThing 53 = .ok (.goto 4, 3) := by decide +kernel
theorem dX1_readThing_56 : decode cX1_readThing 56 = .ok (.iload_n 2, 1) := by decide +kernel
theorem dX1_readThing_57 : decode cX1_readThing 57 = .ok (.istore 4, 2) := by decide +kernel
theorem dX1_readThing_59 : decode cX1_readThing 59 = .ok (.aload_n 0, 1) := by decide +kernel
theorem dX1_readThing_60 : decode cX1_readThing 60 = .ok (.invokevirtual 102, 3) := by decide +kernel
theorem dX1_readThing_63 : decode cX1_readThing 63 = .ok (.aload_n 0, 1) := by decide +kernel
theorem dX1_readThing_64 : decode cX1_readThing 64 = .ok (.getfield 21, 3) := by decide +kernel
theorem dX1_readThing_67 : decode cX1_readThing 67 = .ok (.iload_n 1, 1) := by decide +kernel
theorem dX1_readThing_68 : decode cX1_readThing 68 = .ok (.iload_n 3, 1) := by decide +kernel
theorem dX1_readThing_69 : decode cX1_readThing 69 = .ok (.iload 4, 2) := by decide +kernel
theorem dX1_readThing_71 : decode cX1_readThing 71 = .ok (.invokevirtual 105, 3) := by decide +kernel
theorem dX1_readThing_74 : decode cX1_readThing 74 = .ok (.return_, 1) := by decide +kernel
theorem dX1_readSo_0 : decode cX1_readSo 0 = .ok (.aload_n 0, 1) := by decide +kernel
theorem dX1_readSo_1 : decode cX1_readSo 1 = .ok (.iconst 5, 1) := by decide +kernel
theorem dX1_readSo_2 : decode cX1_readSo 2 = .ok (.invokevirtual 98, 3) := by decide +kernel
theorem dX1_readSo_5 : decode cX1_readSo 5 = .ok (.istore_n 1, 1) := by decide +kernel
theorem dX1_readSo_6 : decode cX1_readSo 6 = .ok (.aload_n 0, 1) := by decide +kernel
theorem dX1_readSo_7 : decode cX1_readSo 7 = .ok (.aload_n 0, 1) := by decide +kernel
theorem dX1_readSo_8 : decode cX1_readSo 8 = .ok (.getfield 21, 3) := by decide +kernel
theorem dX1_readSo_11 : decode cX1_readSo 11 = .ok (.getfield 109, 3) := by decide +kernel
theorem dX1_readSo_14 : decode cX1_readSo 14 = .ok (.iload_n 1, 1) := by decide +kernel
theorem dX1_readSo_15 : decode cX1_readSo 15 = .ok (.invokestatic 112, 3) := by decide +kernel
theorem dX1_readSo_18 : decode cX1_readSo 18 = .ok (.iconst 4, 1) := by decide +kernel
theorem dX1_readSo_19 : decode cX1_readSo 19 = .ok (.invokevirtual 48, 3) := by decide +kernel
theorem dX1_readSo_22 : decode cX1_readSo 22 = .ok (.aload_n 0, 1) := by decide +kernel
theorem dX1_readSo_23 : decode cX1_readSo 23 = .ok (.invokevirtual 102, 3) := by decide +kernel
theorem dX1_readSo_26 : decode cX1_readSo 26 = .ok (.aload_n 0, 1) := by decide +kernel
theorem dX1_readSo_27 : decode cX1_readSo 27 = .ok (.getfield 21, 3) := by decide +kernel
theorem dX1_readSo_30 : decode cX1_readSo 30 = .ok (.dup, 1) := by decide +kernel
theorem dX1_readSo_31 : decode cX1_readSo 31 = .ok (.getfield 109, 3) := by decide +kernel
theorem dX1_readSo_34 : decode cX1_readSo 34 = .ok (.iconst 1, 1) := by decide +kernel
theorem dX1_readSo_35 : decode cX1_readSo 35 = .ok (.iload_n 1, 1) := by decide +kernel
theorem dX1_readSo_36 : decode cX1_readSo 36 = .ok (.ishl, 1) := by decide +kernel
theorem dX1_readSo_37 : decode cX1_readSo 37 = .ok (.ior, 1) := by decide +kernel
theorem dX1_readSo_38 : decode cX1_readSo 38 = .ok (.putfield 109, 3) := by decide +kernel
theorem dX1_readSo_41 : decode cX1_readSo 41 = .ok (.return_, 1) := by decide +kernel
theorem dX1_readGuest_0 : decode cX1_readGuest 0 = .ok (.aload_n 0, 1) := by decide +kernel
theorem dX1_readGuest_1 : decode cX1_readGuest 1 = .ok (.aload_n 0, 1) := by decide +kernel
theorem dX1_readGuest_2 : decode cX1_readGuest 2 = .ok (.getfield 21, 3) := by decide +kernel
theorem dX1_readGuest_5 : decode cX1_readGuest 5 = .ok (.getfield 116, 3) := by decide +kernel
theorem dX1_readGuest_8 : decode cX1_readGuest 8 = .ok (.iconst 4, 1) := by decide +kernel
theorem dX1_readGuest_9 : decode cX1_readGuest 9 = .ok (.if_icmp .lt 7, 3) := by decide +kernel
theorem dX1_readGuest_12 : decode cX1_readGuest 12 = .ok (.iconst 1, 1) := by decide +kernel
theorem dX1_readGuest_13 : decode cX1_readGuest 13 = .ok (.goto 4, 3) := by decide +kernel
theorem dX1_readGuest_16 : decode cX1_readGuest 16 = .ok (.iconst 0, 1) := by decide +kernel
theorem dX1_readGuest_17 : decode cX1_readGuest 17 = .ok (.iconst 5, 1) := by decide +kernel
theorem dX1_readGuest_18 : decode cX1_readGuest 18 = .ok (.invokevirtual 48, 3) := by decide +kernel
theorem dX1_readGuest_21 : decode cX1_readGuest 21 = .ok (.aload_n 0, 1) := by decide +kernel
theorem dX1_readGuest_22 : decode cX1_readGuest 22 = .ok (.iconst 5, 1) := by decide +kernel
theorem dX1_readGuest_23 : decode cX1_readGuest 23 = .ok (.invokevirtual 98, 3) := by decide +kernel
theorem dX1_readGuest_26 : decode cX1_readGuest 26 = .ok (.istore_n 1, 1) := by decide +kernel
theorem dX1_readGuest_27 : decode cX1_readGuest 27 = .ok (.aload_n 0, 1) := by decide +kernel
theorem dX1_readGuest_28 : decode cX1_readGuest 28 = .ok (.bipush 9, 2) := by decide +kernel
theorem dX1_readGuest_30 : decode cX1_readGuest 30 = .ok (.invokevirtual 98, 3) := by decide +kernel
theorem dX1_readGuest_33 : decode cX1_readGuest 33 = .ok (.istore_n 2, 1) := by decide +kernel
theorem dX1_readGuest_34 : decode cX1_readGuest 34 = .ok (.aload_n 0, 1) := by decide +kernel
theorem dX1_readGuest_35 : decode cX1_readGuest 35 = .ok (.invokevirtual 102, 3) := by decide +kernel
theorem dX1_readGuest_38 : decode cX1_readGuest 38 = .ok (.aload_n 0, 1) := by decide +kernel
theorem dX1_readGuest_39 : decode cX1_readGuest 39 = .ok (.getfield 21, 3) := by decide +kernel
theorem dX1_readGuest_42 : decode cX1_readGuest 42 = .ok (.iload_n 1, 1) := by decide +kernel
theorem dX1_readGuest_43 : decode cX1_readGuest 43 = .ok (.iload_n 2, 1) := by decide +kernel
theorem dX1_readGuest_44 : decode cX1_readGuest 44 = .ok (.invokevirtual 119, 3) := by decide +kernel
theorem dX1_readGuest_47 : decode cX1_readGuest 47 = .ok (.return_, 1) := by decide +kernel
theorem dX1_readBan_0 : decode cX1_readBan 0 = .ok (.aload_n 0, 1) := by decide +kernel
theorem dX1_readBan_1 : decode cX1_readBan 1 = .ok (.aload_n 0, 1) := by decide +kernel
theorem dX1_readBan_2 : decode cX1_readBan 2 = .ok (.getfield 21, 3) := by decide +kernel
theorem dX1_readBan_5 : decode cX1_readBan 5 = .ok (.getfield 123, 3) := by decide +kernel
theorem dX1_readBan_8 : decode cX1_readBan 8 = .ok (.iconst 4, 1) := by decide +kernel
theorem dX1_readBan_9 : decode cX1_readBan 9 = .ok (.if_icmp .lt 7, 3) := by decide +kernel
theorem dX1_readBan_12 : decode cX1_readBan 12 = .ok (.iconst 1, 1) := by decide +kernel
theorem dX1_readBan_13 : decode cX1_readBan 13 = .ok (.goto 4, 3) := by decide +kernel
theorem dX1_readBan_16 : decode cX1_readBan 16 = .ok (.iconst 0, 1) := by decide +kernel
theorem dX1_readBan_17 : decode cX1_readBan 17 = .ok (.iconst 5, 1) := by decide +kernel
theorem dX1_readBan_18 : decode cX1_readBan 18 = .ok (.invokevirtual 48, 3) := by decide +kernel
theorem dX1_readBan_21 : decode cX1_readBan 21 = .ok (.aload_n 0, 1) := by decide +kernel
theorem dX1_readBan_22 : decode cX1_readBan 22 = .ok (.iconst 5, 1) := by decide +kernel
theorem dX1_readBan_23 : decode cX1_readBan 23 = .ok (.invokevirtual 98, 3) := by decide +kernel
theorem dX1_readBan_26 : decode cX1_readBan 26 = .ok (.istore_n 1, 1) := by decide +kernel
theorem dX1_readBan_27 : decode cX1_readBan 27 = .ok (.aload_n 0, 1) := by decide +kernel
theorem dX1_readBan_28 : decode cX1_readBan 28 = .ok (.iconst 5, 1) := by decide +kernel
theorem dX1_readBan_29 : decode cX1_readBan 29 = .ok (.invokevirtual 98, 3) := by decide +kernel
theorem dX1_readBan_32 : decode cX1_readBan 32 = .ok (.istore_n 2, 1) := by decide +kernel
theorem dX1_readBan_33 : decode cX1_readBan 33 = .ok (.aload_n 0, 1) := by decide +kernel
theorem dX1_readBan_34 : decode cX1_readBan 34 = .ok (.iload_n 1, 1) := by decide +kernel
theorem dX1_readBan_35 : decode cX1_readBan 35 = .ok (.iload_n 2, 1) := by decide +kernel
theorem dX1_readBan_36 : decode cX1_readBan 36 = .ok (.if_icmp .ne 7, 3) := by decide +kernel
theorem dX1_readBan_39 : decode cX1_readBan 39 = .ok (.iconst 1, 1) := by decide +kernel
theorem dX1_readBan_40 : decode cX1_readBan 40 = .ok (.goto 4, 3) := by decide +kernel
theorem dX1_readBan_43 : decode cX1_readBan 43 = .ok (.iconst 0, 1) := by decide +kernel
theorem dX1_readBan_44 : decode cX1_readBan 44 = .ok (.iconst 3, 1) := by decide +kernel
theorem dX1_readBan_45 : decode cX1_readBan 45 = .ok (.invokevirtual 48, 3) := by decide +kernel
theorem dX1_readBan_48 : decode cX1_readBan 48 = .ok (.aload_n 0, 1) := by decide +kernel
theorem dX1_readBan_49 : decode cX1_readBan 49 = .ok (.invokevirtual 102, 3) := by decide +kernel
theorem dX1_readBan_52 : decode cX1_readBan 52 = .ok (.aload_n 0, 1) := by decide +kernel
theorem dX1_readBan_53 : decode cX1_readBan 53 = .ok (.getfield 21, 3) := by decide +kernel
theorem dX1_readBan_56 : decode cX1_readBan 56 = .ok (.iload_n 1, 1) := by decide +kernel
theorem dX1_readBan_57 : decode cX1_readBan 57 = .ok (.iload_n 2, 1) := by decide +kernel
theorem dX1_readBan_58 : decode cX1_readBan 58 = .ok (.invokevirtual 126, 3) := by decide +kernel
theorem dX1_readBan_61 : decode cX1_readBan 61 = .ok (.return_, 1) := by decide +kernel
theorem dX1_takeNumber_0 : decode cX1_takeNumber 0 = .ok (.aload_n 0, 1) := by decide +kernel
theorem dX1_takeNumber_1 : decode cX1_takeNumber 1 = .ok (.invokevirtual 52, 3) := by decide +kernel
theorem dX1_takeNumber_4 : decode cX1_takeNumber 4 = .ok (.aload_n 0, 1) := by decide +kernel
theorem dX1_takeNumber_5 : decode cX1_takeNumber 5 = .ok (.aload_n 0, 1) := by decide +kernel
theorem dX1_takeNumber_6 : decode cX1_takeNumber 6 = .ok (.getfield 12, 3) := by decide +kernel
theorem dX1_takeNumber_9 : decode cX1_takeNumber 9 = .ok (.getfield 55, 3) := by decide +kernel
theorem dX1_takeNumber_12 : decode cX1_takeNumber 12 = .ok (.iconst 2, 1) := by decide +kernel
theorem dX1_takeNumber_13 : decode cX1_takeNumber 13 = .ok (.if_icmp .eq 7, 3) := by decide +kernel
theorem dX1_takeNumber_16 : decode cX1_takeNumber 16 = .ok (.iconst 1, 1) := by decide +kernel
theorem dX1_takeNumber_17 : decode cX1_takeNumber 17 = .ok (.goto 4, 3) := by decide +kernel
theorem dX1_takeNumber_20 : decode cX1_takeNumber 20 = .ok (.iconst 0, 1) := by decide +kernel
theorem dX1_takeNumber_21 : decode cX1_takeNumber 21 = .ok (.iconst 2, 1) := by decide +kernel
theorem dX1_takeNumber_22 : decode cX1_takeNumber 22 = .ok (.invokevirtual 48, 3) := by decide +kernel
theorem dX1_takeNumber_25 : decode cX1_takeNumber 25 = .ok (.aload_n 0, 1) := by decide +kernel
theorem dX1_takeNumber_26 : decode cX1_takeNumber 26 = .ok (.getfield 31, 3) := by decide +kernel
theorem dX1_takeNumber_29 : decode cX1_takeNumber 29 = .ok (.ifCond .eq 5, 3) := by decide +kernel
theorem dX1_takeNumber_32 : decode cX1_takeNumber 32 = .ok (.iconst 0, 1) := by decide +kernel
theorem dX1_takeNumber_33 : decode cX1_takeNumber 33 = .ok (.ireturn, 1) := by decide +kernel
theorem dX1_takeNumber_34 : decode cX1_takeNumber 34 = .ok (.aload_n 0, 1) := by decide +kernel
theorem dX1_takeNumber_35 : decode cX1_takeNumber 35 = .ok (.getfield 12, 3) := by decide +kernel
theorem dX1_takeNumber_38 : decode cX1_takeNumber 38 = .ok (.invokevirtual 129, 3) := by decide +kernel
theorem dX1_takeNumber_41 : decode cX1_takeNumber 41 = .ok (.istore_n 2, 1) := by decide +kernel
theorem dX1_takeNumber_42 : decode cX1_takeNumber 42 = .ok (.aload_n 0, 1) := by decide +kernel
theorem dX1_takeNumber_43 : decode cX1_takeNumber 43 = .ok (.iload_n 2, 1) := by decide +kernel
theorem dX1_takeNumber_44 : decode cX1_takeNumber 44 = .ok (.iload_n 1, 1) := by decide +kernel
theorem dX1_takeNumber_45 : decode cX1_takeNumber 45 = .ok (.if_icmp .le 7, 3) := by decide +kernel
theorem dX1_takeNumber_48 : decode cX1_takeNumber 48 = .ok (.iconst 1, 1) := by decide +kernel
theorem dX1_takeNumber_49 : decode cX1_takeNumber 49 = .ok (.goto 4, 3) := by decide +kernel
theorem dX1_takeNumber_52 : decode cX1_takeNumber 52 = .ok (.iconst 0, 1) := by decide +kernel
theorem dX1_takeNumber_53 : decode cX1_takeNumber 53 = .ok (.iconst 3, 1) := by decide +kernel
theorem dX1_takeNumber_54 : decode cX1_takeNumber 54 = .ok (.invokevirtual 48, 3) := by decide +kernel
theorem dX1_takeNumber_57 : decode cX1_takeNumber 57 = .ok (.aload_n 0, 1) := by decide +kernel
theorem dX1_takeNumber_58 : decode cX1_takeNumber 58 = .ok (.getfield 31, 3) := by decide +kernel
theorem dX1_takeNumber_61 : decode cX1_takeNumber 61 = .ok (.ifCond .ne 7, 3) := by decide +kernel
theorem dX1_takeNumber_64 : decode cX1_takeNumber 64 = .ok (.iload_n 2, 1) := by decide +kernel
theorem dX1_takeNumber_65 : decode cX1_takeNumber 65 = .ok (.goto 4, 3) := by decide +kernel
theorem dX1_takeNumber_68 : decode cX1_takeNumber 68 = .ok (.iconst 0, 1) := by decide +kernel
theorem dX1_takeNumber_69 : decode cX1_takeNumber 69 = .ok (.ireturn, 1) := by decide +kernel
theorem dX1_takeStop_0 : decode cX1_takeStop 0 = .ok (.aload_n 0, 1) := by decide +kernel
theorem dX1_takeStop_1 : decode cX1_takeStop 1 = .ok (.invokevirtual 52, 3) := by decide +kernel
theorem dX1_takeStop_4 : decode cX1_takeStop 4 = .ok (.aload_n 0, 1) := by decide +kernel
theorem dX1_takeStop_5 : decode cX1_takeStop 5 = .ok (.aload_n 0, 1) := by decide +kernel
theorem dX1_takeStop_6 : decode cX1_takeStop 6 = .ok (.getfield 12, 3) := by decide +kernel
theorem dX1_takeStop_9 : decode cX1_takeStop 9 = .ok (.getfield 55, 3) := by decide +kernel
theorem dX1_takeStop_12 : decode cX1_takeStop 12 = .ok (.iconst 3, 1) := by decide +kernel
theorem dX1_takeStop_13 : decode cX1_takeStop 13 = .ok (.if_icmp .eq 7, 3) := by decide +kernel
theorem dX1_takeStop_16 : decode cX1_takeStop 16 = .ok (.iconst 1, 1) := by decide +kernel
theorem dX1_takeStop_17 : decode cX1_takeStop 17 = .ok (.goto 4, 3) := by decide +kernel
theorem dX1_takeStop_20 : decode cX1_takeStop 20 = .ok (.iconst 0, 1) := by decide +kernel
theorem dX1_takeStop_21 : decode cX1_takeStop 21 = .ok (.iconst 2, 1) := by decide +kernel
theorem dX1_takeStop_22 : decode cX1_takeStop 22 = .ok (.invokevirtual 48, 3) := by decide +kernel
theorem dX1_takeStop_25 : decode cX1_takeStop 25 = .ok (.return_, 1) := by decide +kernel
theorem dX1_takeToken_0 : decode cX1_takeToken 0 = .ok (.aload_n 0, 1) := by decide +kernel
theorem dX1_takeToken_1 : decode cX1_takeToken 1 = .ok (.getfield 31, 3) := by decide +kernel
theorem dX1_takeToken_4 : decode cX1_takeToken 4 = .ok (.ifCond .ne 30, 3) := by decide +kernel
theorem dX1_takeToken_7 : decode cX1_takeToken 7 = .ok (.aload_n 0, 1) := by decide +kernel
theorem dX1_takeToken_8 : decode cX1_takeToken 8 = .ok (.getfield 12, 3) := by decide +kernel
theorem dX1_takeToken_11 : decode cX1_takeToken 11 = .ok (.invokevirtual 132, 3) := by decide +kernel
theorem dX1_takeToken_14 : decode cX1_takeToken 14 = .ok (.aload_n 0, 1) := by decide +kernel
theorem dX1_takeToken_15 : decode cX1_takeToken 15 = .ok (.aload_n 0, 1) := by decide +kernel
theorem dX1_takeToken_16 : decode cX1_takeToken 16 = .ok (.getfield 12, 3) := by decide +kernel
theorem dX1_takeToken_19 : decode cX1_takeToken 19 = .ok (.getfield 55, 3) := by decide +kernel
theorem dX1_takeToken_22 : decode cX1_takeToken 22 = .ok (.ifCond .ne 7, 3) := by decide +kernel
theorem dX1_takeToken_25 : decode cX1_takeToken 25 = .ok (.iconst 1, 1) := by decide +kernel
theorem dX1_takeToken_26 : decode cX1_takeToken 26 = .ok (.goto 4, 3) := by decide +kernel
theorem dX1_takeToken_29 : decode cX1_takeToken 29 = .ok (.iconst 0, 1) := by decide +kernel
theorem dX1_takeToken_30 : decode cX1_takeToken 30 = .ok (.iconst 1, 1) := by decide +kernel
theorem dX1_takeToken_31 : decode cX1_takeToken 31 = .ok (.invokevirtual 48, 3) := by decide +kernel
theorem dX1_takeToken_34 : decode cX1_takeToken 34 = .ok (.return_, 1) := by decide +kernel
theorem dX1_failIf_0 : decode cX1_failIf 0 = .ok (.iload_n 1, 1) := by decide +kernel
theorem dX1_failIf_1 : decode cX1_failIf 1 = .ok (.ifCond .eq 26, 3) := by decide +kernel
theorem dX1_failIf_4 : decode cX1_failIf 4 = .ok (.aload_n 0, 1) := by decide +kernel
theorem dX1_failIf_5 : decode cX1_failIf 5 = .ok (.getfield 31, 3) := by decide +kernel
theorem dX1_failIf_8 : decode cX1_failIf 8 = .ok (.ifCond .ne 19, 3) := by decide +kernel
theorem dX1_failIf_11 : decode cX1_failIf 11 = .ok (.aload_n 0, 1) := by decide +kernel
theorem dX1_failIf_12 : decode cX1_failIf 12 = .ok (.iload_n 2, 1) := by decide +kernel
theorem dX1_failIf_13 : decode cX1_failIf 13 = .ok (.putfield 31, 3) := by decide +kernel
theorem dX1_failIf_16 : decode cX1_failIf 16 = .ok (.aload_n 0, 1) := by decide +kernel
theorem dX1_failIf_17 : decode cX1_failIf 17 = .ok (.aload_n 0, 1) := by decide +kernel
theorem dX1_failIf_18 : decode cX1_failIf 18 = .ok (.getfield 12, 3) := by decide +kernel
theorem dX1_failIf_21 : decode cX1_failIf 21 = .ok (.getfield 135, 3) := by decide +kernel
theorem dX1_failIf_24 : decode cX1_failIf 24 = .ok (.putfield 35, 3) := by decide +kernel
theorem dX1_failIf_27 : decode cX1_failIf 27 = .ok (.return_, 1) := by decide +kernel
theorem dX2_init_0 : decode cX2_init 0 = .ok (.aload_n 0, 1) := by decide +kernel
theorem dX2_init_1 : decode cX2_init 1 = .ok (.invokespecial 3, 3) := by decide +kernel
theorem dX2_init_4 : decode cX2_init 4 = .ok (.aload_n 0, 1) := by decide +kernel
theorem dX2_init_5 : decode cX2_init 5 = .ok (.iconst 4, 1) := by decide +kernel
theorem dX2_init_6 : decode cX2_init 6 = .ok (.newarray .int, 2) := by decide +kernel
theorem dX2_init_8 : decode cX2_init 8 = .ok (.putfield 9, 3) := by decide +kernel
theorem dX2_init_11 : decode cX2_init 11 = .ok (.aload_n 0, 1) := by decide +kernel
theorem dX2_init_12 : decode cX2_init 12 = .ok (.iconst 4, 1) := by decide +kernel
theorem dX2_init_13 : decode cX2_init 13 = .ok (.newarray .int, 2) := by decide +kernel
theorem dX2_init_15 : decode cX2_init 15 = .ok (.putfield 15, 3) := by decide +kernel
theorem dX2_init_18 : decode cX2_init 18 = .ok (.return_, 1) := by decide +kernel
theorem dX2_aimAt_0 : decode cX2_aimAt 0 = .ok (.aload_n 0, 1) := by decide +kernel
theorem dX2_aimAt_1 : decode cX2_aimAt 1 = .ok (.iload_n 1, 1) := by decide +kernel
theorem dX2_aimAt_2 : decode cX2_aimAt 2 = .ok (.putfield 18, 3) := by decide +kernel
theorem dX2_aimAt_5 : decode cX2_aimAt 5 = .ok (.aload_n 0, 1) := by decide +kernel
theorem dX2_aimAt_6 : decode cX2_aimAt 6 = .ok (.iload_n 2, 1) := by decide +kernel
theorem dX2_aimAt_7 : decode cX2_aimAt 7 = .ok (.putfield 22, 3) := by decide +kernel
theorem dX2_aimAt_10 : decode cX2_aimAt 10 = .ok (.aload_n 0, 1) := by decide +kernel
theorem dX2_aimAt_11 : decode cX2_aimAt 11 = .ok (.iconst 0, 1) := by decide +kernel
theorem dX2_aimAt_12 : decode cX2_aimAt 12 = .ok (.putfield 25, 3) := by decide +kernel
theorem dX2_aimAt_15 : decode cX2_aimAt 15 = .ok (.return_, 1) := by decide +kernel
theorem dX2_tryRows_0 : decode cX2_tryRows 0 = .ok (.iconst 0, 1) := by decide +kernel
theorem dX2_tryRows_1 : decode cX2_tryRows 1 = .ok (.istore_n 3, 1) := by decide +kernel
theorem dX2_tryRows_2 : decode cX2_tryRows 2 = .ok (.iload_n 3, 1) := by decide +kernel
theorem dX2_tryRows_3 : decode cX2_tryRows 3 = .ok (.iload_n 2, 1) := by decide +kernel
theorem dX2_tryRows_4 : decode cX2_tryRows 4 = .ok (.if_icmp .ge 16, 3) := by decide +kernel
theorem dX2_tryRows_7 : decode cX2_tryRows 7 = .ok (.aload_n 0, 1) := by decide +kernel
theorem dX2_tryRows_8 : decode cX2_tryRows 8 = .ok (.getfield 9, 3) := by decide +kernel
theorem dX2_tryRows_11 : decode cX2_tryRows 11 = .ok (.iload_n 3, 1) := by decide +kernel
theorem dX2_tryRows_12 : decode cX2_tryRows 12 = .ok (.iconst (-1), 1) := by decide +kernel
theorem dX2_tryRows_13 : decode cX2_tryRows 13 = .ok (.iastore, 1) := by decide +kernel
theorem dX2_tryRows_14 : decode cX2_tryRows 14 = .ok (.iinc 3 1, 3) := by decide +kernel
theorem dX2_tryRows_17 : decode cX2_tryRows 17 = .ok (.goto (-15), 3) := by decide +kernel
theorem dX2_tryRows_20 : decode cX2_tryRows 20 = .ok (.aload_n 1, 1) := by decide +kernel
theorem dX2_tryRows_21 : decode cX2_tryRows 21 = .ok (.getfield 29, 3) := by decide +kernel
theorem dX2_tryRows_24 : decode cX2_tryRows 24 = .ok (.iconst 1, 1) := by decide +kernel
theorem dX2_tryRows_25 : decode cX2_tryRows 25 = .ok (.iadd, 1) := by decide +kernel
theorem dX2_tryRows_26 : decode cX2_tryRows 26 = .ok (.iload_n 2, 1) := by decide +kernel
theorem dX2_tryRows_27 : decode cX2_tryRows 27 = .ok (.invokestatic 34, 3) := by decide +kernel
theorem dX2_tryRows_30 : decode cX2_tryRows 30 = .ok (.l2i, 1) := by decide +kernel
theorem dX2_tryRows_31 : decode cX2_tryRows 31 = .ok (.istore_n 3, 1) := by decide +kernel
theorem dX2_tryRows_32 : decode cX2_tryRows 32 = .ok (.iconst 0, 1) := by decide +kernel
theorem dX2_tryRows_33 : decode cX2_tryRows 33 = .ok (.istore 4, 2) := by decide +kernel
theorem dX2_tryRows_35 : decode cX2_tryRows 35 = .ok (.iload 4, 2) := by decide +kernel
theorem dX2_tryRows_37 : decode cX2_tryRows 37 = .ok (.iload_n 3, 1) := by decide +kernel
theorem dX2_tryRows_38 : decode cX2_tryRows 38 = .ok (.if_icmp .ge 50, 3) := by decide +kernel
theorem dX2_tryRows_41 : decode cX2_tryRows 41 = .ok (.aload_n 0, 1) := by decide +kernel
theorem dX2_tryRows_42 : decode cX2_tryRows 42 = .ok (.aload_n 1, 1) := by decide +kernel
theorem dX2_tryRows_43 : decode cX2_tryRows 43 = .ok (.iload_n 2, 1) := by decide +kernel
theorem dX2_tryRows_44 : decode cX2_tryRows 44 = .ok (.invokevirtual 38, 3) := by decide +kernel
theorem dX2_tryRows_47 : decode cX2_tryRows 47 = .ok (.ifCond .eq 26, 3) := by decide +kernel
theorem dX2_tryRows_50 : decode cX2_tryRows 50 = .ok (.aload_n 0, 1) := by decide +kernel
theorem dX2_tryRows_51 : decode cX2_tryRows 51 = .ok (.getfield 25, 3) := by decide +kernel
theorem dX2_tryRows_54 : decode cX2_tryRows 54 = .ok (.ifCond .eq 14, 3) := by decide +kernel
theorem dX2_tryRows_57 : decode cX2_tryRows 57 = .ok (.aload_n 0, 1) := by decide +kernel
theorem dX2_tryRows_58 : decode cX2_tryRows 58 = .ok (.getfield 42, 3) := by decide +kernel
theorem dX2_tryRows_61 : decode cX2_tryRows 61 = .ok (.aload_n 0, 1) := by decide +kernel
theorem dX2_tryRows_62 : decode cX2_tryRows 62 = .ok (.getfield 45, 3) := by decide +kernel
theorem dX2_tryRows_65 : decode cX2_tryRows 65 = .ok (.if_icmp .ge 8, 3) := by decide +kernel
theorem dX2_tryRows_68 : decode cX2_tryRows 68 = .ok (.aload_n 0, 1) := by decide +kernel
theorem dX2_tryRows_69 : decode cX2_tryRows 69 = .ok (.iload_n 2, 1) := by decide +kernel
theorem dX2_tryRows_70 : decode cX2_tryRows 70 = .ok (.invokevirtual 48, 3) := by decide +kernel
theorem dX2_tryRows_73 : decode cX2_tryRows 73 = .ok (.aload_n 0, 1) := by decide +kernel
theorem dX2_tryRows_74 : decode cX2_tryRows 74 = .ok (.aload_n 1, 1) := by decide +kernel
theorem dX2_tryRows_75 : decode cX2_tryRows 75 = .ok (.getfield 29, 3) := by decide +kernel
theorem dX2_tryRows_78 : decode cX2_tryRows 78 = .ok (.iload_n 2, 1) := by decide +kernel
theorem dX2_tryRows_79 : decode cX2_tryRows 79 = .ok (.invokevirtual 52, 3) := by decide +kernel
theorem dX2_tryRows_82 : decode cX2_tryRows 82 = .ok (.iinc 4 1, 3) := by decide +kernel
theorem dX2_tryRows_85 : decode cX2_tryRows 85 = .ok (.goto (-50), 3) := by decide +kernel
theorem dX2_tryRows_88 : decode cX2_tryRows 88 = .ok (.return_, 1) := by decide +kernel
theorem dX2_succeeds_0 : decode cX2_succeeds 0 = .ok (.aload_n 1, 1) := by decide +kernel
theorem dX2_succeeds_1 : decode cX2_succeeds 1 = .ok (.getfield 56, 3) := by decide +kernel
theorem dX2_succeeds_4 : decode cX2_succeeds 4 = .ok (.istore_n 3, 1) := by decide +kernel
theorem dX2_succeeds_5 : decode cX2_succeeds 5 = .ok (.aload_n 0, 1) := by decide +kernel
theorem dX2_succeeds_6 : decode cX2_succeeds 6 = .ok (.iconst 0, 1) := by decide +kernel
theorem dX2_succeeds_7 : decode cX2_succeeds 7 = .ok (.putfield 42, 3) := by decide +kernel
theorem dX2_succeeds_10 : decode cX2_succeeds 10 = .ok (.iconst 0, 1) := by decide +kernel
theorem dX2_succeeds_11 : decode cX2_succeeds 11 = .ok (.istore 4, 2) := by decide +kernel
theorem dX2_succeeds_13 : decode cX2_succeeds 13 = .ok (.iload 4, 2) := by decide +kernel
theorem dX2_succeeds_15 : decode cX2_succeeds 15 = .ok (.iload_n 2, 1) := by decide +kernel
theorem dX2_succeeds_16 : decode cX2_succeeds 16 = .ok (.if_icmp .ge 81, 3) := by decide +kernel
theorem dX2_succeeds_19 : decode cX2_succeeds 19 = .ok (.aload_n 0, 1) := by decide +kernel
theorem dX2_succeeds_20 : decode cX2_succeeds 20 = .ok (.getfield 9, 3) := by decide +kernel
theorem dX2_succeeds_23 : decode cX2_succeeds 23 = .ok (.iload 4, 2) := by decide +kernel
theorem dX2_succeeds_25 : decode cX2_succeeds 25 = .ok (.iaload, 1) := by decide +kernel
theorem dX2_succeeds_26 : decode cX2_succeeds 26 = .ok (.istore 5, 2) := by decide +kernel
theorem dX2_succeeds_28 : decode cX2_succeeds 28 = .ok (.aload_n 1, 1) := by decide +kernel
theorem dX2_succeeds_29 : decode cX2_succeeds 29 = .ok (.iload 5, 2) := by decide +kernel
theorem dX2_succeeds_31 : decode cX2_succeeds 31 = .ok (.invokevirtual 59, 3) := by decide +kernel
theorem dX2_succeeds_34 : decode cX2_succeeds 34 = .ok (.ifCond .eq 41, 3) := by decide +kernel
theorem dX2_succeeds_37 : decode cX2_succeeds 37 = .ok (.iload_n 3, 1) := by decide +kernel
theorem dX2_succeeds_38 : decode cX2_succeeds 38 = .ok (.aload_n 1, 1) := by decide +kernel
theorem dX2_succeeds_39 : decode cX2_succeeds 39 = .ok (.getfield 63, 3) := by decide +kernel
theorem dX2_succeeds_42 : decode cX2_succeeds 42 = .ok (.iload 5, 2) := by decide +kernel
theorem dX2_succeeds_44 : decode cX2_succeeds 44 = .ok (.iaload, 1) := by decide +kernel
theorem dX2_succeeds_45 : decode cX2_succeeds 45 = .ok (.invokestatic 66, 3) := by decide +kernel
theorem dX2_succeeds_48 : decode cX2_succeeds 48 = .ok (.istore_n 3, 1) := by decide +kernel
theorem dX2_succeeds_49 : decode cX2_succeeds 49 = .ok (.aload_n 0, 1) := by decide +kernel
theorem dX2_succeeds_50 : decode cX2_succeeds 50 = .ok (.dup, 1) := by decide +kernel
theorem dX2_succeeds_51 : decode cX2_succeeds 51 = .ok (.getfield 42, 3) := by decide +kernel
theorem dX2_succeeds_54 : decode cX2_succeeds 54 = .ok (.aload_n 1, 1) := by decide +kernel
theorem dX2_succeeds_55 : decode cX2_succeeds 55 = .ok (.getfield 70, 3) := by decide +kernel
theorem dX2_succeeds_58 : decode cX2_succeeds 58 = .ok (.iload 5, 2) := by decide +kernel
theorem dX2_succeeds_60 : decode cX2_succeeds 60 = .ok (.iaload, 1) := by decide +kernel
theorem dX2_succeeds_61 : decode cX2_succeeds 61 = .ok (.iadd, 1) := by decide +kernel
theorem dX2_succeeds_62 : decode cX2_succeeds 62 = .ok (.putfield 42, 3) := by decide +kernel
theorem dX2_succeeds_65 : decode cX2_succeeds 65 = .ok (.aload_n 1, 1) := by decide +kernel
theorem dX2_succeeds_66 : decode cX2_succeeds 66 = .ok (.iload_n 3, 1) := by decide +kernel
theorem dX2_succeeds_67 : decode cX2_succeeds 67 = .ok (.invokevirtual 73, 3) := by decide +kernel
theorem dX2_succeeds_70 : decode cX2_succeeds 70 = .ok (.ifCond .ne 5, 3) := by decide +kernel
theorem dX2_succeeds_73 : decode cX2_succeeds 73 = .ok (.iconst 0, 1) := by decide +kernel
theorem dX2_succeeds_74 : decode cX2_succeeds 74 = .ok (.ireturn, 1) := by decide +kernel
theorem dX2_succeeds_75 : decode cX2_succeeds 75 = .ok (.aload_n 1, 1) := by decide +kernel
theorem dX2_succeeds_76 : decode cX2_succeeds 76 = .ok (.iload_n 3, 1) := by decide +kernel
theorem dX2_succeeds_77 : decode cX2_succeeds 77 = .ok (.invokevirtual 76, 3) := by decide +kernel
theorem dX2_succeeds_80 : decode cX2_succeeds 80 = .ok (.istore_n 3, 1) := by decide +kernel
theorem dX2_succeeds_81 : decode cX2_succeeds 81 = .ok (.aload_n 1, 1) := by decide +kernel
theorem dX2_succeeds_82 : decode cX2_succeeds 82 = .ok (.iload_n 3, 1) := by decide +kernel
theorem dX2_succeeds_83 : decode cX2_succeeds 83 = .ok (.invokevirtual 73, 3) := by decide +kernel
theorem dX2_succeeds_86 : decode cX2_succeeds 86 = .ok (.ifCond .ne 5, 3) := by decide +kernel
theorem dX2_succeeds_89 : decode cX2_succeeds 89 = .ok (.iconst 0, 1) := by decide +kernel
theorem dX2_succeeds_90 : decode cX2_succeeds 90 = .ok (.ireturn, 1) := by decide +kernel
theorem dX2_succeeds_91 : decode cX2_succeeds 91 = .ok (.iinc 4 1, 3) := by decide +kernel
theorem dX2_succeeds_94 : decode cX2_succeeds 94 = .ok (.goto (-81), 3) := by decide +kernel
theorem dX2_succeeds_97 : decode cX2_succeeds 97 = .ok (.aload_n 0, 1) := by decide +kernel
theorem dX2_succeeds_98 : decode cX2_succeeds 98 = .ok (.getfield 18, 3) := by decide +kernel
theorem dX2_succeeds_101 : decode cX2_succeeds 101 = .ok (.iconst (-1), 1) := by decide +kernel
theorem dX2_succeeds_102 : decode cX2_succeeds 102 = .ok (.if_icmp .ne 11, 3) := by decide +kernel
theorem dX2_succeeds_105 : decode cX2_succeeds 105 = .ok (.aload_n 1, 1) := by decide +kernel
theorem dX2_succeeds_106 : decode cX2_succeeds 106 = .ok (.iload_n 3, 1) := by decide +kernel
theorem dX2_succeeds_107 : decode cX2_succeeds 107 = .ok (.invokevirtual 80, 3) := by decide +kernel
theorem dX2_succeeds_110 : decode cX2_succeeds 110 = .ok (.goto 26, 3) := by decide +kernel
theorem dX2_succeeds_113 : decode cX2_succeeds 113 = .ok (.iload_n 3, 1) := by decide +kernel
theorem dX2_succeeds_114 : decode cX2_succeeds 114 = .ok (.aload_n 0, 1) := by decide +kernel
theorem dX2_succeeds_115 : decode cX2_succeeds 115 = .ok (.getfield 18, 3) := by decide +kernel
theorem dX2_succeeds_118 : decode cX2_succeeds 118 = .ok (.invokestatic 83, 3) := by decide +kernel
theorem dX2_succeeds_121 : decode cX2_succeeds 121 = .ok (.invokestatic 87, 3) := by decide +kernel
theorem dX2_succeeds_124 : decode cX2_succeeds 124 = .ok (.aload_n 0, 1) := by decide +kernel
theorem dX2_succeeds_125 : decode cX2_succeeds 125 = .ok (.getfield 22, 3) := by decide +kernel
theorem dX2_succeeds_128 : decode cX2_succeeds 128 = .ok (.if_icmp .ne 7, 3) := by decide +kernel
theorem dX2_succeeds_131 : decode cX2_succeeds 131 = .ok (.iconst 1, 1) := by decide +kernel
theorem dX2_succeeds_132 : decode cX2_succeeds 132 = .ok (.goto 4, 3) := by decide +kernel
theorem dX2_succeeds_135 : decode cX2_succeeds 135 = .ok (.iconst 0, 1) := by decide +kernel
theorem dX2_succeeds_136 : decode cX2_succeeds 136 = .ok (.ireturn, 1) := by decide +kernel
theorem dX2_holdRow_0 : decode cX2_holdRow 0 = .ok (.aload_n 0, 1) := by decide +kernel
theorem dX2_holdRow_1 : decode cX2_holdRow 1 = .ok (.getfield 9, 3) := by decide +kernel
theorem dX2_holdRow_4 : decode cX2_holdRow 4 = .ok (.iconst 0, 1) := by decide +kernel
theorem dX2_holdRow_5 : decode cX2_holdRow 5 = .ok (.aload_n 0, 1) := by decide +kernel
theorem dX2_holdRow_6 : decode cX2_holdRow 6 = .ok (.getfield 15, 3) := by decide +kernel
theorem dX2_holdRow_9 : decode cX2_holdRow 9 = .ok (.iconst 0, 1) := by decide +kernel
theorem dX2_holdRow_10 : decode cX2_holdRow 10 = .ok (.iload_n 1, 1) := by decide +kernel
theorem dX2_holdRow_11 : decode cX2_holdRow 11 = .ok (.invokestatic 91, 3) := by decide +kernel
theorem dX2_holdRow_14 : decode cX2_holdRow 14 = .ok (.aload_n 0, 1) := by decide +kernel
theorem dX2_holdRow_15 : decode cX2_holdRow 15 = .ok (.iload_n 1, 1) := by decide +kernel
theorem dX2_holdRow_16 : decode cX2_holdRow 16 = .ok (.putfield 97, 3) := by decide +kernel
theorem dX2_holdRow_19 : decode cX2_holdRow 19 = .ok (.aload_n 0, 1) := by decide +kernel
theorem dX2_holdRow_20 : decode cX2_holdRow 20 = .ok (.aload_n 0, 1) := by decide +kernel
theorem dX2_holdRow_21 : decode cX2_holdRow 21 = .ok (.getfield 42, 3) := by decide +kernel
theorem dX2_holdRow_24 : decode cX2_holdRow 24 = .ok (.putfield 45, 3) := by decide +kernel
theorem dX2_holdRow_27 : decode cX2_holdRow 27 = .ok (.aload_n 0, 1) := by decide +kernel
theorem dX2_holdRow_28 : decode cX2_holdRow 28 = .ok (.iconst 1, 1) := by decide +kernel
theorem dX2_holdRow_29 : decode cX2_holdRow 29 = .ok (.putfield 25, 3) := by decide +kernel
theorem dX2_holdRow_32 : decode cX2_holdRow 32 = .ok (.return_, 1) := by decide +kernel
theorem dX2_turnRow_0 : decode cX2_turnRow 0 = .ok (.iload_n 2, 1) := by decide +kernel
theorem dX2_turnRow_1 : decode cX2_turnRow 1 = .ok (.iconst 1, 1) := by decide +kernel
theorem dX2_turnRow_2 : decode cX2_turnRow 2 = .ok (.isub, 1) := by decide +kernel
theorem dX2_turnRow_3 : decode cX2_turnRow 3 = .ok (.istore_n 3, 1) := by decide +kernel
theorem dX2_turnRow_4 : decode cX2_turnRow 4 = .ok (.iload_n 3, 1) := by decide +kernel
theorem dX2_turnRow_5 : decode cX2_turnRow 5 = .ok (.ifCond .lt 39, 3) := by decide +kernel
theorem dX2_turnRow_8 : decode cX2_turnRow 8 = .ok (.aload_n 0, 1) := by decide +kernel
theorem dX2_turnRow_9 : decode cX2_turnRow 9 = .ok (.getfield 9, 3) := by decide +kernel
theorem dX2_turnRow_12 : decode cX2_turnRow 12 = .ok (.iload_n 3, 1) := by decide +kernel
theorem dX2_turnRow_13 : decode cX2_turnRow 13 = .ok (.iaload, 1) := by decide +kernel
theorem dX2_turnRow_14 : decode cX2_turnRow 14 = .ok (.iconst 1, 1) := by decide +kernel
theorem dX2_turnRow_15 : decode cX2_turnRow 15 = .ok (.iadd, 1) := by decide +kernel
theorem dX2_turnRow_16 : decode cX2_turnRow 16 = .ok (.iload_n 1, 1) := by decide +kernel
theorem dX2_turnRow_17 : decode cX2_turnRow 17 = .ok (.if_icmp .ge 14, 3) := by decide +kernel
theorem dX2_turnRow_20 : decode cX2_turnRow 20 = .ok (.aload_n 0, 1) := by decide +kernel
theorem dX2_turnRow_21 : decode cX2_turnRow 21 = .ok (.getfield 9, 3) := by decide +kernel
theorem dX2_turnRow_24 : decode cX2_turnRow 24 = .ok (.iload_n 3, 1) := by decide +kernel
theorem dX2_turnRow_25 : decode cX2_turnRow 25 = .ok (.dup2, 1) := by decide +kernel
theorem dX2_turnRow_26 : decode cX2_turnRow 26 = .ok (.iaload, 1) := by decide +kernel
theorem dX2_turnRow_27 : decode cX2_turnRow 27 = .ok (.iconst 1, 1) := by decide +kernel
theorem dX2_turnRow_28 : decode cX2_turnRow 28 = .ok (.iadd, 1) := by decide +kernel
theorem dX2_turnRow_29 : decode cX2_turnRow 29 = .ok (.iastore, 1) := by decide +kernel
theorem dX2_turnRow_30 : decode cX2_turnRow 30 = .ok (.return_, 1) := by decide +kernel
theorem dX2_turnRow_31 : decode cX2_turnRow 31 = .ok (.aload_n 0, 1) := by decide +kernel
theorem dX2_turnRow_32 : decode cX2_turnRow 32 = .ok (.getfield 9, 3) := by decide +kernel
theorem dX2_turnRow_35 : decode cX2_turnRow 35 = .ok (.iload_n 3, 1) := by decide +kernel
theorem dX2_turnRow_36 : decode cX2_turnRow 36 = .ok (.iconst (-1), 1) := by decide +kernel
theorem dX2_turnRow_37 : decode cX2_turnRow 37 = .ok (.iastore, 1) := by decide +kernel
theorem dX2_turnRow_38 : decode cX2_turnRow 38 = .ok (.iinc 3 (-1), 3) := by decide +kernel
theorem dX2_turnRow_41 : decode cX2_turnRow 41 = .ok (.goto (-37), 3) := by decide +kernel
theorem dX2_turnRow_44 : decode cX2_turnRow 44 = .ok (.return_, 1) := by decide +kernel
theorem dX2_guestAhead_0 : decode cX2_guestAhead 0 = .ok (.aload_n 0, 1) := by decide +kernel
theorem dX2_guestAhead_1 : decode cX2_guestAhead 1 = .ok (.getfield 25, 3) := by decide +kernel
theorem dX2_guestAhead_4 : decode cX2_guestAhead 4 = .ok (.ifCond .eq 25, 3) := by decide +kernel
theorem dX2_guestAhead_7 : decode cX2_guestAhead 7 = .ok (.iload_n 1, 1) := by decide +kernel
theorem dX2_guestAhead_8 : decode cX2_guestAhead 8 = .ok (.ifCond .lt 21, 3) := by decide +kernel
theorem dX2_guestAhead_11 : decode cX2_guestAhead 11 = .ok (.iload_n 1, 1) := by decide +kernel
theorem dX2_guestAhead_12 : decode cX2_guestAhead 12 = .ok (.aload_n 0, 1) := by decide +kernel
theorem dX2_guestAhead_13 : decode cX2_guestAhead 13 = .ok (.getfield 97, 3) := by decide +kernel
theorem dX2_guestAhead_16 : decode cX2_guestAhead 16 = .ok (.if_icmp .ge 13, 3) := by decide +kernel
theorem dX2_guestAhead_19 : decode cX2_guestAhead 19 = .ok (.aload_n 0, 1) := by decide +kernel
theorem dX2_guestAhead_20 : decode cX2_guestAhead 20 = .ok (.getfield 15, 3) := by decide +kernel
theorem dX2_guestAhead_23 : decode cX2_guestAhead 23 = .ok (.iload_n 1, 1) := by decide +kernel
theorem dX2_guestAhead_24 : decode cX2_guestAhead 24 = .ok (.iaload, 1) := by decide +kernel
theorem dX2_guestAhead_25 : decode cX2_guestAhead 25 = .ok (.iconst (-1), 1) := by decide +kernel
theorem dX2_guestAhead_26 : decode cX2_guestAhead 26 = .ok (.if_icmp .ne 6, 3) := by decide +kernel
theorem dX2_guestAhead_29 : decode cX2_guestAhead 29 = .ok (.bipush (-4), 2) := by decide +kernel
theorem dX2_guestAhead_31 : decode cX2_guestAhead 31 = .ok (.ireturn, 1) := by decide +kernel
theorem dX2_guestAhead_32 : decode cX2_guestAhead 32 = .ok (.aload_n 0, 1) := by decide +kernel
theorem dX2_guestAhead_33 : decode cX2_guestAhead 33 = .ok (.getfield 15, 3) := by decide +kernel
theorem dX2_guestAhead_36 : decode cX2_guestAhead 36 = .ok (.iload_n 1, 1) := by decide +kernel
theorem dX2_guestAhead_37 : decode cX2_guestAhead 37 = .ok (.iaload, 1) := by decide +kernel
theorem dX2_guestAhead_38 : decode cX2_guestAhead 38 = .ok (.ireturn, 1) := by decide +kernel
theorem dX3_init_0 : decode cX3_init 0 = .ok (.aload_n 0, 1) := by decide +kernel
theorem dX3_init_1 : decode cX3_init 1 = .ok (.invokespecial 3, 3) := by decide +kernel
theorem dX3_init_4 : decode cX3_init 4 = .ok (.aload_n 0, 1) := by decide +kernel
theorem dX3_init_5 : decode cX3_init 5 = .ok (.iconst (-1), 1) := by decide +kernel
theorem dX3_init_6 : decode cX3_init 6 = .ok (.putfield 9, 3) := by decide +kernel
theorem dX3_init_9 : decode cX3_init 9 = .ok (.aload_n 0, 1) := by decide +kernel
theorem dX3_init_10 : decode cX3_init 10 = .ok (.bipush 40, 2) := by decide +kernel
theorem dX3_init_12 : decode cX3_init 12 = .ok (.newarray .int, 2) := by decide +kernel
theorem dX3_init_14 : decode cX3_init 14 = .ok (.putfield 15, 3) := by decide +kernel
theorem dX3_init_17 : decode cX3_init 17 = .ok (.return_, 1) := by decide +kernel
theorem dX3_renew_0 : decode cX3_renew 0 = .ok (.aload_n 0, 1) := by decide +kernel
theorem dX3_renew_1 : decode cX3_renew 1 = .ok (.iload_n 1, 1) := by decide +kernel
theorem dX3_renew_2 : decode cX3_renew 2 = .ok (.putfield 9, 3) := by decide +kernel
theorem dX3_renew_5 : decode cX3_renew 5 = .ok (.aload_n 0, 1) := by decide +kernel
theorem dX3_renew_6 : decode cX3_renew 6 = .ok (.iload_n 2, 1) := by decide +kernel
theorem dX3_renew_7 : decode cX3_renew 7 = .ok (.putfield 19, 3) := by decide +kernel
theorem dX3_renew_10 : decode cX3_renew 10 = .ok (.iconst 0, 1) := by decide +kernel
theorem dX3_renew_11 : decode cX3_renew 11 = .ok (.istore_n 3, 1) := by decide +kernel
theorem dX3_renew_12 : decode cX3_renew 12 = .ok (.iload_n 3, 1) := by decide +kernel
theorem dX3_renew_13 : decode cX3_renew 13 = .ok (.bipush 40, 2) := by decide +kernel
theorem dX3_renew_15 : decode cX3_renew 15 = .ok (.if_icmp .ge 16, 3) := by decide +kernel
theorem dX3_renew_18 : decode cX3_renew 18 = .ok (.aload_n 0, 1) := by decide +kernel
theorem dX3_renew_19 : decode cX3_renew 19 = .ok (.getfield 15, 3) := by decide +kernel
theorem dX3_renew_22 : decode cX3_renew 22 = .ok (.iload_n 3, 1) := by decide +kernel
theorem dX3_renew_23 : decode cX3_renew 23 = .ok (.iconst 0, 1) := by decide +kernel
theorem dX3_renew_24 : decode cX3_renew 24 = .ok (.iastore, 1) := by decide +kernel
theorem dX3_renew_25 : decode cX3_renew 25 = .ok (.iinc 3 1, 3) := by decide +kernel
theorem dX3_renew_28 : decode cX3_renew 28 = .ok (.goto (-16), 3) := by decide +kernel
theorem dX3_renew_31 : decode cX3_renew 31 = .ok (.return_, 1) := by decide +kernel
theorem dX3_refusal_0 : decode cX3_refusal 0 = .ok (.aload_n 0, 1) := by decide +kernel
theorem dX3_refusal_1 : decode cX3_refusal 1 = .ok (.getfield 9, 3) := by decide +kernel
theorem dX3_refusal_4 : decode cX3_refusal 4 = .ok (.iconst (-1), 1) := by decide +kernel
theorem dX3_refusal_5 : decode cX3_refusal 5 = .ok (.if_icmp .ne 5, 3) := by decide +kernel
theorem dX3_refusal_8 : decode cX3_refusal 8 = .ok (.iconst 1, 1) := by decide +kernel
theorem dX3_refusal_9 : decode cX3_refusal 9 = .ok (.ireturn, 1) := by decide +kernel
theorem dX3_refusal_10 : decode cX3_refusal 10 = .ok (.aload_n 0, 1) := by decide +kernel
theorem dX3_refusal_11 : decode cX3_refusal 11 = .ok (.getfield 9, 3) := by decide +kernel
theorem dX3_refusal_14 : decode cX3_refusal 14 = .ok (.iload_n 1, 1) := by decide +kernel
theorem dX3_refusal_15 : decode cX3_refusal 15 = .ok (.if_icmp .eq 5, 3) := by decide +kernel
theorem dX3_refusal_18 : decode cX3_refusal 18 = .ok (.iconst 3, 1) := by decide +kernel
theorem dX3_refusal_19 : decode cX3_refusal 19 = .ok (.ireturn, 1) := by decide +kernel
theorem dX3_refusal_20 : decode cX3_refusal 20 = .ok (.iload_n 2, 1) := by decide +kernel
theorem dX3_refusal_21 : decode cX3_refusal 21 = .ok (.ifCond .lt 11, 3) := by decide +kernel
theorem dX3_refusal_24 : decode cX3_refusal 24 = .ok (.iload_n 2, 1) := by decide +kernel
theorem dX3_refusal_25 : decode cX3_refusal 25 = .ok (.aload_n 0, 1) := by decide +kernel
theorem dX3_refusal_26 : decode cX3_refusal 26 = .ok (.getfield 19, 3) := by decide +kernel
theorem dX3_refusal_29 : decode cX3_refusal 29 = .ok (.if_icmp .lt 7, 3) := by decide +kernel
theorem dX3_refusal_32 : decode cX3_refusal 32 = .ok (.iconst 2, 1) := by decide +kernel
theorem dX3_refusal_33 : decode cX3_refusal 33 = .ok (.goto 4, 3) := by decide +kernel
theorem dX3_refusal_36 : decode cX3_refusal 36 = .ok (.iconst 0, 1) := by decide +kernel
theorem dX3_refusal_37 : decode cX3_refusal 37 = .ok (.ireturn, 1) := by decide +kernel
theorem dX3_put_0 : decode cX3_put 0 = .ok (.iload_n 1, 1) := by decide +kernel
theorem dX3_put_1 : decode cX3_put 1 = .ok (.ifCond .lt 43, 3) := by decide +kernel
theorem dX3_put_4 : decode cX3_put 4 = .ok (.iload_n 1, 1) := by decide +kernel
theorem dX3_put_5 : decode cX3_put 5 = .ok (.aload_n 0, 1) := by decide +kernel
theorem dX3_put_6 : decode cX3_put 6 = .ok (.getfield 19, 3) := by decide +kernel
theorem dX3_put_9 : decode cX3_put 9 = .ok (.if_icmp .ge 35, 3) := by decide +kernel
theorem dX3_put_12 : decode cX3_put 12 = .ok (.aload_n 0, 1) := by decide +kernel
theorem dX3_put_13 : decode cX3_put 13 = .ok (.getfield 15, 3) := by decide +kernel
theorem dX3_put_16 : decode cX3_put 16 = .ok (.iload_n 1, 1) := by decide +kernel
theorem dX3_put_17 : decode cX3_put 17 = .ok (.aload_n 0, 1) := by decide +kernel
theorem dX3_put_18 : decode cX3_put 18 = .ok (.getfield 9, 3) := by decide +kernel
theorem dX3_put_21 : decode cX3_put 21 = .ok (.ifCond .ne 8, 3) := by decide +kernel
theorem dX3_put_24 : decode cX3_put 24 = .ok (.iload_n 2, 1) := by decide +kernel
theorem dX3_put_25 : decode cX3_put 25 = .ok (.i2b, 1) := by decide +kernel
theorem dX3_put_26 : decode cX3_put 26 = .ok (.goto 17, 3) := by decide +kernel
theorem dX3_put_29 : decode cX3_put 29 = .ok (.aload_n 0, 1) := by decide +kernel
theorem dX3_put_30 : decode cX3_put 30 = .ok (.getfield 9, 3) := by decide +kernel
theorem dX3_put_33 : decode cX3_put 33 = .ok (.iconst 1, 1) := by decide +kernel
theorem dX3_put_34 : decode cX3_put 34 = .ok (.if_icmp .ne 8, 3) := by decide +kernel
theorem dX3_put_37 : decode cX3_put 37 = .ok (.iload_n 2, 1) := by decide +kernel
theorem dX3_put_38 : decode cX3_put 38 = .ok (.i2s, 1) := by decide +kernel
theorem dX3_put_39 : decode cX3_put 39 = .ok (.goto 4, 3) := by decide +kernel
theorem dX3_put_42 : decode cX3_put 42 = .ok (.iload_n 2, 1) := by decide +kernel
theorem dX3_put_43 : decode cX3_put 43 = .ok (.iastore, 1) := by decide +kernel
theorem dX3_put_44 : decode cX3_put 44 = .ok (.return_, 1) := by decide +kernel
theorem dX4_init_0 : decode cX4_init 0 = .ok (.aload_n 0, 1) := by decide +kernel
theorem dX4_init_1 : decode cX4_init 1 = .ok (.invokespecial 3, 3) := by decide +kernel
theorem dX4_init_4 : decode cX4_init 4 = .ok (.aload_n 0, 1) := by decide +kernel
theorem dX4_init_5 : decode cX4_init 5 = .ok (.bipush 6, 2) := by decide +kernel
theorem dX4_init_7 : decode cX4_init 7 = .ok (.newarray .int, 2) := by decide +kernel
theorem dX4_init_9 : decode cX4_init 9 = .ok (.putfield 9, 3) := by decide +kernel
theorem dX4_init_12 : decode cX4_init 12 = .ok (.aload_n 0, 1) := by decide +kernel
theorem dX4_init_13 : decode cX4_init 13 = .ok (.bipush 6, 2) := by decide +kernel
theorem dX4_init_15 : decode cX4_init 15 = .ok (.newarray .int, 2) := by decide +kernel
theorem dX4_init_17 : decode cX4_init 17 = .ok (.putfield 15, 3) := by decide +kernel
theorem dX4_init_20 : decode cX4_init 20 = .ok (.aload_n 0, 1) := by decide +kernel
theorem dX4_init_21 : decode cX4_init 21 = .ok (.bipush 6, 2) := by decide +kernel
theorem dX4_init_23 : decode cX4_init 23 = .ok (.newarray .boolean, 2) := by decide +kernel
theorem dX4_init_25 : decode cX4_init 25 = .ok (.putfield 18, 3) := by decide +kernel
theorem dX4_init_28 : decode cX4_init 28 = .ok (.aload_n 0, 1) := by decide +kernel
theorem dX4_init_29 : decode cX4_init 29 = .ok (.bipush 64, 2) := by decide +kernel
theorem dX4_init_31 : decode cX4_init 31 = .ok (.newarray .int, 2) := by decide +kernel
theorem dX4_init_33 : decode cX4_init 33 = .ok (.putfield 22, 3) := by decide +kernel
theorem dX4_init_36 : decode cX4_init 36 = .ok (.return_, 1) := by decide +kernel
theorem dX4_add_0 : decode cX4_add 0 = .ok (.aload_n 0, 1) := by decide +kernel
theorem dX4_add_1 : decode cX4_add 1 = .ok (.getfield 25, 3) := by decide +kernel
theorem dX4_add_4 : decode cX4_add 4 = .ok (.bipush 6, 2) := by decide +kernel
theorem dX4_add_6 : decode cX4_add 6 = .ok (.if_icmp .ge 43, 3) := by decide +kernel
theorem dX4_add_9 : decode cX4_add 9 = .ok (.aload_n 0, 1) := by decide +kernel
theorem dX4_add_10 : decode cX4_add 10 = .ok (.getfield 9, 3) := by decide +kernel
theorem dX4_add_13 : decode cX4_add 13 = .ok (.aload_n 0, 1) := by decide +kernel
theorem dX4_add_14 : decode cX4_add 14 = .ok (.getfield 25, 3) := by decide +kernel
theorem dX4_add_17 : decode cX4_add 17 = .ok (.iload_n 1, 1) := by decide +kernel
theorem dX4_add_18 : decode cX4_add 18 = .ok (.iastore, 1) := by decide +kernel
theorem dX4_add_19 : decode cX4_add 19 = .ok (.aload_n 0, 1) := by decide +kernel
theorem dX4_add_20 : decode cX4_add 20 = .ok (.getfield 15, 3) := by decide +kernel
theorem dX4_add_23 : decode cX4_add 23 = .ok (.aload_n 0, 1) := by decide +kernel
theorem dX4_add_24 : decode cX4_add 24 = .ok (.getfield 25, 3) := by decide +kernel
theorem dX4_add_27 : decode cX4_add 27 = .ok (.iload_n 2, 1) := by decide +kernel
theorem dX4_add_28 : decode cX4_add 28 = .ok (.iastore, 1) := by decide +kernel
theorem dX4_add_29 : decode cX4_add 29 = .ok (.aload_n 0, 1) := by decide +kernel
theorem dX4_add_30 : decode cX4_add 30 = .ok (.getfield 18, 3) := by decide +kernel
theorem dX4_add_33 : decode cX4_add 33 = .ok (.aload_n 0, 1) := by decide +kernel
theorem dX4_add_34 : decode cX4_add 34 = .ok (.getfield 25, 3) := by decide +kernel
theorem dX4_add_37 : decode cX4_add 37 = .ok (.iload_n 3, 1) := by decide +kernel
theorem dX4_add_38 : decode cX4_add 38 = .ok (.bastore, 1) := by decide +kernel
theorem dX4_add_39 : decode cX4_add 39 = .ok (.aload_n 0, 1) := by decide +kernel
theorem dX4_add_40 : decode cX4_add 40 = .ok (.dup, 1) := by decide +kernel
theorem dX4_add_41 : decode cX4_add 41 = .ok (.getfield 25, 3) := by decide +kernel
theorem dX4_add_44 : decode cX4_add 44 = .ok (.iconst 1, 1) := by decide +kernel
theorem dX4_add_45 : decode cX4_add 45 = .ok (.iadd, 1) := by decide +kernel
theorem dX4_add_46 : decode cX4_add 46 = .ok (.putfield 25, 3) := by decide +kernel
theorem dX4_add_49 : decode cX4_add 49 = .ok (.return_, 1) := by decide +kernel
theorem dX4_suit_0 : decode cX4_suit 0 = .ok (.iload_n 2, 1) := by decide +kernel
theorem dX4_suit_1 : decode cX4_suit 1 = .ok (.istore_n 3, 1) := by decide +kernel
theorem dX4_suit_2 : decode cX4_suit 2 = .ok (.iconst 0, 1) := by decide +kernel
theorem dX4_suit_3 : decode cX4_suit 3 = .ok (.istore 4, 2) := by decide +kernel
theorem dX4_suit_5 : decode cX4_suit 5 = .ok (.iload 4, 2) := by decide +kernel
theorem dX4_suit_7 : decode cX4_suit 7 = .ok (.bipush 9, 2) := by decide +kernel
theorem dX4_suit_9 : decode cX4_suit 9 = .ok (.if_icmp .gt 27, 3) := by decide +kernel
theorem dX4_suit_12 : decode cX4_suit 12 = .ok (.aload_n 0, 1) := by decide +kernel
theorem dX4_suit_13 : decode cX4_suit 13 = .ok (.iload 4, 2) := by decide +kernel
theorem dX4_suit_15 : decode cX4_suit 15 = .ok (.iload_n 3, 1) := by decide +kernel
theorem dX4_suit_16 : decode cX4_suit 16 = .ok (.invokevirtual 29, 3) := by decide +kernel
theorem dX4_suit_19 : decode cX4_suit 19 = .ok (.ifCond .ne 5, 3) := by decide +kernel
theorem dX4_suit_22 : decode cX4_suit 22 = .ok (.iconst 0, 1) := by decide +kernel
theorem dX4_suit_23 : decode cX4_suit 23 = .ok (.ireturn, 1) := by decide +kernel
theorem dX4_suit_24 : decode cX4_suit 24 = .ok (.aload_n 1, 1) := by decide +kernel
theorem dX4_suit_25 : decode cX4_suit 25 = .ok (.iload_n 3, 1) := by decide +kernel
theorem dX4_suit_26 : decode cX4_suit 26 = .ok (.invokevirtual 33, 3) := by decide +kernel
theorem dX4_suit_29 : decode cX4_suit 29 = .ok (.istore_n 3, 1) := by decide +kernel
theorem dX4_suit_30 : decode cX4_suit 30 = .ok (.iinc 4 1, 3) := by decide +kernel
theorem dX4_suit_33 : decode cX4_suit 33 = .ok (.goto (-28), 3) := by decide +kernel
theorem dX4_suit_36 : decode cX4_suit 36 = .ok (.iconst 1, 1) := by decide +kernel
theorem dX4_suit_37 : decode cX4_suit 37 = .ok (.ireturn, 1) := by decide +kernel
theorem dX4_suitYear_0 : decode cX4_suitYear 0 = .ok (.iconst 0, 1) := by decide +kernel
theorem dX4_suitYear_1 : decode cX4_suitYear 1 = .ok (.istore_n 3, 1) := by decide +kernel
theorem dX4_suitYear_2 : decode cX4_suitYear 2 = .ok (.iload_n 3, 1) := by decide +kernel
theorem dX4_suitYear_3 : decode cX4_suitYear 3 = .ok (.aload_n 0, 1) := by decide +kernel
theorem dX4_suitYear_4 : decode cX4_suitYear 4 = .ok (.getfield 25, 3) := by decide +kernel
theorem dX4_suitYear_7 : decode cX4_suitYear 7 = .ok (.if_icmp .ge 40, 3) := by decide +kernel
theorem dX4_suitYear_10 : decode cX4_suitYear 10 = .ok (.aload_n 0, 1) := by decide +kernel
theorem dX4_suitYear_11 : decode cX4_suitYear 11 = .ok (.getfield 15, 3) := by decide +kernel
theorem dX4_suitYear_14 : decode cX4_suitYear 14 = .ok (.iload_n 3, 1) := by decide +kernel
theorem dX4_suitYear_15 : decode cX4_suitYear 15 = .ok (.iaload, 1) := by decide +kernel
theorem dX4_suitYear_16 : decode cX4_suitYear 16 = .ok (.iload_n 1, 1) := by decide +kernel
theorem dX4_suitYear_17 : decode cX4_suitYear 17 = .ok (.if_icmp .ne 24, 3) := by decide +kernel
theorem dX4_suitYear_20 : decode cX4_suitYear 20 = .ok (.iload_n 2, 1) := by decide +kernel
theorem dX4_suitYear_21 : decode cX4_suitYear 21 = .ok (.aload_n 0, 1) := by decide +kernel
theorem dX4_suitYear_22 : decode cX4_suitYear 22 = .ok (.getfield 9, 3) := by decide +kernel
theorem dX4_suitYear_25 : decode cX4_suitYear 25 = .ok (.iload_n 3, 1) := by decide +kernel
theorem dX4_suitYear_26 : decode cX4_suitYear 26 = .ok (.iaload, 1) := by decide +kernel
theorem dX4_suitYear_27 : decode cX4_suitYear 27 = .ok (.invokestatic 39, 3) := by decide +kernel
theorem dX4_suitYear_30 : decode cX4_suitYear 30 = .ok (.aload_n 0, 1) := by decide +kernel
theorem dX4_suitYear_31 : decode cX4_suitYear 31 = .ok (.getfield 18, 3) := by decide +kernel
theorem dX4_suitYear_34 : decode cX4_suitYear 34 = .ok (.iload_n 3, 1) := by decide +kernel
theorem dX4_suitYear_35 : decode cX4_suitYear 35 = .ok (.baload, 1) := by decide +kernel
theorem dX4_suitYear_36 : decode cX4_suitYear 36 = .ok (.if_icmp .eq 5, 3) := by decide +kernel
theorem dX4_suitYear_39 : decode cX4_suitYear 39 = .ok (.iconst 0, 1) := by decide +kernel
theorem dX4_suitYear_40 : decode cX4_suitYear 40 = .ok (.ireturn, 1) := by decide +kernel
theorem dX4_suitYear_41 : decode cX4_suitYear 41 = .ok (.iinc 3 1, 3) := by decide +kernel
theorem dX4_suitYear_44 : decode cX4_suitYear 44 = .ok (.goto (-42), 3) := by decide +kernel
theorem dX4_suitYear_47 : decode cX4_suitYear 47 = .ok (.iconst 1, 1) := by decide +kernel
theorem dX4_suitYear_48 : decode cX4_suitYear 48 = .ok (.ireturn, 1) := by decide +kernel
theorem dX4_gather_0 : decode cX4_gather 0 = .ok (.aload_n 0, 1) := by decide +kernel
theorem dX4_gather_1 : decode cX4_gather 1 = .ok (.iconst 0, 1) := by decide +kernel
theorem dX4_gather_2 : decode cX4_gather 2 = .ok (.putfield 42, 3) := by decide +kernel
theorem dX4_gather_5 : decode cX4_gather 5 = .ok (.iconst 0, 1) := by decide +kernel
theorem dX4_gather_6 : decode cX4_gather 6 = .ok (.istore_n 2, 1) := by decide +kernel
theorem dX4_gather_7 : decode cX4_gather 7 = .ok (.iload_n 2, 1) := by decide +kernel
theorem dX4_gather_8 : decode cX4_gather 8 = .ok (.aload_n 1, 1) := by decide +kernel
theorem dX4_gather_9 : decode cX4_gather 9 = .ok (.invokevirtual 45, 3) := by decide +kernel
theorem dX4_gather_12 : decode cX4_gather 12 = .ok (.if_icmp .ge 47, 3) := by decide +kernel
theorem dX4_gather_15 : decode cX4_gather 15 = .ok (.aload_n 0, 1) := by decide +kernel
theorem dX4_gather_16 : decode cX4_gather 16 = .ok (.getfield 42, 3) := by decide +kernel
theorem dX4_gather_19 : decode cX4_gather 19 = .ok (.bipush 64, 2) := by decide +kernel
theorem dX4_gather_21 : decode cX4_gather 21 = .ok (.if_icmp .ge 32, 3) := by decide +kernel
theorem dX4_gather_24 : decode cX4_gather 24 = .ok (.aload_n 0, 1) := by decide +kernel
theorem dX4_gather_25 : decode cX4_gather 25 = .ok (.aload_n 1, 1) := by decide +kernel
theorem dX4_gather_26 : decode cX4_gather 26 = .ok (.iload_n 2, 1) := by decide +kernel
theorem dX4_gather_27 : decode cX4_gather 27 = .ok (.invokevirtual 49, 3) := by decide +kernel
theorem dX4_gather_30 : decode cX4_gather 30 = .ok (.ifCond .eq 23, 3) := by decide +kernel
theorem dX4_gather_33 : decode cX4_gather 33 = .ok (.aload_n 0, 1) := by decide +kernel
theorem dX4_gather_34 : decode cX4_gather 34 = .ok (.getfield 22, 3) := by decide +kernel
theorem dX4_gather_37 : decode cX4_gather 37 = .ok (.aload_n 0, 1) := by decide +kernel
theorem dX4_gather_38 : decode cX4_gather 38 = .ok (.getfield 42, 3) := by decide +kernel
theorem dX4_gather_41 : decode cX4_gather 41 = .ok (.iload_n 2, 1) := by decide +kernel
theorem dX4_gather_42 : decode cX4_gather 42 = .ok (.iastore, 1) := by decide +kernel
theorem dX4_gather_43 : decode cX4_gather 43 = .ok (.aload_n 0, 1) := by decide +kernel
theorem dX4_gather_44 : decode cX4_gather 44 = .ok (.dup, 1) := by decide +kernel
theorem dX4_gather_45 : decode cX4_gather 45 = .ok (.getfield 42, 3) := by decide +kernel
theorem dX4_gather_48 : decode cX4_gather 48 = .ok (.iconst 1, 1) := by decide +kernel
theorem dX4_gather_49 : decode cX4_gather 49 = .ok (.iadd, 1) := by decide +kernel
theorem dX4_gather_50 : decode cX4_gather 50 = .ok (.putfield 42, 3) := by decide +kernel
theorem dX4_gather_53 : decode cX4_gather 53 = .ok (.iinc 2 1, 3) := by decide +kernel
theorem dX4_gather_56 : decode cX4_gather 56 = .ok (.goto (-49), 3) := by decide +kernel
theorem dX4_gather_59 : decode cX4_gather 59 = .ok (.return_, 1) := by decide +kernel
theorem dX4_worstLeft_0 : decode cX4_worstLeft 0 = .ok (.iconst 0, 1) := by decide +kernel
theorem dX4_worstLeft_1 : decode cX4_worstLeft 1 = .ok (.istore_n 2, 1) := by decide +kernel
theorem dX4_worstLeft_2 : decode cX4_worstLeft 2 = .ok (.iconst 0, 1) := by decide +kernel
theorem dX4_worstLeft_3 : decode cX4_worstLeft 3 = .ok (.istore_n 3, 1) := by decide +kernel
theorem dX4_worstLeft_4 : decode cX4_worstLeft 4 = .ok (.iload_n 3, 1) := by decide +kernel
theorem dX4_worstLeft_5 : decode cX4_worstLeft 5 = .ok (.aload_n 0, 1) := by decide +kernel
theorem dX4_worstLeft_6 : decode cX4_worstLeft 6 = .ok (.getfield 42, 3) := by decide +kernel
theorem dX4_worstLeft_9 : decode cX4_worstLeft 9 = .ok (.if_icmp .ge 25, 3) := by decide +kernel
theorem dX4_worstLeft_12 : decode cX4_worstLeft 12 = .ok (.iload_n 2, 1) := by decide +kernel
theorem dX4_worstLeft_13 : decode cX4_worstLeft 13 = .ok (.aload_n 0, 1) := by decide +kernel
theorem dX4_worstLeft_14 : decode cX4_worstLeft 14 = .ok (.getfield 22, 3) := by decide +kernel
theorem dX4_worstLeft_17 : decode cX4_worstLeft 17 = .ok (.iload_n 3, 1) := by decide +kernel
theorem dX4_worstLeft_18 : decode cX4_worstLeft 18 = .ok (.iaload, 1) := by decide +kernel
theorem dX4_worstLeft_19 : decode cX4_worstLeft 19 = .ok (.iload_n 1, 1) := by decide +kernel
theorem dX4_worstLeft_20 : decode cX4_worstLeft 20 = .ok (.invokestatic 39, 3) := by decide +kernel
theorem dX4_worstLeft_23 : decode cX4_worstLeft 23 = .ok (.invokestatic 53, 3) := by decide +kernel
theorem dX4_worstLeft_26 : decode cX4_worstLeft 26 = .ok (.iadd, 1) := by decide +kernel
theorem dX4_worstLeft_27 : decode cX4_worstLeft 27 = .ok (.istore_n 2, 1) := by decide +kernel
theorem dX4_worstLeft_28 : decode cX4_worstLeft 28 = .ok (.iinc 3 1, 3) := by decide +kernel
theorem dX4_worstLeft_31 : decode cX4_worstLeft 31 = .ok (.goto (-27), 3) := by decide +kernel
theorem dX4_worstLeft_34 : decode cX4_worstLeft 34 = .ok (.iload_n 2, 1) := by decide +kernel
theorem dX4_worstLeft_35 : decode cX4_worstLeft 35 = .ok (.aload_n 0, 1) := by decide +kernel
theorem dX4_worstLeft_36 : decode cX4_worstLeft 36 = .ok (.getfield 42, 3) := by decide +kernel
theorem dX4_worstLeft_39 : decode cX4_worstLeft 39 = .ok (.iload_n 2, 1) := by decide +kernel
theorem dX4_worstLeft_40 : decode cX4_worstLeft 40 = .ok (.isub, 1) := by decide +kernel
theorem dX4_worstLeft_41 : decode cX4_worstLeft 41 = .ok (.invokestatic 57, 3) := by decide +kernel
theorem dX4_worstLeft_44 : decode cX4_worstLeft 44 = .ok (.ireturn, 1) := by decide +kernel
theorem dX4_passYear_0 : decode cX4_passYear 0 = .ok (.iconst 0, 1) := by decide +kernel
theorem dX4_passYear_1 : decode cX4_passYear 1 = .ok (.istore_n 2, 1) := by decide +kernel
theorem dX4_passYear_2 : decode cX4_passYear 2 = .ok (.iload_n 2, 1) := by decide +kernel
theorem dX4_passYear_3 : decode cX4_passYear 3 = .ok (.aload_n 0, 1) := by decide +kernel
theorem dX4_passYear_4 : decode cX4_passYear 4 = .ok (.getfield 42, 3) := by decide +kernel
theorem dX4_passYear_7 : decode cX4_passYear 7 = .ok (.if_icmp .ge 25, 3) := by decide +kernel
theorem dX4_passYear_10 : decode cX4_passYear 10 = .ok (.aload_n 0, 1) := by decide +kernel
theorem dX4_passYear_11 : decode cX4_passYear 11 = .ok (.getfield 22, 3) := by decide +kernel
theorem dX4_passYear_14 : decode cX4_passYear 14 = .ok (.iload_n 2, 1) := by decide +kernel
theorem dX4_passYear_15 : decode cX4_passYear 15 = .ok (.aload_n 1, 1) := by decide +kernel
theorem dX4_passYear_16 : decode cX4_passYear 16 = .ok (.aload_n 0, 1) := by decide +kernel
theorem dX4_passYear_17 : decode cX4_passYear 17 = .ok (.getfield 22, 3) := by decide +kernel
theorem dX4_passYear_20 : decode cX4_passYear 20 = .ok (.iload_n 2, 1) := by decide +kernel
theorem dX4_passYear_21 : decode cX4_passYear 21 = .ok (.iaload, 1) := by decide +kernel
theorem dX4_passYear_22 : decode cX4_passYear 22 = .ok (.invokevirtual 33, 3) := by decide +kernel
theorem dX4_passYear_25 : decode cX4_passYear 25 = .ok (.iastore, 1) := by decide +kernel
theorem dX4_passYear_26 : decode cX4_passYear 26 = .ok (.iinc 2 1, 3) := by decide +kernel
theorem dX4_passYear_29 : decode cX4_passYear 29 = .ok (.goto (-27), 3) := by decide +kernel
theorem dX4_passYear_32 : decode cX4_passYear 32 = .ok (.return_, 1) := by decide +kernel
theorem dX5_init_0 : decode cX5_init 0 = .ok (.aload_n 0, 1) := by decide +kernel
theorem dX5_init_1 : decode cX5_init 1 = .ok (.invokespecial 3, 3) := by decide +kernel
theorem dX5_init_4 : decode cX5_init 4 = .ok (.return_, 1) := by decide +kernel
theorem dX5_clear_0 : decode cX5_clear 0 = .ok (.aload_n 0, 1) := by decide +kernel
theorem dX5_clear_1 : decode cX5_clear 1 = .ok (.iconst 0, 1) := by decide +kernel
theorem dX5_clear_2 : decode cX5_clear 2 = .ok (.putfield 9, 3) := by decide +kernel
theorem dX5_clear_5 : decode cX5_clear 5 = .ok (.aload_n 0, 1) := by decide +kernel
theorem dX5_clear_6 : decode cX5_clear 6 = .ok (.iconst 0, 1) := by decide +kernel
theorem dX5_clear_7 : decode cX5_clear 7 = .ok (.putfield 15, 3) := by decide +kernel
theorem dX5_clear_10 : decode cX5_clear 10 = .ok (.aload_n 0, 1) := by decide +kernel
theorem dX5_clear_11 : decode cX5_clear 11 = .ok (.bipush 63, 2) := by decide +kernel
theorem dX5_clear_13 : decode cX5_clear 13 = .ok (.putfield 18, 3) := by decide +kernel
theorem dX5_clear_16 : decode cX5_clear 16 = .ok (.aload_n 0, 1) := by decide +kernel
theorem dX5_clear_17 : decode cX5_clear 17 = .ok (.iconst 0, 1) := by decide +kernel
theorem dX5_clear_18 : decode cX5_clear 18 = .ok (.putfield 21, 3) := by decide +kernel
theorem dX5_clear_21 : decode cX5_clear 21 = .ok (.return_, 1) := by decide +kernel
theorem dX5_take_0 : decode cX5_take 0 = .ok (.aload_n 0, 1) := by decide +kernel
theorem dX5_take_1 : decode cX5_take 1 = .ok (.aload_n 0, 1) := by decide +kernel
theorem dX5_take_2 : decode cX5_take 2 = .ok (.getfield 9, 3) := by decide +kernel
theorem dX5_take_5 : decode cX5_take 5 = .ok (.ifCond .ne 7, 3) := by decide +kernel
theorem dX5_take_8 : decode cX5_take 8 = .ok (.iload_n 1, 1) := by decide +kernel
theorem dX5_take_9 : decode cX5_take 9 = .ok (.goto 11, 3) := by decide +kernel
theorem dX5_take_12 : decode cX5_take 12 = .ok (.aload_n 0, 1) := by decide +kernel
theorem dX5_take_13 : decode cX5_take 13 = .ok (.getfield 15, 3) := by decide +kernel
theorem dX5_take_16 : decode cX5_take 16 = .ok (.iload_n 1, 1) := by decide +kernel
theorem dX5_take_17 : decode cX5_take 17 = .ok (.invokestatic 24, 3) := by decide +kernel
theorem dX5_take_20 : decode cX5_take 20 = .ok (.putfield 15, 3) := by decide +kernel
theorem dX5_take_23 : decode cX5_take 23 = .ok (.aload_n 0, 1) := by decide +kernel
theorem dX5_take_24 : decode cX5_take 24 = .ok (.dup, 1) := by decide +kernel
theorem dX5_take_25 : decode cX5_take 25 = .ok (.getfield 18, 3) := by decide +kernel
theorem dX5_take_28 : decode cX5_take 28 = .ok (.iload_n 1, 1) := by decide +kernel
theorem dX5_take_29 : decode cX5_take 29 = .ok (.iand, 1) := by decide +kernel
theorem dX5_take_30 : decode cX5_take 30 = .ok (.putfield 18, 3) := by decide +kernel
theorem dX5_take_33 : decode cX5_take 33 = .ok (.aload_n 0, 1) := by decide +kernel
theorem dX5_take_34 : decode cX5_take 34 = .ok (.dup, 1) := by decide +kernel
theorem dX5_take_35 : decode cX5_take 35 = .ok (.getfield 21, 3) := by decide +kernel
theorem dX5_take_38 : decode cX5_take 38 = .ok (.iload_n 1, 1) := by decide +kernel
theorem dX5_take_39 : decode cX5_take 39 = .ok (.ior, 1) := by decide +kernel
theorem dX5_take_40 : decode cX5_take 40 = .ok (.putfield 21, 3) := by decide +kernel
theorem dX5_take_43 : decode cX5_take 43 = .ok (.aload_n 0, 1) := by decide +kernel
theorem dX5_take_44 : decode cX5_take 44 = .ok (.dup, 1) := by decide +kernel
theorem dX5_take_45 : decode cX5_take 45 = .ok (.getfield 9, 3) := by decide +kernel
theorem dX5_take_48 : decode cX5_take 48 = .ok (.iconst 1, 1) := by decide +kernel
theorem dX5_take_49 : decode cX5_take 49 = .ok (.iadd, 1) := by decide +kernel
theorem dX5_take_50 : decode cX5_take 50 = .ok (.putfield 9, 3) := by decide +kernel
theorem dX5_take_53 : decode cX5_take 53 = .ok (.return_, 1) := by decide +kernel
theorem dX5_answer_0 : decode cX5_answer 0 = .ok (.iload_n 1, 1) := by decide +kernel
theorem dX5_answer_1 : decode cX5_answer 1 = .ok (.ifCond .ne 8, 3) := by decide +kernel
theorem dX5_answer_4 : decode cX5_answer 4 = .ok (.aload_n 0, 1) := by decide +kernel
theorem dX5_answer_5 : decode cX5_answer 5 = .ok (.getfield 9, 3) := by decide +kernel
theorem dX5_answer_8 : decode cX5_answer 8 = .ok (.ireturn, 1) := by decide +kernel
theorem dX5_answer_9 : decode cX5_answer 9 = .ok (.aload_n 0, 1) := by decide +kernel
theorem dX5_answer_10 : decode cX5_answer 10 = .ok (.getfield 9, 3) := by decide +kernel
theorem dX5_answer_13 : decode cX5_answer 13 = .ok (.ifCond .ne 6, 3) := by decide +kernel
theorem dX5_answer_16 : decode cX5_answer 16 = .ok (.bipush (-4), 2) := by decide +kernel
theorem dX5_answer_18 : decode cX5_answer 18 = .ok (.ireturn, 1) := by decide +kernel
theorem dX5_answer_19 : decode cX5_answer 19 = .ok (.iload_n 1, 1) := by decide +kernel
theorem dX5_answer_20 : decode cX5_answer 20 = .ok (.iconst 1, 1) := by decide +kernel
theorem dX5_answer_21 : decode cX5_answer 21 = .ok (.if_icmp .ne 8, 3) := by decide +kernel
theorem dX5_answer_24 : decode cX5_answer 24 = .ok (.aload_n 0, 1) := by decide +kernel
theorem dX5_answer_25 : decode cX5_answer 25 = .ok (.getfield 15, 3) := by decide +kernel
theorem dX5_answer_28 : decode cX5_answer 28 = .ok (.ireturn, 1) := by decide +kernel
theorem dX5_answer_29 : decode cX5_answer 29 = .ok (.iload_n 1, 1) := by decide +kernel
theorem dX5_answer_30 : decode cX5_answer 30 = .ok (.iconst 2, 1) := by decide +kernel
theorem dX5_answer_31 : decode cX5_answer 31 = .ok (.if_icmp .ne 10, 3) := by decide +kernel
theorem dX5_answer_34 : decode cX5_answer 34 = .ok (.aload_n 0, 1) := by decide +kernel
theorem dX5_answer_35 : decode cX5_answer 35 = .ok (.getfield 18, 3) := by decide +kernel
theorem dX5_answer_38 : decode cX5_answer 38 = .ok (.goto 7, 3) := by decide +kernel
theorem dX5_answer_41 : decode cX5_answer 41 = .ok (.aload_n 0, 1) := by decide +kernel
theorem dX5_answer_42 : decode cX5_answer 42 = .ok (.getfield 21, 3) := by decide +kernel
theorem dX5_answer_45 : decode cX5_answer 45 = .ok (.ireturn, 1) := by decide +kernel
theorem dX6_init_0 : decode cX6_init 0 = .ok (.aload_n 0, 1) := by decide +kernel
theorem dX6_init_1 : decode cX6_init 1 = .ok (.invokespecial 3, 3) := by decide +kernel
theorem dX6_init_4 : decode cX6_init 4 = .ok (.aload_n 0, 1) := by decide +kernel
theorem dX6_init_5 : decode cX6_init 5 = .ok (.sipush 160, 3) := by decide +kernel
theorem dX6_init_8 : decode cX6_init 8 = .ok (.newarray .byte, 2) := by decide +kernel
theorem dX6_init_10 : decode cX6_init 10 = .ok (.putfield 9, 3) := by decide +kernel
theorem dX6_init_13 : decode cX6_init 13 = .ok (.return_, 1) := by decide +kernel
theorem dX6_put_0 : decode cX6_put 0 = .ok (.aload_n 0, 1) := by decide +kernel
theorem dX6_put_1 : decode cX6_put 1 = .ok (.getfield 15, 3) := by decide +kernel
theorem dX6_put_4 : decode cX6_put 4 = .ok (.sipush 160, 3) := by decide +kernel
theorem dX6_put_7 : decode cX6_put 7 = .ok (.if_icmp .ge 24, 3) := by decide +kernel
theorem dX6_put_10 : decode cX6_put 10 = .ok (.aload_n 0, 1) := by decide +kernel
theorem dX6_put_11 : decode cX6_put 11 = .ok (.getfield 9, 3) := by decide +kernel
theorem dX6_put_14 : decode cX6_put 14 = .ok (.aload_n 0, 1) := by decide +kernel
theorem dX6_put_15 : decode cX6_put 15 = .ok (.getfield 15, 3) := by decide +kernel
theorem dX6_put_18 : decode cX6_put 18 = .ok (.iload_n 1, 1) := by decide +kernel
theorem dX6_put_19 : decode cX6_put 19 = .ok (.i2b, 1) := by decide +kernel
theorem dX6_put_20 : decode cX6_put 20 = .ok (.bastore, 1) := by decide +kernel
theorem dX6_put_21 : decode cX6_put 21 = .ok (.aload_n 0, 1) := by decide +kernel
theorem dX6_put_22 : decode cX6_put 22 = .ok (.dup, 1) := by decide +kernel
theorem dX6_put_23 : decode cX6_put 23 = .ok (.getfield 15, 3) := by decide +kernel
theorem dX6_put_26 : decode cX6_put 26 = .ok (.iconst 1, 1) := by decide +kernel
theorem dX6_put_27 : decode cX6_put 27 = .ok (.iadd, 1) := by decide +kernel
theorem dX6_put_28 : decode cX6_put 28 = .ok (.putfield 15, 3) := by decide +kernel
theorem dX6_put_31 : decode cX6_put 31 = .ok (.return_, 1) := by decide +kernel
theorem dX6_rewind_0 : decode cX6_rewind 0 = .ok (.aload_n 0, 1) := by decide +kernel
theorem dX6_rewind_1 : decode cX6_rewind 1 = .ok (.iconst 0, 1) := by decide +kernel
theorem dX6_rewind_2 : decode cX6_rewind 2 = .ok (.putfield 19, 3) := by decide +kernel
theorem dX6_rewind_5 : decode cX6_rewind 5 = .ok (.return_, 1) := by decide +kernel
theorem dX6_readToken_0 : decode cX6_readToken 0 = .ok (.aload_n 0, 1) := by decide +kernel
theorem dX6_readToken_1 : decode cX6_readToken 1 = .ok (.getfield 19, 3) := by decide +kernel
theorem dX6_readToken_4 : decode cX6_readToken 4 = .ok (.aload_n 0, 1) := by decide +kernel
theorem dX6_readToken_5 : decode cX6_readToken 5 = .ok (.getfield 15, 3) := by decide +kernel
theorem dX6_readToken_8 : decode cX6_readToken 8 = .ok (.if_icmp .ge 30, 3) := by decide +kernel
theorem dX6_readToken_11 : decode cX6_readToken 11 = .ok (.aload_n 0, 1) := by decide +kernel
theorem dX6_readToken_12 : decode cX6_readToken 12 = .ok (.getfield 9, 3) := by decide +kernel
theorem dX6_readToken_15 : decode cX6_readToken 15 = .ok (.aload_n 0, 1) := by decide +kernel
theorem dX6_readToken_16 : decode cX6_readToken 16 = .ok (.getfield 19, 3) := by decide +kernel
theorem dX6_readToken_19 : decode cX6_readToken 19 = .ok (.baload, 1) := by decide +kernel
theorem dX6_readToken_20 : decode cX6_readToken 20 = .ok (.bipush 32, 2) := by decide +kernel
theorem dX6_readToken_22 : decode cX6_readToken 22 = .ok (.if_icmp .ne 16, 3) := by decide +kernel
theorem dX6_readToken_25 : decode cX6_readToken 25 = .ok (.aload_n 0, 1) := by decide +kernel
theorem dX6_readToken_26 : decode cX6_readToken 26 = .ok (.dup, 1) := by decide +kernel
theorem dX6_readToken_27 : decode cX6_readToken 27 = .ok (.getfield 19, 3) := by decide +kernel
theorem dX6_readToken_30 : decode cX6_readToken 30 = .ok (.iconst 1, 1) := by decide +kernel
theorem dX6_readToken_31 : decode cX6_readToken 31 = .ok (.iadd, 1) := by decide +kernel
theorem dX6_readToken_32 : decode cX6_readToken 32 = .ok (.putfield 19, 3) := by decide +kernel
theorem dX6_readToken_35 : decode cX6_readToken 35 = .ok (.goto (-35), 3) := by decide +kernel
theorem dX6_readToken_38 : decode cX6_readToken 38 = .ok (.aload_n 0, 1) := by decide +kernel
theorem dX6_readToken_39 : decode cX6_readToken 39 = .ok (.aload_n 0, 1) := by decide +kernel
theorem dX6_readToken_40 : decode cX6_readToken 40 = .ok (.getfield 19, 3) := by decide +kernel
theorem dX6_readToken_43 : decode cX6_readToken 43 = .ok (.putfield 22, 3) := by decide +kernel
theorem dX6_readToken_46 : decode cX6_readToken 46 = .ok (.aload_n 0, 1) := by decide +kernel
theorem dX6_readToken_47 : decode cX6_readToken 47 = .ok (.aload_n 0, 1) := by decide +kernel
theorem dX6_readToken_48 : decode cX6_readToken 48 = .ok (.aload_n 0, 1) := by decide +kernel
theorem dX6_readToken_49 : decode cX6_readToken 49 = .ok (.getfield 19, 3) := by decide +kernel
theorem dX6_readToken_52 : decode cX6_readToken 52 = .ok (.invokevirtual 25, 3) := by decide +kernel
theorem dX6_readToken_55 : decode cX6_readToken 55 = .ok (.putfield 29, 3) := by decide +kernel
theorem dX6_readToken_58 : decode cX6_readToken 58 = .ok (.aload_n 0, 1) := by decide +kernel
theorem dX6_readToken_59 : decode cX6_readToken 59 = .ok (.getfield 29, 3) := by decide +kernel
theorem dX6_readToken_62 : decode cX6_readToken 62 = .ok (.iconst 1, 1) := by decide +kernel
theorem dX6_readToken_63 : decode cX6_readToken 63 = .ok (.if_icmp .eq 11, 3) := by decide +kernel
theorem dX6_readToken_66 : decode cX6_readToken 66 = .ok (.aload_n 0, 1) := by decide +kernel
theorem dX6_readToken_67 : decode cX6_readToken 67 = .ok (.getfield 29, 3) := by decide +kernel
theorem dX6_readToken_70 : decode cX6_readToken 70 = .ok (.iconst 2, 1) := by decide +kernel
theorem dX6_readToken_71 : decode cX6_readToken 71 = .ok (.if_icmp .ne 42, 3) := by decide +kernel
theorem dX6_readToken_74 : decode cX6_readToken 74 = .ok (.aload_n 0, 1) := by decide +kernel
theorem dX6_readToken_75 : decode cX6_readToken 75 = .ok (.getfield 19, 3) := by decide +kernel
theorem dX6_readToken_78 : decode cX6_readToken 78 = .ok (.aload_n 0, 1) := by decide +kernel
theorem dX6_readToken_79 : decode cX6_readToken 79 = .ok (.getfield 15, 3) := by decide +kernel
theorem dX6_readToken_82 : decode cX6_readToken 82 = .ok (.if_icmp .ge 52, 3) := by decide +kernel
theorem dX6_readToken_85 : decode cX6_readToken 85 = .ok (.aload_n 0, 1) := by decide +kernel
theorem dX6_readToken_86 : decode cX6_readToken 86 = .ok (.aload_n 0, 1) := by decide +kernel
theorem dX6_readToken_87 : decode cX6_readToken 87 = .ok (.getfield 19, 3) := by decide +kernel
theorem dX6_readToken_90 : decode cX6_readToken 90 = .ok (.invokevirtual 25, 3) := by decide +kernel
theorem dX6_readToken_93 : decode cX6_readToken 93 = .ok (.aload_n 0, 1) := by decide +kernel
theorem dX6_readToken_94 : decode cX6_readToken 94 = .ok (.getfield 29, 3) := by decide +kernel
theorem dX6_readToken_97 : decode cX6_readToken 97 = .ok (.if_icmp .ne 37, 3) := by decide +kernel
theorem dX6_readToken_100 : decode cX6_readToken 100 = .ok (.aload_n 0, 1) := by decide +kernel
theorem dX6_readToken_101 : decode cX6_readToken 101 = .ok (.dup, 1) := by decide +kernel
theorem dX6_readToken_102 : decode cX6_readToken 102 = .ok (.getfield 19, 3) := by decide +kernel
theorem dX6_readToken_105 : decode cX6_readToken 105 = .ok (.iconst 1, 1) := by decide +kernel
theorem dX6_readToken_106 : decode cX6_readToken 106 = .ok (.iadd, 1) := by decide +kernel
theorem dX6_readToken_107 : decode cX6_readToken 107 = .ok (.putfield 19, 3) := by decide +kernel
theorem dX6_readToken_110 : decode cX6_readToken 110 = .ok (.goto (-36), 3) := by decide +kernel
theorem dX6_readToken_113 : decode cX6_readToken 113 = .ok (.aload_n 0, 1) := by decide +kernel
theorem dX6_readToken_114 : decode cX6_readToken 114 = .ok (.getfield 19, 3) := by decide +kernel
theorem dX6_readToken_117 : decode cX6_readToken 117 = .ok (.aload_n 0, 1) := by decide +kernel
theorem dX6_readToken_118 : decode cX6_readToken 118 = .ok (.getfield 15, 3) := by decide +kernel
theorem dX6_readToken_121 : decode cX6_readToken 121 = .ok (.if_icmp .ge 13, 3) := by decide +kernel
theorem dX6_readToken_124 : decode cX6_readToken 124 = .ok (.aload_n 0, 1) := by decide +kernel
theorem dX6_readToken_125 : decode cX6_readToken 125 = .ok (.dup, 1) := by decide +kernel
theorem dX6_readToken_126 : decode cX6_readToken 126 = .ok (.getfield 19, 3) := by decide +kernel
theorem dX6_readToken_129 : decode cX6_readToken 129 = .ok (.iconst 1, 1) := by decide +kernel
theorem dX6_readToken_130 : decode cX6_readToken 130 = .ok (.iadd, 1) := by decide +kernel
theorem dX6_readToken_131 : decode cX6_readToken 131 = .ok (.putfield 19, 3) := by decide +kernel
theorem dX6_readToken_134 : decode cX6_readToken 134 = .ok (.aload_n 0, 1) := by decide +kernel
theorem dX6_readToken_135 : decode cX6_readToken 135 = .ok (.getfield 29, 3) := by decide +kernel
theorem dX6_readToken_138 : decode cX6_readToken 138 = .ok (.iconst 2, 1) := by decide +kernel
theorem dX6_readToken_139 : decode cX6_readToken 139 = .ok (.if_icmp .ne 21, 3) := by decide +kernel
theorem dX6_readToken_142 : decode cX6_readToken 142 = .ok (.aload_n 0, 1) := by decide +kernel
theorem dX6_readToken_143 : decode cX6_readToken 143 = .ok (.getfield 19, 3) := by decide +kernel
theorem dX6_readToken_146 : decode cX6_readToken 146 = .ok (.aload_n 0, 1) := by decide +kernel
theorem dX6_readToken_147 : decode cX6_readToken 147 = .ok (.getfield 22, 3) := by decide +kernel
theorem dX6_readToken_150 : decode cX6_readToken 150 = .ok (.isub, 1) := by decide +kernel
theorem dX6_readToken_151 : decode cX6_readToken 151 = .ok (.iconst 2, 1) := by decide +kernel
theorem dX6_readToken_152 : decode cX6_readToken 152 = .ok (.if_icmp .le 8, 3) := by decide +kernel
theorem dX6_readToken_155 : decode cX6_readToken 155 = .ok (.aload_n 0, 1) := by decide +kernel
theorem dX6_readToken_156 : decode cX6_readToken 156 = .ok (.iconst 0, 1) := by decide +kernel
theorem dX6_readToken_157 : decode cX6_readToken 157 = .ok (.putfield 29, 3) := by decide +kernel
theorem dX6_readToken_160 : decode cX6_readToken 160 = .ok (.return_, 1) := by decide +kernel
theorem dX6_sortAt_0 : decode cX6_sortAt 0 = .ok (.iload_n 1, 1) := by decide +kernel
theorem dX6_sortAt_1 : decode cX6_sortAt 1 = .ok (.ifCond .lt 11, 3) := by decide +kernel
theorem dX6_sortAt_4 : decode cX6_sortAt 4 = .ok (.iload_n 1, 1) := by decide +kernel
theorem dX6_sortAt_5 : decode cX6_sortAt 5 = .ok (.aload_n 0, 1) := by decide +kernel
theorem dX6_sortAt_6 : decode cX6_sortAt 6 = .ok (.getfield 15, 3) := by decide +kernel
theorem dX6_sortAt_9 : decode cX6_sortAt 9 = .ok (.if_icmp .lt 5, 3) := by decide +kernel
theorem dX6_sortAt_12 : decode cX6_sortAt 12 = .ok (.iconst 4, 1) := by decide +kernel
theorem dX6_sortAt_13 : decode cX6_sortAt 13 = .ok (.ireturn, 1) := by decide +kernel
theorem dX6_sortAt_14 : decode cX6_sortAt 14 = .ok (.aload_n 0, 1) := by decide +kernel
theorem dX6_sortAt_15 : decode cX6_sortAt 15 = .ok (.getfield 9, 3) := by decide +kernel
theorem dX6_sortAt_18 : decode cX6_sortAt 18 = .ok (.iload_n 1, 1) := by decide +kernel
theorem dX6_sortAt_19 : decode cX6_sortAt 19 = .ok (.baload, 1) := by decide +kernel
theorem dX6_sortAt_20 : decode cX6_sortAt 20 = .ok (.istore_n 2, 1) := by decide +kernel
theorem dX6_sortAt_21 : decode cX6_sortAt 21 = .ok (.iload_n 2, 1) := by decide +kernel
theorem dX6_sortAt_22 : decode cX6_sortAt 22 = .ok (.bipush 97, 2) := by decide +kernel
theorem dX6_sortAt_24 : decode cX6_sortAt 24 = .ok (.if_icmp .lt 11, 3) := by decide +kernel
theorem dX6_sortAt_27 : decode cX6_sortAt 27 = .ok (.iload_n 2, 1) := by decide +kernel
theorem dX6_sortAt_28 : decode cX6_sortAt 28 = .ok (.bipush 122, 2) := by decide +kernel
theorem dX6_sortAt_30 : decode cX6_sortAt 30 = .ok (.if_icmp .gt 5, 3) := by decide +kernel
theorem dX6_sortAt_33 : decode cX6_sortAt 33 = .ok (.iconst 1, 1) := by decide +kernel
theorem dX6_sortAt_34 : decode cX6_sortAt 34 = .ok (.ireturn, 1) := by decide +kernel
theorem dX6_sortAt_35 : decode cX6_sortAt 35 = .ok (.iload_n 2, 1) := by decide +kernel
theorem dX6_sortAt_36 : decode cX6_sortAt 36 = .ok (.bipush 48, 2) := by decide +kernel
theorem dX6_sortAt_38 : decode cX6_sortAt 38 = .ok (.if_icmp .lt 11, 3) := by decide +kernel
theorem dX6_sortAt_41 : decode cX6_sortAt 41 = .ok (.iload_n 2, 1) := by decide +kernel
theorem dX6_sortAt_42 : decode cX6_sortAt 42 = .ok (.bipush 57, 2) := by decide +kernel
theorem dX6_sortAt_44 : decode cX6_sortAt 44 = .ok (.if_icmp .gt 5, 3) := by decide +kernel
theorem dX6_sortAt_47 : decode cX6_sortAt 47 = .ok (.iconst 2, 1) := by decide +kernel
theorem dX6_sortAt_48 : decode cX6_sortAt 48 = .ok (.ireturn, 1) := by decide +kernel
theorem dX6_sortAt_49 : decode cX6_sortAt 49 = .ok (.iload_n 2, 1) := by decide +kernel
theorem dX6_sortAt_50 : decode cX6_sortAt 50 = .ok (.bipush 59, 2) := by decide +kernel
theorem dX6_sortAt_52 : decode cX6_sortAt 52 = .ok (.if_icmp .ne 7, 3) := by decide +kernel
theorem dX6_sortAt_55 : decode cX6_sortAt 55 = .ok (.iconst 3, 1) := by decide +kernel
theorem dX6_sortAt_56 : decode cX6_sortAt 56 = .ok (.goto 4, 3) := by decide +kernel
theorem dX6_sortAt_59 : decode cX6_sortAt 59 = .ok (.iconst 0, 1) := by decide +kernel
theorem dX6_sortAt_60 : decode cX6_sortAt 60 = .ok (.ireturn, 1) := by decide +kernel
theorem dX6_tokenValue_0 : decode cX6_tokenValue 0 = .ok (.iconst 0, 1) := by decide +kernel
theorem dX6_tokenValue_1 : decode cX6_tokenValue 1 = .ok (.istore_n 1, 1) := by decide +kernel
theorem dX6_tokenValue_2 : decode cX6_tokenValue 2 = .ok (.aload_n 0, 1) := by decide +kernel
theorem dX6_tokenValue_3 : decode cX6_tokenValue 3 = .ok (.getfield 22, 3) := by decide +kernel
theorem dX6_tokenValue_6 : decode cX6_tokenValue 6 = .ok (.istore_n 2, 1) := by decide +kernel
theorem dX6_tokenValue_7 : decode cX6_tokenValue 7 = .ok (.iload_n 2, 1) := by decide +kernel
theorem dX6_tokenValue_8 : decode cX6_tokenValue 8 = .ok (.aload_n 0, 1) := by decide +kernel
theorem dX6_tokenValue_9 : decode cX6_tokenValue 9 = .ok (.getfield 19, 3) := by decide +kernel
theorem dX6_tokenValue_12 : decode cX6_tokenValue 12 = .ok (.if_icmp .ge 32, 3) := by decide +kernel
theorem dX6_tokenValue_15 : decode cX6_tokenValue 15 = .ok (.iload_n 2, 1) := by decide +kernel
theorem dX6_tokenValue_16 : decode cX6_tokenValue 16 = .ok (.aload_n 0, 1) := by decide +kernel
theorem dX6_tokenValue_17 : decode cX6_tokenValue 17 = .ok (.getfield 15, 3) := by decide +kernel
theorem dX6_tokenValue_20 : decode cX6_tokenValue 20 = .ok (.if_icmp .ge 24, 3) := by decide +kernel
theorem dX6_tokenValue_23 : decode cX6_tokenValue 23 = .ok (.iload_n 1, 1) := by decide +kernel
theorem dX6_tokenValue_24 : decode cX6_tokenValue 24 = .ok (.bipush 10, 2) := by decide +kernel
theorem dX6_tokenValue_26 : decode cX6_tokenValue 26 = .ok (.imul, 1) := by decide +kernel
theorem dX6_tokenValue_27 : decode cX6_tokenValue 27 = .ok (.aload_n 0, 1) := by decide +kernel
theorem dX6_tokenValue_28 : decode cX6_tokenValue 28 = .ok (.getfield 9, 3) := by decide +kernel
theorem dX6_tokenValue_31 : decode cX6_tokenValue 31 = .ok (.iload_n 2, 1) := by decide +kernel
theorem dX6_tokenValue_32 : decode cX6_tokenValue 32 = .ok (.baload, 1) := by decide +kernel
theorem dX6_tokenValue_33 : decode cX6_tokenValue 33 = .ok (.iadd, 1) := by decide +kernel
theorem dX6_tokenValue_34 : decode cX6_tokenValue 34 = .ok (.bipush 48, 2) := by decide +kernel
theorem dX6_tokenValue_36 : decode cX6_tokenValue 36 = .ok (.isub, 1) := by decide +kernel
theorem dX6_tokenValue_37 : decode cX6_tokenValue 37 = .ok (.istore_n 1, 1) := by decide +kernel
theorem dX6_tokenValue_38 : decode cX6_tokenValue 38 = .ok (.iinc 2 1, 3) := by decide +kernel
theorem dX6_tokenValue_41 : decode cX6_tokenValue 41 = .ok (.goto (-34), 3) := by decide +kernel
theorem dX6_tokenValue_44 : decode cX6_tokenValue 44 = .ok (.iload_n 1, 1) := by decide +kernel
theorem dX6_tokenValue_45 : decode cX6_tokenValue 45 = .ok (.ireturn, 1) := by decide +kernel
theorem dX6_tokenIs_0 : decode cX6_tokenIs 0 = .ok (.aload_n 0, 1) := by decide +kernel
theorem dX6_tokenIs_1 : decode cX6_tokenIs 1 = .ok (.getfield 29, 3) := by decide +kernel
theorem dX6_tokenIs_4 : decode cX6_tokenIs 4 = .ok (.iconst 1, 1) := by decide +kernel
theorem dX6_tokenIs_5 : decode cX6_tokenIs 5 = .ok (.if_icmp .ne 19, 3) := by decide +kernel
theorem dX6_tokenIs_8 : decode cX6_tokenIs 8 = .ok (.aload_n 0, 1) := by decide +kernel
theorem dX6_tokenIs_9 : decode cX6_tokenIs 9 = .ok (.getfield 19, 3) := by decide +kernel
theorem dX6_tokenIs_12 : decode cX6_tokenIs 12 = .ok (.aload_n 0, 1) := by decide +kernel
theorem dX6_tokenIs_13 : decode cX6_tokenIs 13 = .ok (.getfield 22, 3) := by decide +kernel
theorem dX6_tokenIs_16 : decode cX6_tokenIs 16 = .ok (.isub, 1) := by decide +kernel
theorem dX6_tokenIs_17 : decode cX6_tokenIs 17 = .ok (.aload_n 1, 1) := by decide +kernel
theorem dX6_tokenIs_18 : decode cX6_tokenIs 18 = .ok (.invokevirtual 32, 3) := by decide +kernel
theorem dX6_tokenIs_21 : decode cX6_tokenIs 21 = .ok (.if_icmp .eq 5, 3) := by decide +kernel
theorem dX6_tokenIs_24 : decode cX6_tokenIs 24 = .ok (.iconst 0, 1) := by decide +kernel
theorem dX6_tokenIs_25 : decode cX6_tokenIs 25 = .ok (.ireturn, 1) := by decide +kernel
theorem dX6_tokenIs_26 : decode cX6_tokenIs 26 = .ok (.iconst 0, 1) := by decide +kernel
theorem dX6_tokenIs_27 : decode cX6_tokenIs 27 = .ok (.istore_n 2, 1) := by decide +kernel
theorem dX6_tokenIs_28 : decode cX6_tokenIs 28 = .ok (.iload_n 2, 1) := by decide +kernel
theorem dX6_tokenIs_29 : decode cX6_tokenIs 29 = .ok (.aload_n 1, 1) := by decide +kernel
theorem dX6_tokenIs_30 : decode cX6_tokenIs 30 = .ok (.invokevirtual 32, 3) := by decide +kernel
theorem dX6_tokenIs_33 : decode cX6_tokenIs 33 = .ok (.if_icmp .ge 30, 3) := by decide +kernel
theorem dX6_tokenIs_36 : decode cX6_tokenIs 36 = .ok (.aload_n 0, 1) := by decide +kernel
theorem dX6_tokenIs_37 : decode cX6_tokenIs 37 = .ok (.getfield 9, 3) := by decide +kernel
theorem dX6_tokenIs_40 : decode cX6_tokenIs 40 = .ok (.aload_n 0, 1) := by decide +kernel
theorem dX6_tokenIs_41 : decode cX6_tokenIs 41 = .ok (.getfield 22, 3) := by decide +kernel
theorem dX6_tokenIs_44 : decode cX6_tokenIs 44 = .ok (.iload_n 2, 1) := by decide +kernel
theorem dX6_tokenIs_45 : decode cX6_tokenIs 45 = .ok (.iadd, 1) := by decide +kernel
theorem dX6_tokenIs_46 : decode cX6_tokenIs 46 = .ok (.baload, 1) := by decide +kernel
theorem dX6_tokenIs_47 : decode cX6_tokenIs 47 = .ok (.aload_n 1, 1) := by decide +kernel
theorem dX6_tokenIs_48 : decode cX6_tokenIs 48 = .ok (.iload_n 2, 1) := by decide +kernel
theorem dX6_tokenIs_49 : decode cX6_tokenIs 49 = .ok (.invokevirtual 37, 3) := by decide +kernel
theorem dX6_tokenIs_52 : decode cX6_tokenIs 52 = .ok (.if_icmp .eq 5, 3) := by decide +kernel
theorem dX6_tokenIs_55 : decode cX6_tokenIs 55 = .ok (.iconst 0, 1) := by decide +kernel
theorem dX6_tokenIs_56 : decode cX6_tokenIs 56 = .ok (.ireturn, 1) := by decide +kernel
theorem dX6_tokenIs_57 : decode cX6_tokenIs 57 = .ok (.iinc 2 1, 3) := by decide +kernel
theorem dX6_tokenIs_60 : decode cX6_tokenIs 60 = .ok (.goto (-32), 3) := by decide +kernel
theorem dX6_tokenIs_63 : decode cX6_tokenIs 63 = .ok (.iconst 1, 1) := by decide +kernel
theorem dX6_tokenIs_64 : decode cX6_tokenIs 64 = .ok (.ireturn, 1) := by decide +kernel
theorem dJ6_bitCount_0f7a4_0 : decode cJ6_bitCount_0f7a4 0 = .ok (.iload_n 0, 1) := by decide +kernel
theorem dJ6_bitCount_0f7a4_1 : decode cJ6_bitCount_0f7a4 1 = .ok (.iload_n 0, 1) := by decide +kernel
theorem dJ6_bitCount_0f7a4_2 : decode cJ6_bitCount_0f7a4 2 = .ok (.iconst 1, 1) := by decide +kernel
theorem dJ6_bitCount_0f7a4_3 : decode cJ6_bitCount_0f7a4 3 = .ok (.iushr, 1) := by decide +kernel
theorem dJ6_bitCount_0f7a4_4 : decode cJ6_bitCount_0f7a4 4 = .ok (.ldc_w 265, 3) := by decide +kernel
theorem dJ6_bitCount_0f7a4_7 : decode cJ6_bitCount_0f7a4 7 = .ok (.iand, 1) := by decide +kernel
theorem dJ6_bitCount_0f7a4_8 : decode cJ6_bitCount_0f7a4 8 = .ok (.isub, 1) := by decide +kernel
theorem dJ6_bitCount_0f7a4_9 : decode cJ6_bitCount_0f7a4 9 = .ok (.istore_n 0, 1) := by decide +kernel
theorem dJ6_bitCount_0f7a4_10 : decode cJ6_bitCount_0f7a4 10 = .ok (.iload_n 0, 1) := by decide +kernel
theorem dJ6_bitCount_0f7a4_11 : decode cJ6_bitCount_0f7a4 11 = .ok (.ldc_w 266, 3) := by decide +kernel
theorem dJ6_bitCount_0f7a4_14 : decode cJ6_bitCount_0f7a4 14 = .ok (.iand, 1) := by decide +kernel
theorem dJ6_bitCount_0f7a4_15 : decode cJ6_bitCount_0f7a4 15 = .ok (.iload_n 0, 1) := by decide +kernel
theorem dJ6_bitCount_0f7a4_16 : decode cJ6_bitCount_0f7a4 16 = .ok (.iconst 2, 1) := by decide +kernel
theorem dJ6_bitCount_0f7a4_17 : decode cJ6_bitCount_0f7a4 17 = .ok (.iushr, 1) := by decide +kernel
theorem dJ6_bitCount_0f7a4_18 : decode cJ6_bitCount_0f7a4 18 = .ok (.ldc_w 266, 3) := by decide +kernel
theorem dJ6_bitCount_0f7a4_21 : decode cJ6_bitCount_0f7a4 21 = .ok (.iand, 1) := by decide +kernel
theorem dJ6_bitCount_0f7a4_22 : decode cJ6_bitCount_0f7a4 22 = .ok (.iadd, 1) := by decide +kernel
theorem dJ6_bitCount_0f7a4_23 : decode cJ6_bitCount_0f7a4 23 = .ok (.istore_n 0, 1) := by decide +kernel
theorem dJ6_bitCount_0f7a4_24 : decode cJ6_bitCount_0f7a4 24 = .ok (.iload_n 0, 1) := by decide +kernel
theorem dJ6_bitCount_0f7a4_25 : decode cJ6_bitCount_0f7a4 25 = .ok (.iload_n 0, 1) := by decide +kernel
theorem dJ6_bitCount_0f7a4_26 : decode cJ6_bitCount_0f7a4 26 = .ok (.iconst 4, 1) := by decide +kernel
theorem dJ6_bitCount_0f7a4_27 : decode cJ6_bitCount_0f7a4 27 = .ok (.iushr, 1) := by decide +kernel
theorem dJ6_bitCount_0f7a4_28 : decode cJ6_bitCount_0f7a4 28 = .ok (.iadd, 1) := by decide +kernel
theorem dJ6_bitCount_0f7a4_29 : decode cJ6_bitCount_0f7a4 29 = .ok (.ldc_w 267, 3) := by decide +kernel
theorem dJ6_bitCount_0f7a4_32 : decode cJ6_bitCount_0f7a4 32 = .ok (.iand, 1) := by decide +kernel
theorem dJ6_bitCount_0f7a4_33 : decode cJ6_bitCount_0f7a4 33 = .ok (.istore_n 0, 1) := by decide +kernel
theorem dJ6_bitCount_0f7a4_34 : decode cJ6_bitCount_0f7a4 34 = .ok (.iload_n 0, 1) := by decide +kernel
theorem dJ6_bitCount_0f7a4_35 : decode cJ6_bitCount_0f7a4 35 = .ok (.iload_n 0, 1) := by decide +kernel
theorem dJ6_bitCount_0f7a4_36 : decode cJ6_bitCount_0f7a4 36 = .ok (.bipush 8, 2) := by decide +kernel
theorem dJ6_bitCount_0f7a4_38 : decode cJ6_bitCount_0f7a4 38 = .ok (.iushr, 1) := by decide +kernel
theorem dJ6_bitCount_0f7a4_39 : decode cJ6_bitCount_0f7a4 39 = .ok (.iadd, 1) := by decide +kernel
theorem dJ6_bitCount_0f7a4_40 : decode cJ6_bitCount_0f7a4 40 = .ok (.istore_n 0, 1) := by decide +kernel
theorem dJ6_bitCount_0f7a4_41 : decode cJ6_bitCount_0f7a4 41 = .ok (.iload_n 0, 1) := by decide +kernel
theorem dJ6_bitCount_0f7a4_42 : decode cJ6_bitCount_0f7a4 42 = .ok (.iload_n 0, 1) := by decide +kernel
theorem dJ6_bitCount_0f7a4_43 : decode cJ6_bitCount_0f7a4 43 = .ok (.bipush 16, 2) := by decide +kernel
theorem dJ6_bitCount_0f7a4_45 : decode cJ6_bitCount_0f7a4 45 = .ok (.iushr, 1) := by decide +kernel
theorem dJ6_bitCount_0f7a4_46 : decode cJ6_bitCount_0f7a4 46 = .ok (.iadd, 1) := by decide +kernel
theorem dJ6_bitCount_0f7a4_47 : decode cJ6_bitCount_0f7a4 47 = .ok (.istore_n 0, 1) := by decide +kernel
theorem dJ6_bitCount_0f7a4_48 : decode cJ6_bitCount_0f7a4 48 = .ok (.iload_n 0, 1) := by decide +kernel
theorem dJ6_bitCount_0f7a4_49 : decode cJ6_bitCount_0f7a4 49 = .ok (.bipush 63, 2) := by decide +kernel
theorem dJ6_bitCount_0f7a4_51 : decode cJ6_bitCount_0f7a4 51 = .ok (.iand, 1) := by decide +kernel
theorem dJ6_bitCount_0f7a4_52 : decode cJ6_bitCount_0f7a4 52 = .ok (.ireturn, 1) := by decide +kernel
theorem dJ13_bitCount_95d88_0 : decode cJ13_bitCount_95d88 0 = .ok (.lload_n 0, 1) := by decide +kernel
theorem dJ13_bitCount_95d88_1 : decode cJ13_bitCount_95d88 1 = .ok (.lload_n 0, 1) := by decide +kernel
theorem dJ13_bitCount_95d88_2 : decode cJ13_bitCount_95d88 2 = .ok (.iconst 1, 1) := by decide +kernel
theorem dJ13_bitCount_95d88_3 : decode cJ13_bitCount_95d88 3 = .ok (.lushr, 1) := by decide +kernel
theorem dJ13_bitCount_95d88_4 : decode cJ13_bitCount_95d88 4 = .ok (.ldc2_w 314, 3) := by decide +kernel
theorem dJ13_bitCount_95d88_7 : decode cJ13_bitCount_95d88 7 = .ok (.land, 1) := by decide +kernel
theorem dJ13_bitCount_95d88_8 : decode cJ13_bitCount_95d88 8 = .ok (.lsub, 1) := by decide +kernel
theorem dJ13_bitCount_95d88_9 : decode cJ13_bitCount_95d88 9 = .ok (.lstore_n 0, 1) := by decide +kernel
theorem dJ13_bitCount_95d88_10 : decode cJ13_bitCount_95d88 10 = .ok (.lload_n 0, 1) := by decide +kernel
theorem dJ13_bitCount_95d88_11 : decode cJ13_bitCount_95d88 11 = .ok (.ldc2_w 316, 3) := by decide +kernel
theorem dJ13_bitCount_95d88_14 : decode cJ13_bitCount_95d88 14 = .ok (.land, 1) := by decide +kernel
theorem dJ13_bitCount_95d88_15 : decode cJ13_bitCount_95d88 15 = .ok (.lload_n 0, 1) := by decide +kernel
theorem dJ13_bitCount_95d88_16 : decode cJ13_bitCount_95d88 16 = .ok (.iconst 2, 1) := by decide +kernel
theorem dJ13_bitCount_95d88_17 : decode cJ13_bitCount_95d88 17 = .ok (.lushr, 1) := by decide +kernel
theorem dJ13_bitCount_95d88_18 : decode cJ13_bitCount_95d88 18 = .ok (.ldc2_w 316, 3) := by decide +kernel
theorem dJ13_bitCount_95d88_21 : decode cJ13_bitCount_95d88 21 = .ok (.land, 1) := by decide +kernel
theorem dJ13_bitCount_95d88_22 : decode cJ13_bitCount_95d88 22 = .ok (.ladd, 1) := by decide +kernel
theorem dJ13_bitCount_95d88_23 : decode cJ13_bitCount_95d88 23 = .ok (.lstore_n 0, 1) := by decide +kernel
theorem dJ13_bitCount_95d88_24 : decode cJ13_bitCount_95d88 24 = .ok (.lload_n 0, 1) := by decide +kernel
theorem dJ13_bitCount_95d88_25 : decode cJ13_bitCount_95d88 25 = .ok (.lload_n 0, 1) := by decide +kernel
theorem dJ13_bitCount_95d88_26 : decode cJ13_bitCount_95d88 26 = .ok (.iconst 4, 1) := by decide +kernel
theorem dJ13_bitCount_95d88_27 : decode cJ13_bitCount_95d88 27 = .ok (.lushr, 1) := by decide +kernel
theorem dJ13_bitCount_95d88_28 : decode cJ13_bitCount_95d88 28 = .ok (.ladd, 1) := by decide +kernel
theorem dJ13_bitCount_95d88_29 : decode cJ13_bitCount_95d88 29 = .ok (.ldc2_w 318, 3) := by decide +kernel
theorem dJ13_bitCount_95d88_32 : decode cJ13_bitCount_95d88 32 = .ok (.land, 1) := by decide +kernel
theorem dJ13_bitCount_95d88_33 : decode cJ13_bitCount_95d88 33 = .ok (.lstore_n 0, 1) := by decide +kernel
theorem dJ13_bitCount_95d88_34 : decode cJ13_bitCount_95d88 34 = .ok (.lload_n 0, 1) := by decide +kernel
theorem dJ13_bitCount_95d88_35 : decode cJ13_bitCount_95d88 35 = .ok (.lload_n 0, 1) := by decide +kernel
theorem dJ13_bitCount_95d88_36 : decode cJ13_bitCount_95d88 36 = .ok (.bipush 8, 2) := by decide +kernel
theorem dJ13_bitCount_95d88_38 : decode cJ13_bitCount_95d88 38 = .ok (.lushr, 1) := by decide +kernel
theorem dJ13_bitCount_95d88_39 : decode cJ13_bitCount_95d88 39 = .ok (.ladd, 1) := by decide +kernel
theorem dJ13_bitCount_95d88_40 : decode cJ13_bitCount_95d88 40 = .ok (.lstore_n 0, 1) := by decide +kernel
theorem dJ13_bitCount_95d88_41 : decode cJ13_bitCount_95d88 41 = .ok (.lload_n 0, 1) := by decide +kernel
theorem dJ13_bitCount_95d88_42 : decode cJ13_bitCount_95d88 42 = .ok (.lload_n 0, 1) := by decide +kernel
theorem dJ13_bitCount_95d88_43 : decode cJ13_bitCount_95d88 43 = .ok (.bipush 16, 2) := by decide +kernel
theorem dJ13_bitCount_95d88_45 : decode cJ13_bitCount_95d88 45 = .ok (.lushr, 1) := by decide +kernel
theorem dJ13_bitCount_95d88_46 : decode cJ13_bitCount_95d88 46 = .ok (.ladd, 1) := by decide +kernel
theorem dJ13_bitCount_95d88_47 : decode cJ13_bitCount_95d88 47 = .ok (.lstore_n 0, 1) := by decide +kernel
theorem dJ13_bitCount_95d88_48 : decode cJ13_bitCount_95d88 48 = .ok (.lload_n 0, 1) := by decide +kernel
theorem dJ13_bitCount_95d88_49 : decode cJ13_bitCount_95d88 49 = .ok (.lload_n 0, 1) := by decide +kernel
theorem dJ13_bitCount_95d88_50 : decode cJ13_bitCount_95d88 50 = .ok (.bipush 32, 2) := by decide +kernel
theorem dJ13_bitCount_95d88_52 : decode cJ13_bitCount_95d88 52 = .ok (.lushr, 1) := by decide +kernel
theorem dJ13_bitCount_95d88_53 : decode cJ13_bitCount_95d88 53 = .ok (.ladd, 1) := by decide +kernel
theorem dJ13_bitCount_95d88_54 : decode cJ13_bitCount_95d88 54 = .ok (.lstore_n 0, 1) := by decide +kernel
theorem dJ13_bitCount_95d88_55 : decode cJ13_bitCount_95d88 55 = .ok (.lload_n 0, 1) := by decide +kernel
theorem dJ13_bitCount_95d88_56 : decode cJ13_bitCount_95d88 56 = .ok (.l2i, 1) := by decide +kernel
theorem dJ13_bitCount_95d88_57 : decode cJ13_bitCount_95d88 57 = .ok (.bipush 127, 2) := by decide +kernel
theorem dJ13_bitCount_95d88_59 : decode cJ13_bitCount_95d88 59 = .ok (.iand, 1) := by decide +kernel
theorem dJ13_bitCount_95d88_60 : decode cJ13_bitCount_95d88 60 = .ok (.ireturn, 1) := by decide +kernel
theorem dJ9_max_7cf53_0 : decode cJ9_max_7cf53 0 = .ok (.iload_n 0, 1) := by decide +kernel
theorem dJ9_max_7cf53_1 : decode cJ9_max_7cf53 1 = .ok (.iload_n 1, 1) := by decide +kernel
theorem dJ9_max_7cf53_2 : decode cJ9_max_7cf53 2 = .ok (.if_icmp .lt 7, 3) := by decide +kernel
theorem dJ9_max_7cf53_5 : decode cJ9_max_7cf53 5 = .ok (.iload_n 0, 1) := by decide +kernel
theorem dJ9_max_7cf53_6 : decode cJ9_max_7cf53 6 = .ok (.goto 4, 3) := by decide +kernel
theorem dJ9_max_7cf53_9 : decode cJ9_max_7cf53 9 = .ok (.iload_n 1, 1) := by decide +kernel
theorem dJ9_max_7cf53_10 : decode cJ9_max_7cf53 10 = .ok (.ireturn, 1) := by decide +kernel
theorem dJ9_min_7cf53_0 : decode cJ9_min_7cf53 0 = .ok (.iload_n 0, 1) := by decide +kernel
theorem dJ9_min_7cf53_1 : decode cJ9_min_7cf53 1 = .ok (.iload_n 1, 1) := by decide +kernel
theorem dJ9_min_7cf53_2 : decode cJ9_min_7cf53 2 = .ok (.if_icmp .gt 7, 3) := by decide +kernel
theorem dJ9_min_7cf53_5 : decode cJ9_min_7cf53 5 = .ok (.iload_n 0, 1) := by decide +kernel
theorem dJ9_min_7cf53_6 : decode cJ9_min_7cf53 6 = .ok (.goto 4, 3) := by decide +kernel
theorem dJ9_min_7cf53_9 : decode cJ9_min_7cf53 9 = .ok (.iload_n 1, 1) := by decide +kernel
theorem dJ9_min_7cf53_10 : decode cJ9_min_7cf53 10 = .ok (.ireturn, 1) := by decide +kernel
theorem dJ0_length_8abf5_0 : decode cJ0_length_8abf5 0 = .ok (.aload_n 0, 1) := by decide +kernel
theorem dJ0_length_8abf5_1 : decode cJ0_length_8abf5 1 = .ok (.getfield 9, 3) := by decide +kernel
theorem dJ0_length_8abf5_4 : decode cJ0_length_8abf5 4 = .ok (.arraylength, 1) := by decide +kernel
theorem dJ0_length_8abf5_5 : decode cJ0_length_8abf5 5 = .ok (.aload_n 0, 1) := by decide +kernel
theorem dJ0_length_8abf5_6 : decode cJ0_length_8abf5 6 = .ok (.invokevirtual 335, 3) := by decide +kernel
theorem dJ0_length_8abf5_9 : decode cJ0_length_8abf5 9 = .ok (.ishr, 1) := by decide +kernel
theorem dJ0_length_8abf5_10 : decode cJ0_length_8abf5 10 = .ok (.ireturn, 1) := by decide +kernel
theorem dJ0_charAt_5068e_0 : decode cJ0_charAt_5068e 0 = .ok (.aload_n 0, 1) := by decide +kernel
theorem dJ0_charAt_5068e_1 : decode cJ0_charAt_5068e 1 = .ok (.invokevirtual 492, 3) := by decide +kernel
theorem dJ0_charAt_5068e_4 : decode cJ0_charAt_5068e 4 = .ok (.ifCond .eq 12, 3) := by decide +kernel
theorem dJ0_charAt_5068e_7 : decode cJ0_charAt_5068e 7 = .ok (.aload_n 0, 1) := by decide +kernel
theorem dJ0_charAt_5068e_8 : decode cJ0_charAt_5068e 8 = .ok (.getfield 9, 3) := by decide +kernel
theorem dJ0_charAt_5068e_11 : decode cJ0_charAt_5068e 11 = .ok (.iload_n 1, 1) := by decide +kernel
theorem dJ0_charAt_5068e_12 : decode cJ0_charAt_5068e 12 = .ok (.invokestatic 495, 3) := by decide +kernel
theorem dJ0_charAt_5068e_15 : decode cJ0_charAt_5068e 15 = .ok (.ireturn, 1) := by decide +kernel
theorem dJ0_charAt_5068e_16 : decode cJ0_charAt_5068e 16 = .ok (.aload_n 0, 1) := by decide +kernel
theorem dJ0_charAt_5068e_17 : decode cJ0_charAt_5068e 17 = .ok (.getfield 9, 3) := by decide +kernel
theorem dJ0_charAt_5068e_20 : decode cJ0_charAt_5068e 20 = .ok (.iload_n 1, 1) := by decide +kernel
theorem dJ0_charAt_5068e_21 : decode cJ0_charAt_5068e 21 = .ok (.invokestatic 498, 3) := by decide +kernel
theorem dJ0_charAt_5068e_24 : decode cJ0_charAt_5068e 24 = .ok (.ireturn, 1) := by decide +kernel
theorem dJ0_coder_7d493_0 : decode cJ0_coder_7d493 0 = .ok (.getstatic 38, 3) := by decide +kernel
theorem dJ0_coder_7d493_3 : decode cJ0_coder_7d493 3 = .ok (.ifCond .eq 10, 3) := by decide +kernel
theorem dJ0_coder_7d493_6 : decode cJ0_coder_7d493 6 = .ok (.aload_n 0, 1) := by decide +kernel
theorem dJ0_coder_7d493_7 : decode cJ0_coder_7d493 7 = .ok (.getfield 15, 3) := by decide +kernel
theorem dJ0_coder_7d493_10 : decode cJ0_coder_7d493 10 = .ok (.goto 4, 3) := by decide +kernel
theorem dJ0_coder_7d493_13 : decode cJ0_coder_7d493 13 = .ok (.iconst 1, 1) := by decide +kernel
theorem dJ0_coder_7d493_14 : decode cJ0_coder_7d493 14 = .ok (.ireturn, 1) := by decide +kernel
theorem dJ0_isLatin1_aae02_0 : decode cJ0_isLatin1_aae02 0 = .ok (.getstatic 38, 3) := by decide +kernel
theorem dJ0_isLatin1_aae02_3 : decode cJ0_isLatin1_aae02 3 = .ok (.ifCond .eq 14, 3) := by decide +kernel
theorem dJ0_isLatin1_aae02_6 : decode cJ0_isLatin1_aae02 6 = .ok (.aload_n 0, 1) := by decide +kernel
theorem dJ0_isLatin1_aae02_7 : decode cJ0_isLatin1_aae02 7 = .ok (.getfield 15, 3) := by decide +kernel
theorem dJ0_isLatin1_aae02_10 : decode cJ0_isLatin1_aae02 10 = .ok (.ifCond .ne 7, 3) := by decide +kernel
theorem dJ0_isLatin1_aae02_13 : decode cJ0_isLatin1_aae02 13 = .ok (.iconst 1, 1) := by decide +kernel
theorem dJ0_isLatin1_aae02_14 : decode cJ0_isLatin1_aae02 14 = .ok (.goto 4, 3) := by decide +kernel
theorem dJ0_isLatin1_aae02_17 : decode cJ0_isLatin1_aae02 17 = .ok (.iconst 0, 1) := by decide +kernel
theorem dJ0_isLatin1_aae02_18 : decode cJ0_isLatin1_aae02 18 = .ok (.ireturn, 1) := by decide +kernel
theorem dJ0_checkIndex_df160_0 : decode cJ0_checkIndex_df160 0 = .ok (.iload_n 0, 1) := by decide +kernel
theorem dJ0_checkIndex_df160_1 : decode cJ0_checkIndex_df160 1 = .ok (.iload_n 1, 1) := by decide +kernel
theorem dJ0_checkIndex_df160_2 : decode cJ0_checkIndex_df160 2 = .ok (.getstatic 1053, 3) := by decide +kernel
theorem dJ0_checkIndex_df160_5 : decode cJ0_checkIndex_df160 5 = .ok (.invokestatic 1059, 3) := by decide +kernel
theorem dJ0_checkIndex_df160_8 : decode cJ0_checkIndex_df160 8 = .ok (.pop, 1) := by decide +kernel
theorem dJ0_checkIndex_df160_9 : decode cJ0_checkIndex_df160 9 = .ok (.return_, 1) := by decide +kernel
theorem dJ1_charAt_3b067_0 : decode cJ1_charAt_3b067 0 = .ok (.iload_n 1, 1) := by decide +kernel
theorem dJ1_charAt_3b067_1 : decode cJ1_charAt_3b067 1 = .ok (.aload_n 0, 1) := by decide +kernel
theorem dJ1_charAt_3b067_2 : decode cJ1_charAt_3b067 2 = .ok (.arraylength, 1) := by decide +kernel
theorem dJ1_charAt_3b067_3 : decode cJ1_charAt_3b067 3 = .ok (.invokestatic 9, 3) := by decide +kernel
theorem dJ1_charAt_3b067_6 : decode cJ1_charAt_3b067 6 = .ok (.aload_n 0, 1) := by decide +kernel
theorem dJ1_charAt_3b067_7 : decode cJ1_charAt_3b067 7 = .ok (.iload_n 1, 1) := by decide +kernel
theorem dJ1_charAt_3b067_8 : decode cJ1_charAt_3b067 8 = .ok (.baload, 1) := by decide +kernel
theorem dJ1_charAt_3b067_9 : decode cJ1_charAt_3b067 9 = .ok (.sipush 255, 3) := by decide +kernel
theorem dJ1_charAt_3b067_12 : decode cJ1_charAt_3b067 12 = .ok (.iand, 1) := by decide +kernel
theorem dJ1_charAt_3b067_13 : decode cJ1_charAt_3b067 13 = .ok (.i2c, 1) := by decide +kernel
theorem dJ1_charAt_3b067_14 : decode cJ1_charAt_3b067 14 = .ok (.ireturn, 1) := by decide +kernel
theorem dJ2_getChar_3b067_0 : decode cJ2_getChar_3b067 0 = .ok (.getstatic 44, 3) := by decide +kernel
theorem dJ2_getChar_3b067_3 : decode cJ2_getChar_3b067 3 = .ok (.ifCond .ne 25, 3) := by decide +kernel
theorem dJ2_getChar_3b067_6 : decode cJ2_getChar_3b067 6 = .ok (.iload_n 1, 1) := by decide +kernel
theorem dJ2_getChar_3b067_7 : decode cJ2_getChar_3b067 7 = .ok (.ifCond .lt 11, 3) := by decide +kernel
theorem dJ2_getChar_3b067_10 : decode cJ2_getChar_3b067 10 = .ok (.iload_n 1, 1) := by decide +kernel
theorem dJ2_getChar_3b067_11 : decode cJ2_getChar_3b067 11 = .ok (.aload_n 0, 1) := by decide +kernel
theorem dJ2_getChar_3b067_12 : decode cJ2_getChar_3b067 12 = .ok (.invokestatic 48, 3) := by decide +kernel
theorem dJ2_getChar_3b067_15 : decode cJ2_getChar_3b067 15 = .ok (.if_icmp .lt 13, 3) := by decide +kernel
theorem dJ2_getChar_3b067_18 : decode cJ2_getChar_3b067 18 = .ok (.new 52, 3) := by decide +kernel
theorem dJ2_getChar_3b067_21 : decode cJ2_getChar_3b067 21 = .ok (.dup, 1) := by decide +kernel
theorem dJ2_getChar_3b067_22 : decode cJ2_getChar_3b067 22 = .ok (.ldc 54, 2) := by decide +kernel
theorem dJ2_getChar_3b067_24 : decode cJ2_getChar_3b067 24 = .ok (.invokespecial 56, 3) := by decide +kernel
theorem dJ2_getChar_3b067_27 : decode cJ2_getChar_3b067 27 = .ok (.athrow, 1) := by decide +kernel
theorem dJ2_getChar_3b067_28 : decode cJ2_getChar_3b067 28 = .ok (.iload_n 1, 1) := by decide +kernel
theorem dJ2_getChar_3b067_29 : decode cJ2_getChar_3b067 29 = .ok (.iconst 1, 1) := by decide +kernel
theorem dJ2_getChar_3b067_30 : decode cJ2_getChar_3b067 30 = .ok (.ishl, 1) := by decide +kernel
theorem dJ2_getChar_3b067_31 : decode cJ2_getChar_3b067 31 = .ok (.istore_n 1, 1) := by decide +kernel
theorem dJ2_getChar_3b067_32 : decode cJ2_getChar_3b067 32 = .ok (.aload_n 0, 1) := by decide +kernel
theorem dJ2_getChar_3b067_33 : decode cJ2_getChar_3b067 33 = .ok (.iload_n 1, 1) := by decide +kernel
theorem dJ2_getChar_3b067_34 : decode cJ2_getChar_3b067 34 = .ok (.iinc 1 1, 3) := by decide +kernel
theorem dJ2_getChar_3b067_37 : decode cJ2_getChar_3b067 37 = .ok (.baload, 1) := by decide +kernel
theorem dJ2_getChar_3b067_38 : decode cJ2_getChar_3b067 38 = .ok (.sipush 255, 3) := by decide +kernel
theorem dJ2_getChar_3b067_41 : decode cJ2_getChar_3b067 41 = .ok (.iand, 1) := by decide +kernel
theorem dJ2_getChar_3b067_42 : decode cJ2_getChar_3b067 42 = .ok (.getstatic 59, 3) := by decide +kernel
theorem dJ2_getChar_3b067_45 : decode cJ2_getChar_3b067 45 = .ok (.ishl, 1) := by decide +kernel
theorem dJ2_getChar_3b067_46 : decode cJ2_getChar_3b067 46 = .ok (.aload_n 0, 1) := by decide +kernel
theorem dJ2_getChar_3b067_47 : decode cJ2_getChar_3b067 47 = .ok (.iload_n 1, 1) := by decide +kernel
theorem dJ2_getChar_3b067_48 : decode cJ2_getChar_3b067 48 = .ok (.baload, 1) := by decide +kernel
theorem dJ2_getChar_3b067_49 : decode cJ2_getChar_3b067 49 = .ok (.sipush 255, 3) := by decide +kernel
theorem dJ2_getChar_3b067_52 : decode cJ2_getChar_3b067 52 = .ok (.iand, 1) := by decide +kernel
theorem dJ2_getChar_3b067_53 : decode cJ2_getChar_3b067 53 = .ok (.getstatic 63, 3) := by decide +kernel
theorem dJ2_getChar_3b067_56 : decode cJ2_getChar_3b067 56 = .ok (.ishl, 1) := by decide +kernel
theorem dJ2_getChar_3b067_57 : decode cJ2_getChar_3b067 57 = .ok (.ior, 1) := by decide +kernel
theorem dJ2_getChar_3b067_58 : decode cJ2_getChar_3b067 58 = .ok (.i2c, 1) := by decide +kernel
theorem dJ2_getChar_3b067_59 : decode cJ2_getChar_3b067 59 = .ok (.ireturn, 1) := by decide +kernel
theorem dJ2_length_9d52b_0 : decode cJ2_length_9d52b 0 = .ok (.aload_n 0, 1) := by decide +kernel
theorem dJ2_length_9d52b_1 : decode cJ2_length_9d52b 1 = .ok (.arraylength, 1) := by decide +kernel
theorem dJ2_length_9d52b_2 : decode cJ2_length_9d52b 2 = .ok (.iconst 1, 1) := by decide +kernel
theorem dJ2_length_9d52b_3 : decode cJ2_length_9d52b 3 = .ok (.ishr, 1) := by decide +kernel
theorem dJ2_length_9d52b_4 : decode cJ2_length_9d52b 4 = .ok (.ireturn, 1) := by decide +kernel
theorem dJ2_charAt_3b067_0 : decode cJ2_charAt_3b067 0 = .ok (.iload_n 1, 1) := by decide +kernel
theorem dJ2_charAt_3b067_1 : decode cJ2_charAt_3b067 1 = .ok (.aload_n 0, 1) := by decide +kernel
theorem dJ2_charAt_3b067_2 : decode cJ2_charAt_3b067 2 = .ok (.invokestatic 67, 3) := by decide +kernel
theorem dJ2_charAt_3b067_5 : decode cJ2_charAt_3b067 5 = .ok (.aload_n 0, 1) := by decide +kernel
theorem dJ2_charAt_3b067_6 : decode cJ2_charAt_3b067 6 = .ok (.iload_n 1, 1) := by decide +kernel
theorem dJ2_charAt_3b067_7 : decode cJ2_charAt_3b067 7 = .ok (.invokestatic 71, 3) := by decide +kernel
theorem dJ2_charAt_3b067_10 : decode cJ2_charAt_3b067 10 = .ok (.ireturn, 1) := by decide +kernel
theorem dJ2_checkIndex_2214a_0 : decode cJ2_checkIndex_2214a 0 = .ok (.iload_n 0, 1) := by decide +kernel
theorem dJ2_checkIndex_2214a_1 : decode cJ2_checkIndex_2214a 1 = .ok (.aload_n 1, 1) := by decide +kernel
theorem dJ2_checkIndex_2214a_2 : decode cJ2_checkIndex_2214a 2 = .ok (.invokestatic 48, 3) := by decide +kernel
theorem dJ2_checkIndex_2214a_5 : decode cJ2_checkIndex_2214a 5 = .ok (.invokestatic 414, 3) := by decide +kernel
theorem dJ2_checkIndex_2214a_8 : decode cJ2_checkIndex_2214a 8 = .ok (.return_, 1) := by decide +kernel
theorem dJ3_checkIndex_8e157_0 : decode cJ3_checkIndex_8e157 0 = .ok (.iload_n 0, 1) := by decide +kernel
theorem dJ3_checkIndex_8e157_1 : decode cJ3_checkIndex_8e157 1 = .ok (.ifCond .lt 8, 3) := by decide +kernel
theorem dJ3_checkIndex_8e157_4 : decode cJ3_checkIndex_8e157 4 = .ok (.iload_n 0, 1) := by decide +kernel
theorem dJ3_checkIndex_8e157_5 : decode cJ3_checkIndex_8e157 5 = .ok (.iload_n 1, 1) := by decide +kernel
theorem dJ3_checkIndex_8e157_6 : decode cJ3_checkIndex_8e157 6 = .ok (.if_icmp .lt 10, 3) := by decide +kernel
theorem dJ3_checkIndex_8e157_9 : decode cJ3_checkIndex_8e157 9 = .ok (.aload_n 2, 1) := by decide +kernel
theorem dJ3_checkIndex_8e157_10 : decode cJ3_checkIndex_8e157 10 = .ok (.iload_n 0, 1) := by decide +kernel
theorem dJ3_checkIndex_8e157_11 : decode cJ3_checkIndex_8e157 11 = .ok (.iload_n 1, 1) := by decide +kernel
theorem dJ3_checkIndex_8e157_12 : decode cJ3_checkIndex_8e157 12 = .ok (.invokestatic 95, 3) := by decide +kernel
theorem dJ3_checkIndex_8e157_15 : decode cJ3_checkIndex_8e157 15 = .ok (.athrow, 1) := by decide +kernel
theorem dJ3_checkIndex_8e157_16 : decode cJ3_checkIndex_8e157 16 = .ok (.iload_n 0, 1) := by decide +kernel
theorem dJ3_checkIndex_8e157_17 : decode cJ3_checkIndex_8e157 17 = .ok (.ireturn, 1) := by decide +kernel
end
section
theorem dX7_init_0 : decode cX7_init 0 = .ok (.aload_n 0, 1) := by decide +kernel
theorem dX7_init_1 : decode cX7_init 1 = .ok (.invokespecial 1, 3) := by decide +kernel
theorem dX7_init_4 : decode cX7_init 4 = .ok (.aload_n 0, 1) := by decide +kernel
theorem dX7_init_5 : decode cX7_init 5 = .ok (.new 7, 3) := by decide +kernel
theorem dX7_init_8 : decode cX7_init 8 = .ok (.dup, 1) := by decide +kernel
theorem dX7_init_9 : decode cX7_init 9 = .ok (.invokespecial 9, 3) := by decide +kernel
theorem dX7_init_12 : decode cX7_init 12 = .ok (.putfield 10, 3) := by decide +kernel
theorem dX7_init_15 : decode cX7_init 15 = .ok (.aload_n 0, 1) := by decide +kernel
theorem dX7_init_16 : decode cX7_init 16 = .ok (.new 7, 3) := by decide +kernel
theorem dX7_init_19 : decode cX7_init 19 = .ok (.dup, 1) := by decide +kernel
theorem dX7_init_20 : decode cX7_init 20 = .ok (.invokespecial 9, 3) := by decide +kernel
theorem dX7_init_23 : decode cX7_init 23 = .ok (.putfield 16, 3) := by decide +kernel
theorem dX7_init_26 : decode cX7_init 26 = .ok (.aload_n 0, 1) := by decide +kernel
theorem dX7_init_27 : decode cX7_init 27 = .ok (.iconst 2, 1) := by decide +kernel
theorem dX7_init_28 : decode cX7_init 28 = .ok (.anewarray 7, 3) := by decide +kernel
theorem dX7_init_31 : decode cX7_init 31 = .ok (.putfield 19, 3) := by decide +kernel
theorem dX7_init_34 : decode cX7_init 34 = .ok (.aload_n 0, 1) := by decide +kernel
theorem dX7_init_35 : decode cX7_init 35 = .ok (.iconst 2, 1) := by decide +kernel
theorem dX7_init_36 : decode cX7_init 36 = .ok (.newarray .boolean, 2) := by decide +kernel
theorem dX7_init_38 : decode cX7_init 38 = .ok (.putfield 23, 3) := by decide +kernel
theorem dX7_init_41 : decode cX7_init 41 = .ok (.aload_n 0, 1) := by decide +kernel
theorem dX7_init_42 : decode cX7_init 42 = .ok (.new 27, 3) := by decide +kernel
theorem dX7_init_45 : decode cX7_init 45 = .ok (.dup, 1) := by decide +kernel
theorem dX7_init_46 : decode cX7_init 46 = .ok (.invokespecial 29, 3) := by decide +kernel
theorem dX7_init_49 : decode cX7_init 49 = .ok (.putfield 30, 3) := by decide +kernel
theorem dX7_init_52 : decode cX7_init 52 = .ok (.aload_n 0, 1) := by decide +kernel
theorem dX7_init_53 : decode cX7_init 53 = .ok (.new 34, 3) := by decide +kernel
theorem dX7_init_56 : decode cX7_init 56 = .ok (.dup, 1) := by decide +kernel
theorem dX7_init_57 : decode cX7_init 57 = .ok (.invokespecial 36, 3) := by decide +kernel
theorem dX7_init_60 : decode cX7_init 60 = .ok (.putfield 37, 3) := by decide +kernel
theorem dX7_init_63 : decode cX7_init 63 = .ok (.aload_n 0, 1) := by decide +kernel
theorem dX7_init_64 : decode cX7_init 64 = .ok (.new 41, 3) := by decide +kernel
theorem dX7_init_67 : decode cX7_init 67 = .ok (.dup, 1) := by decide +kernel
theorem dX7_init_68 : decode cX7_init 68 = .ok (.invokespecial 43, 3) := by decide +kernel
theorem dX7_init_71 : decode cX7_init 71 = .ok (.putfield 44, 3) := by decide +kernel
theorem dX7_init_74 : decode cX7_init 74 = .ok (.aload_n 0, 1) := by decide +kernel
theorem dX7_init_75 : decode cX7_init 75 = .ok (.new 48, 3) := by decide +kernel
theorem dX7_init_78 : decode cX7_init 78 = .ok (.dup, 1) := by decide +kernel
theorem dX7_init_79 : decode cX7_init 79 = .ok (.invokespecial 50, 3) := by decide +kernel
theorem dX7_init_82 : decode cX7_init 82 = .ok (.putfield 51, 3) := by decide +kernel
theorem dX7_init_85 : decode cX7_init 85 = .ok (.aload_n 0, 1) := by decide +kernel
theorem dX7_init_86 : decode cX7_init 86 = .ok (.iconst 4, 1) := by decide +kernel
theorem dX7_init_87 : decode cX7_init 87 = .ok (.anewarray 55, 3) := by decide +kernel
theorem dX7_init_90 : decode cX7_init 90 = .ok (.putfield 57, 3) := by decide +kernel
theorem dX7_init_93 : decode cX7_init 93 = .ok (.iconst 0, 1) := by decide +kernel
theorem dX7_init_94 : decode cX7_init 94 = .ok (.istore_n 1, 1) := by decide +kernel
theorem dX7_init_95 : decode cX7_init 95 = .ok (.iload_n 1, 1) := by decide +kernel
theorem dX7_init_96 : decode cX7_init 96 = .ok (.iconst 2, 1) := by decide +kernel
theorem dX7_init_97 : decode cX7_init 97 = .ok (.if_icmp .ge 22, 3) := by decide +kernel
theorem dX7_init_100 : decode cX7_init 100 = .ok (.aload_n 0, 1) := by decide +kernel
theorem dX7_init_101 : decode cX7_init 101 = .ok (.getfield 19, 3) := by decide +kernel
theorem dX7_init_104 : decode cX7_init 104 = .ok (.iload_n 1, 1) := by decide +kernel
theorem dX7_init_105 : decode cX7_init 105 = .ok (.new 7, 3) := by decide +kernel
theorem dX7_init_108 : decode cX7_init 108 = .ok (.dup, 1) := by decide +kernel
theorem dX7_init_109 : decode cX7_init 109 = .ok (.invokespecial 9, 3) := by decide +kernel
theorem dX7_init_112 : decode cX7_init 112 = .ok (.aastore, 1) := by decide +kernel
theorem dX7_init_113 : decode cX7_init 113 = .ok (.iinc 1 1, 3) := by decide +kernel
theorem dX7_init_116 : decode cX7_init 116 = .ok (.goto (-21), 3) := by decide +kernel
theorem dX7_init_119 : decode cX7_init 119 = .ok (.iconst 0, 1) := by decide +kernel
theorem dX7_init_120 : decode cX7_init 120 = .ok (.istore_n 1, 1) := by decide +kernel
theorem dX7_init_121 : decode cX7_init 121 = .ok (.iload_n 1, 1) := by decide +kernel
theorem dX7_init_122 : decode cX7_init 122 = .ok (.iconst 4, 1) := by decide +kernel
theorem dX7_init_123 : decode cX7_init 123 = .ok (.if_icmp .ge 22, 3) := by decide +kernel
theorem dX7_init_126 : decode cX7_init 126 = .ok (.aload_n 0, 1) := by decide +kernel
theorem dX7_init_127 : decode cX7_init 127 = .ok (.getfield 57, 3) := by decide +kernel
theorem dX7_init_130 : decode cX7_init 130 = .ok (.iload_n 1, 1) := by decide +kernel
theorem dX7_init_131 : decode cX7_init 131 = .ok (.new 55, 3) := by decide +kernel
theorem dX7_init_134 : decode cX7_init 134 = .ok (.dup, 1) := by decide +kernel
theorem dX7_init_135 : decode cX7_init 135 = .ok (.invokespecial 61, 3) := by decide +kernel
theorem dX7_init_138 : decode cX7_init 138 = .ok (.aastore, 1) := by decide +kernel
theorem dX7_init_139 : decode cX7_init 139 = .ok (.iinc 1 1, 3) := by decide +kernel
theorem dX7_init_142 : decode cX7_init 142 = .ok (.goto (-21), 3) := by decide +kernel
theorem dX7_init_145 : decode cX7_init 145 = .ok (.return_, 1) := by decide +kernel
theorem dX7_feed_0 : decode cX7_feed 0 = .ok (.iload_n 1, 1) := by decide +kernel
theorem dX7_feed_1 : decode cX7_feed 1 = .ok (.ifCond .lt 9, 3) := by decide +kernel
theorem dX7_feed_4 : decode cX7_feed 4 = .ok (.iload_n 1, 1) := by decide +kernel
theorem dX7_feed_5 : decode cX7_feed 5 = .ok (.bipush 127, 2) := by decide +kernel
theorem dX7_feed_7 : decode cX7_feed 7 = .ok (.if_icmp .le 5, 3) := by decide +kernel
theorem dX7_feed_10 : decode cX7_feed 10 = .ok (.iconst (-1), 1) := by decide +kernel
theorem dX7_feed_11 : decode cX7_feed 11 = .ok (.ireturn, 1) := by decide +kernel
theorem dX7_feed_12 : decode cX7_feed 12 = .ok (.aload_n 0, 1) := by decide +kernel
theorem dX7_feed_13 : decode cX7_feed 13 = .ok (.getfield 30, 3) := by decide +kernel
theorem dX7_feed_16 : decode cX7_feed 16 = .ok (.getfield 62, 3) := by decide +kernel
theorem dX7_feed_19 : decode cX7_feed 19 = .ok (.getfield 66, 3) := by decide +kernel
theorem dX7_feed_22 : decode cX7_feed 22 = .ok (.sipush 160, 3) := by decide +kernel
theorem dX7_feed_25 : decode cX7_feed 25 = .ok (.if_icmp .lt 6, 3) := by decide +kernel
theorem dX7_feed_28 : decode cX7_feed 28 = .ok (.bipush (-3), 2) := by decide +kernel
theorem dX7_feed_30 : decode cX7_feed 30 = .ok (.ireturn, 1) := by decide +kernel
theorem dX7_feed_31 : decode cX7_feed 31 = .ok (.aload_n 0, 1) := by decide +kernel
theorem dX7_feed_32 : decode cX7_feed 32 = .ok (.getfield 30, 3) := by decide +kernel
theorem dX7_feed_35 : decode cX7_feed 35 = .ok (.getfield 62, 3) := by decide +kernel
theorem dX7_feed_38 : decode cX7_feed 38 = .ok (.iload_n 1, 1) := by decide +kernel
theorem dX7_feed_39 : decode cX7_feed 39 = .ok (.invokevirtual 72, 3) := by decide +kernel
theorem dX7_feed_42 : decode cX7_feed 42 = .ok (.aload_n 0, 1) := by decide +kernel
theorem dX7_feed_43 : decode cX7_feed 43 = .ok (.getfield 30, 3) := by decide +kernel
theorem dX7_feed_46 : decode cX7_feed 46 = .ok (.getfield 62, 3) := by decide +kernel
theorem dX7_feed_49 : decode cX7_feed 49 = .ok (.getfield 66, 3) := by decide +kernel
theorem dX7_feed_52 : decode cX7_feed 52 = .ok (.ireturn, 1) := by decide +kernel
theorem dX7_end_0 : decode cX7_end 0 = .ok (.iload_n 1, 1) := by decide +kernel
theorem dX7_end_1 : decode cX7_end 1 = .ok (.ifCond .lt 17, 3) := by decide +kernel
theorem dX7_end_4 : decode cX7_end 4 = .ok (.iload_n 1, 1) := by decide +kernel
theorem dX7_end_5 : decode cX7_end 5 = .ok (.aload_n 0, 1) := by decide +kernel
theorem dX7_end_6 : decode cX7_end 6 = .ok (.getfield 30, 3) := by decide +kernel
theorem dX7_end_9 : decode cX7_end 9 = .ok (.getfield 62, 3) := by decide +kernel
theorem dX7_end_12 : decode cX7_end 12 = .ok (.getfield 66, 3) := by decide +kernel
theorem dX7_end_15 : decode cX7_end 15 = .ok (.if_icmp .le 5, 3) := by decide +kernel
theorem dX7_end_18 : decode cX7_end 18 = .ok (.iconst (-1), 1) := by decide +kernel
theorem dX7_end_19 : decode cX7_end 19 = .ok (.ireturn, 1) := by decide +kernel
theorem dX7_end_20 : decode cX7_end 20 = .ok (.aload_n 0, 1) := by decide +kernel
theorem dX7_end_21 : decode cX7_end 21 = .ok (.getfield 30, 3) := by decide +kernel
theorem dX7_end_24 : decode cX7_end 24 = .ok (.getfield 62, 3) := by decide +kernel
theorem dX7_end_27 : decode cX7_end 27 = .ok (.getfield 66, 3) := by decide +kernel
theorem dX7_end_30 : decode cX7_end 30 = .ok (.istore_n 2, 1) := by decide +kernel
theorem dX7_end_31 : decode cX7_end 31 = .ok (.aload_n 0, 1) := by decide +kernel
theorem dX7_end_32 : decode cX7_end 32 = .ok (.getfield 30, 3) := by decide +kernel
theorem dX7_end_35 : decode cX7_end 35 = .ok (.getfield 62, 3) := by decide +kernel
theorem dX7_end_38 : decode cX7_end 38 = .ok (.iload_n 1, 1) := by decide +kernel
theorem dX7_end_39 : decode cX7_end 39 = .ok (.putfield 66, 3) := by decide +kernel
theorem dX7_end_42 : decode cX7_end 42 = .ok (.iload_n 2, 1) := by decide +kernel
theorem dX7_end_43 : decode cX7_end 43 = .ok (.ireturn, 1) := by decide +kernel
theorem dX7_text_0 : decode cX7_text 0 = .ok (.aload_n 0, 1) := by decide +kernel
theorem dX7_text_1 : decode cX7_text 1 = .ok (.getfield 30, 3) := by decide +kernel
theorem dX7_text_4 : decode cX7_text 4 = .ok (.invokevirtual 76, 3) := by decide +kernel
theorem dX7_text_7 : decode cX7_text 7 = .ok (.aload_n 0, 1) := by decide +kernel
theorem dX7_text_8 : decode cX7_text 8 = .ok (.getfield 30, 3) := by decide +kernel
theorem dX7_text_11 : decode cX7_text 11 = .ok (.getfield 62, 3) := by decide +kernel
theorem dX7_text_14 : decode cX7_text 14 = .ok (.iconst 0, 1) := by decide +kernel
theorem dX7_text_15 : decode cX7_text 15 = .ok (.putfield 66, 3) := by decide +kernel
theorem dX7_text_18 : decode cX7_text 18 = .ok (.aload_n 0, 1) := by decide +kernel
theorem dX7_text_19 : decode cX7_text 19 = .ok (.getfield 30, 3) := by decide +kernel
theorem dX7_text_22 : decode cX7_text 22 = .ok (.getfield 79, 3) := by decide +kernel
theorem dX7_text_25 : decode cX7_text 25 = .ok (.ifCond .eq 14, 3) := by decide +kernel
theorem dX7_text_28 : decode cX7_text 28 = .ok (.bipush (-10), 2) := by decide +kernel
theorem dX7_text_30 : decode cX7_text 30 = .ok (.aload_n 0, 1) := by decide +kernel
theorem dX7_text_31 : decode cX7_text 31 = .ok (.getfield 30, 3) := by decide +kernel
theorem dX7_text_34 : decode cX7_text 34 = .ok (.getfield 82, 3) := by decide +kernel
theorem dX7_text_37 : decode cX7_text 37 = .ok (.isub, 1) := by decide +kernel
theorem dX7_text_38 : decode cX7_text 38 = .ok (.ireturn, 1) := by decide +kernel
theorem dX7_text_39 : decode cX7_text 39 = .ok (.aload_n 0, 1) := by decide +kernel
theorem dX7_text_40 : decode cX7_text 40 = .ok (.getfield 10, 3) := by decide +kernel
theorem dX7_text_43 : decode cX7_text 43 = .ok (.aload_n 0, 1) := by decide +kernel
theorem dX7_text_44 : decode cX7_text 44 = .ok (.getfield 30, 3) := by decide +kernel
theorem dX7_text_47 : decode cX7_text 47 = .ok (.getfield 85, 3) := by decide +kernel
theorem dX7_text_50 : decode cX7_text 50 = .ok (.invokevirtual 88, 3) := by decide +kernel
theorem dX7_text_53 : decode cX7_text 53 = .ok (.aload_n 0, 1) := by decide +kernel
theorem dX7_text_54 : decode cX7_text 54 = .ok (.getfield 37, 3) := by decide +kernel
theorem dX7_text_57 : decode cX7_text 57 = .ok (.iconst 0, 1) := by decide +kernel
theorem dX7_text_58 : decode cX7_text 58 = .ok (.putfield 92, 3) := by decide +kernel
theorem dX7_text_61 : decode cX7_text 61 = .ok (.iconst 0, 1) := by decide +kernel
theorem dX7_text_62 : decode cX7_text 62 = .ok (.istore_n 1, 1) := by decide +kernel
theorem dX7_text_63 : decode cX7_text 63 = .ok (.iload_n 1, 1) := by decide +kernel
theorem dX7_text_64 : decode cX7_text 64 = .ok (.iconst 2, 1) := by decide +kernel
theorem dX7_text_65 : decode cX7_text 65 = .ok (.if_icmp .ge 16, 3) := by decide +kernel
theorem dX7_text_68 : decode cX7_text 68 = .ok (.aload_n 0, 1) := by decide +kernel
theorem dX7_text_69 : decode cX7_text 69 = .ok (.getfield 23, 3) := by decide +kernel
theorem dX7_text_72 : decode cX7_text 72 = .ok (.iload_n 1, 1) := by decide +kernel
theorem dX7_text_73 : decode cX7_text 73 = .ok (.iconst 0, 1) := by decide +kernel
theorem dX7_text_74 : decode cX7_text 74 = .ok (.bastore, 1) := by decide +kernel
theorem dX7_text_75 : decode cX7_text 75 = .ok (.iinc 1 1, 3) := by decide +kernel
theorem dX7_text_78 : decode cX7_text 78 = .ok (.goto (-15), 3) := by decide +kernel
theorem dX7_text_81 : decode cX7_text 81 = .ok (.aload_n 0, 1) := by decide +kernel
theorem dX7_text_82 : decode cX7_text 82 = .ok (.getfield 30, 3) := by decide +kernel
theorem dX7_text_85 : decode cX7_text 85 = .ok (.getfield 95, 3) := by decide +kernel
theorem dX7_text_88 : decode cX7_text 88 = .ok (.ireturn, 1) := by decide +kernel
theorem dX7_fault_0 : decode cX7_fault 0 = .ok (.aload_n 0, 1) := by decide +kernel
theorem dX7_fault_1 : decode cX7_fault 1 = .ok (.getfield 30, 3) := by decide +kernel
theorem dX7_fault_4 : decode cX7_fault 4 = .ok (.getfield 79, 3) := by decide +kernel
theorem dX7_fault_7 : decode cX7_fault 7 = .ok (.ireturn, 1) := by decide +kernel
theorem dX7_rule_0 : decode cX7_rule 0 = .ok (.iload_n 1, 1) := by decide +kernel
theorem dX7_rule_1 : decode cX7_rule 1 = .ok (.tableswitch 119 0 6 #[43, 51, 59, 67, 75, 83, 101], 43) := by decide +kernel
theorem dX7_rule_44 : decode cX7_rule 44 = .ok (.aload_n 0, 1) := by decide +kernel
theorem dX7_rule_45 : decode cX7_rule 45 = .ok (.getfield 10, 3) := by decide +kernel
theorem dX7_rule_48 : decode cX7_rule 48 = .ok (.getfield 98, 3) := by decide +kernel
theorem dX7_rule_51 : decode cX7_rule 51 = .ok (.ireturn, 1) := by decide +kernel
theorem dX7_rule_52 : decode cX7_rule 52 = .ok (.aload_n 0, 1) := by decide +kernel
theorem dX7_rule_53 : decode cX7_rule 53 = .ok (.getfield 10, 3) := by decide +kernel
theorem dX7_rule_56 : decode cX7_rule 56 = .ok (.getfield 101, 3) := by decide +kernel
theorem dX7_rule_59 : decode cX7_rule 59 = .ok (.ireturn, 1) := by decide +kernel
theorem dX7_rule_60 : decode cX7_rule 60 = .ok (.aload_n 0, 1) := by decide +kernel
theorem dX7_rule_61 : decode cX7_rule 61 = .ok (.getfield 10, 3) := by decide +kernel
theorem dX7_rule_64 : decode cX7_rule 64 = .ok (.getfield 104, 3) := by decide +kernel
theorem dX7_rule_67 : decode cX7_rule 67 = .ok (.ireturn, 1) := by decide +kernel
theorem dX7_rule_68 : decode cX7_rule 68 = .ok (.aload_n 0, 1) := by decide +kernel
theorem dX7_rule_69 : decode cX7_rule 69 = .ok (.getfield 10, 3) := by decide +kernel
theorem dX7_rule_72 : decode cX7_rule 72 = .ok (.getfield 107, 3) := by decide +kernel
theorem dX7_rule_75 : decode cX7_rule 75 = .ok (.ireturn, 1) := by decide +kernel
theorem dX7_rule_76 : decode cX7_rule 76 = .ok (.aload_n 0, 1) := by decide +kernel
theorem dX7_rule_77 : decode cX7_rule 77 = .ok (.getfield 10, 3) := by decide +kernel
theorem dX7_rule_80 : decode cX7_rule 80 = .ok (.getfield 110, 3) := by decide +kernel
theorem dX7_rule_83 : decode cX7_rule 83 = .ok (.ireturn, 1) := by decide +kernel
theorem dX7_rule_84 : decode cX7_rule 84 = .ok (.aload_n 0, 1) := by decide +kernel
theorem dX7_rule_85 : decode cX7_rule 85 = .ok (.getfield 10, 3) := by decide +kernel
theorem dX7_rule_88 : decode cX7_rule 88 = .ok (.aload_n 0, 1) := by decide +kernel
theorem dX7_rule_89 : decode cX7_rule 89 = .ok (.getfield 10, 3) := by decide +kernel
theorem dX7_rule_92 : decode cX7_rule 92 = .ok (.getfield 110, 3) := by decide +kernel
theorem dX7_rule_95 : decode cX7_rule 95 = .ok (.invokevirtual 113, 3) := by decide +kernel
theorem dX7_rule_98 : decode cX7_rule 98 = .ok (.invokestatic 117, 3) := by decide +kernel
theorem dX7_rule_101 : decode cX7_rule 101 = .ok (.ireturn, 1) := by decide +kernel
theorem dX7_rule_102 : decode cX7_rule 102 = .ok (.aload_n 0, 1) := by decide +kernel
theorem dX7_rule_103 : decode cX7_rule 103 = .ok (.getfield 10, 3) := by decide +kernel
theorem dX7_rule_106 : decode cX7_rule 106 = .ok (.aload_n 0, 1) := by decide +kernel
theorem dX7_rule_107 : decode cX7_rule 107 = .ok (.getfield 10, 3) := by decide +kernel
theorem dX7_rule_110 : decode cX7_rule 110 = .ok (.getfield 110, 3) := by decide +kernel
theorem dX7_rule_113 : decode cX7_rule 113 = .ok (.invokevirtual 121, 3) := by decide +kernel
theorem dX7_rule_116 : decode cX7_rule 116 = .ok (.invokestatic 117, 3) := by decide +kernel
theorem dX7_rule_119 : decode cX7_rule 119 = .ok (.ireturn, 1) := by decide +kernel
theorem dX7_rule_120 : decode cX7_rule 120 = .ok (.iconst (-1), 1) := by decide +kernel
theorem dX7_rule_121 : decode cX7_rule 121 = .ok (.ireturn, 1) := by decide +kernel
theorem dX7_thing_0 : decode cX7_thing 0 = .ok (.aload_n 0, 1) := by decide +kernel
theorem dX7_thing_1 : decode cX7_thing 1 = .ok (.getfield 10, 3) := by decide +kernel
theorem dX7_thing_4 : decode cX7_thing 4 = .ok (.iload_n 1, 1) := by decide +kernel
theorem dX7_thing_5 : decode cX7_thing 5 = .ok (.invokevirtual 124, 3) := by decide +kernel
theorem dX7_thing_8 : decode cX7_thing 8 = .ok (.ifCond .ne 5, 3) := by decide +kernel
theorem dX7_thing_11 : decode cX7_thing 11 = .ok (.iconst (-1), 1) := by decide +kernel
theorem dX7_thing_12 : decode cX7_thing 12 = .ok (.ireturn, 1) := by decide +kernel
theorem dX7_thing_13 : decode cX7_thing 13 = .ok (.iload_n 2, 1) := by decide +kernel
theorem dX7_thing_14 : decode cX7_thing 14 = .ok (.tableswitch 95 0 4 #[34, 44, 54, 64, 79], 34) := by decide +kernel
theorem dX7_thing_48 : decode cX7_thing 48 = .ok (.aload_n 0, 1) := by decide +kernel
theorem dX7_thing_49 : decode cX7_thing 49 = .ok (.getfield 10, 3) := by decide +kernel
theorem dX7_thing_52 : decode cX7_thing 52 = .ok (.getfield 127, 3) := by decide +kernel
theorem dX7_thing_55 : decode cX7_thing 55 = .ok (.iload_n 1, 1) := by decide +kernel
theorem dX7_thing_56 : decode cX7_thing 56 = .ok (.iaload, 1) := by decide +kernel
theorem dX7_thing_57 : decode cX7_thing 57 = .ok (.ireturn, 1) := by decide +kernel
theorem dX7_thing_58 : decode cX7_thing 58 = .ok (.aload_n 0, 1) := by decide +kernel
theorem dX7_thing_59 : decode cX7_thing 59 = .ok (.getfield 10, 3) := by decide +kernel
theorem dX7_thing_62 : decode cX7_thing 62 = .ok (.getfield 131, 3) := by decide +kernel
theorem dX7_thing_65 : decode cX7_thing 65 = .ok (.iload_n 1, 1) := by decide +kernel
theorem dX7_thing_66 : decode cX7_thing 66 = .ok (.iaload, 1) := by decide +kernel
theorem dX7_thing_67 : decode cX7_thing 67 = .ok (.ireturn, 1) := by decide +kernel
theorem dX7_thing_68 : decode cX7_thing 68 = .ok (.aload_n 0, 1) := by decide +kernel
theorem dX7_thing_69 : decode cX7_thing 69 = .ok (.getfield 10, 3) := by decide +kernel
theorem dX7_thing_72 : decode cX7_thing 72 = .ok (.getfield 134, 3) := by decide +kernel
theorem dX7_thing_75 : decode cX7_thing 75 = .ok (.iload_n 1, 1) := by decide +kernel
theorem dX7_thing_76 : decode cX7_thing 76 = .ok (.iaload, 1) := by decide +kernel
theorem dX7_thing_77 : decode cX7_thing 77 = .ok (.ireturn, 1) := by decide +kernel
theorem dX7_thing_78 : decode cX7_thing 78 = .ok (.aload_n 0, 1) := by decide +kernel
theorem dX7_thing_79 : decode cX7_thing 79 = .ok (.getfield 10, 3) := by decide +kernel
theorem dX7_thing_82 : decode cX7_thing 82 = .ok (.getfield 110, 3) := by decide +kernel
theorem dX7_thing_85 : decode cX7_thing 85 = .ok (.iload_n 1, 1) := by decide +kernel
theorem dX7_thing_86 : decode cX7_thing 86 = .ok (.invokestatic 137, 3) := by decide +kernel
theorem dX7_thing_89 : decode cX7_thing 89 = .ok (.invokestatic 117, 3) := by decide +kernel
theorem dX7_thing_92 : decode cX7_thing 92 = .ok (.ireturn, 1) := by decide +kernel
theorem dX7_thing_93 : decode cX7_thing 93 = .ok (.aload_n 0, 1) := by decide +kernel
theorem dX7_thing_94 : decode cX7_thing 94 = .ok (.getfield 10, 3) := by decide +kernel
theorem dX7_thing_97 : decode cX7_thing 97 = .ok (.iload_n 1, 1) := by decide +kernel
theorem dX7_thing_98 : decode cX7_thing 98 = .ok (.aload_n 0, 1) := by decide +kernel
theorem dX7_thing_99 : decode cX7_thing 99 = .ok (.getfield 10, 3) := by decide +kernel
theorem dX7_thing_102 : decode cX7_thing 102 = .ok (.getfield 110, 3) := by decide +kernel
theorem dX7_thing_105 : decode cX7_thing 105 = .ok (.invokevirtual 141, 3) := by decide +kernel
theorem dX7_thing_108 : decode cX7_thing 108 = .ok (.ireturn, 1) := by decide +kernel
theorem dX7_thing_109 : decode cX7_thing 109 = .ok (.iconst (-1), 1) := by decide +kernel
theorem dX7_thing_110 : decode cX7_thing 110 = .ok (.ireturn, 1) := by decide +kernel
theorem dX7_guest_0 : decode cX7_guest 0 = .ok (.aload_n 0, 1) := by decide +kernel
theorem dX7_guest_1 : decode cX7_guest 1 = .ok (.getfield 10, 3) := by decide +kernel
theorem dX7_guest_4 : decode cX7_guest 4 = .ok (.iload_n 1, 1) := by decide +kernel
theorem dX7_guest_5 : decode cX7_guest 5 = .ok (.invokevirtual 145, 3) := by decide +kernel
theorem dX7_guest_8 : decode cX7_guest 8 = .ok (.ifCond .eq 10, 3) := by decide +kernel
theorem dX7_guest_11 : decode cX7_guest 11 = .ok (.iload_n 2, 1) := by decide +kernel
theorem dX7_guest_12 : decode cX7_guest 12 = .ok (.invokestatic 148, 3) := by decide +kernel
theorem dX7_guest_15 : decode cX7_guest 15 = .ok (.ifCond .ne 5, 3) := by decide +kernel
theorem dX7_guest_18 : decode cX7_guest 18 = .ok (.iconst (-1), 1) := by decide +kernel
theorem dX7_guest_19 : decode cX7_guest 19 = .ok (.ireturn, 1) := by decide +kernel
theorem dX7_guest_20 : decode cX7_guest 20 = .ok (.iload_n 2, 1) := by decide +kernel
theorem dX7_guest_21 : decode cX7_guest 21 = .ok (.ifCond .ne 15, 3) := by decide +kernel
theorem dX7_guest_24 : decode cX7_guest 24 = .ok (.aload_n 0, 1) := by decide +kernel
theorem dX7_guest_25 : decode cX7_guest 25 = .ok (.getfield 10, 3) := by decide +kernel
theorem dX7_guest_28 : decode cX7_guest 28 = .ok (.getfield 151, 3) := by decide +kernel
theorem dX7_guest_31 : decode cX7_guest 31 = .ok (.iload_n 1, 1) := by decide +kernel
theorem dX7_guest_32 : decode cX7_guest 32 = .ok (.iaload, 1) := by decide +kernel
theorem dX7_guest_33 : decode cX7_guest 33 = .ok (.goto 12, 3) := by decide +kernel
theorem dX7_guest_36 : decode cX7_guest 36 = .ok (.aload_n 0, 1) := by decide +kernel
theorem dX7_guest_37 : decode cX7_guest 37 = .ok (.getfield 10, 3) := by decide +kernel
theorem dX7_guest_40 : decode cX7_guest 40 = .ok (.getfield 154, 3) := by decide +kernel
theorem dX7_guest_43 : decode cX7_guest 43 = .ok (.iload_n 1, 1) := by decide +kernel
theorem dX7_guest_44 : decode cX7_guest 44 = .ok (.iaload, 1) := by decide +kernel
theorem dX7_guest_45 : decode cX7_guest 45 = .ok (.ireturn, 1) := by decide +kernel
theorem dX7_ban_0 : decode cX7_ban 0 = .ok (.aload_n 0, 1) := by decide +kernel
theorem dX7_ban_1 : decode cX7_ban 1 = .ok (.getfield 10, 3) := by decide +kernel
theorem dX7_ban_4 : decode cX7_ban 4 = .ok (.iload_n 1, 1) := by decide +kernel
theorem dX7_ban_5 : decode cX7_ban 5 = .ok (.invokevirtual 157, 3) := by decide +kernel
theorem dX7_ban_8 : decode cX7_ban 8 = .ok (.ifCond .ne 5, 3) := by decide +kernel
theorem dX7_ban_11 : decode cX7_ban 11 = .ok (.iconst (-1), 1) := by decide +kernel
theorem dX7_ban_12 : decode cX7_ban 12 = .ok (.ireturn, 1) := by decide +kernel
theorem dX7_ban_13 : decode cX7_ban 13 = .ok (.iload_n 2, 1) := by decide +kernel
theorem dX7_ban_14 : decode cX7_ban 14 = .ok (.tableswitch 65 0 2 #[26, 36, 46], 26) := by decide +kernel
theorem dX7_ban_40 : decode cX7_ban 40 = .ok (.aload_n 0, 1) := by decide +kernel
theorem dX7_ban_41 : decode cX7_ban 41 = .ok (.getfield 10, 3) := by decide +kernel
theorem dX7_ban_44 : decode cX7_ban 44 = .ok (.getfield 160, 3) := by decide +kernel
theorem dX7_ban_47 : decode cX7_ban 47 = .ok (.iload_n 1, 1) := by decide +kernel
theorem dX7_ban_48 : decode cX7_ban 48 = .ok (.iaload, 1) := by decide +kernel
theorem dX7_ban_49 : decode cX7_ban 49 = .ok (.ireturn, 1) := by decide +kernel
theorem dX7_ban_50 : decode cX7_ban 50 = .ok (.aload_n 0, 1) := by decide +kernel
theorem dX7_ban_51 : decode cX7_ban 51 = .ok (.getfield 10, 3) := by decide +kernel
theorem dX7_ban_54 : decode cX7_ban 54 = .ok (.getfield 163, 3) := by decide +kernel
theorem dX7_ban_57 : decode cX7_ban 57 = .ok (.iload_n 1, 1) := by decide +kernel
theorem dX7_ban_58 : decode cX7_ban 58 = .ok (.iaload, 1) := by decide +kernel
theorem dX7_ban_59 : decode cX7_ban 59 = .ok (.ireturn, 1) := by decide +kernel
theorem dX7_ban_60 : decode cX7_ban 60 = .ok (.aload_n 0, 1) := by decide +kernel
theorem dX7_ban_61 : decode cX7_ban 61 = .ok (.getfield 10, 3) := by decide +kernel
theorem dX7_ban_64 : decode cX7_ban 64 = .ok (.iload_n 1, 1) := by decide +kernel
theorem dX7_ban_65 : decode cX7_ban 65 = .ok (.aload_n 0, 1) := by decide +kernel
theorem dX7_ban_66 : decode cX7_ban 66 = .ok (.getfield 10, 3) := by decide +kernel
theorem dX7_ban_69 : decode cX7_ban 69 = .ok (.getfield 110, 3) := by decide +kernel
theorem dX7_ban_72 : decode cX7_ban 72 = .ok (.invokevirtual 166, 3) := by decide +kernel
theorem dX7_ban_75 : decode cX7_ban 75 = .ok (.invokestatic 117, 3) := by decide +kernel
theorem dX7_ban_78 : decode cX7_ban 78 = .ok (.ireturn, 1) := by decide +kernel
theorem dX7_ban_79 : decode cX7_ban 79 = .ok (.iconst (-1), 1) := by decide +kernel
theorem dX7_ban_80 : decode cX7_ban 80 = .ok (.ireturn, 1) := by decide +kernel
theorem dX7_alter_0 : decode cX7_alter 0 = .ok (.aload_n 0, 1) := by decide +kernel
theorem dX7_alter_1 : decode cX7_alter 1 = .ok (.iload_n 1, 1) := by decide +kernel
theorem dX7_alter_2 : decode cX7_alter 2 = .ok (.iload_n 2, 1) := by decide +kernel
theorem dX7_alter_3 : decode cX7_alter 3 = .ok (.invokevirtual 169, 3) := by decide +kernel
theorem dX7_alter_6 : decode cX7_alter 6 = .ok (.istore 4, 2) := by decide +kernel
theorem dX7_alter_8 : decode cX7_alter 8 = .ok (.iload 4, 2) := by decide +kernel
theorem dX7_alter_10 : decode cX7_alter 10 = .ok (.iconst (-1), 1) := by decide +kernel
theorem dX7_alter_11 : decode cX7_alter 11 = .ok (.if_icmp .eq 20, 3) := by decide +kernel
theorem dX7_alter_14 : decode cX7_alter 14 = .ok (.iload_n 2, 1) := by decide +kernel
theorem dX7_alter_15 : decode cX7_alter 15 = .ok (.iconst 3, 1) := by decide +kernel
theorem dX7_alter_16 : decode cX7_alter 16 = .ok (.if_icmp .gt 15, 3) := by decide +kernel
theorem dX7_alter_19 : decode cX7_alter 19 = .ok (.aload_n 0, 1) := by decide +kernel
theorem dX7_alter_20 : decode cX7_alter 20 = .ok (.getfield 10, 3) := by decide +kernel
theorem dX7_alter_23 : decode cX7_alter 23 = .ok (.iload_n 2, 1) := by decide +kernel
theorem dX7_alter_24 : decode cX7_alter 24 = .ok (.iload_n 3, 1) := by decide +kernel
theorem dX7_alter_25 : decode cX7_alter 25 = .ok (.invokevirtual 172, 3) := by decide +kernel
theorem dX7_alter_28 : decode cX7_alter 28 = .ok (.ifCond .ne 5, 3) := by decide +kernel
theorem dX7_alter_31 : decode cX7_alter 31 = .ok (.iconst (-1), 1) := by decide +kernel
theorem dX7_alter_32 : decode cX7_alter 32 = .ok (.ireturn, 1) := by decide +kernel
theorem dX7_alter_33 : decode cX7_alter 33 = .ok (.iload_n 2, 1) := by decide +kernel
theorem dX7_alter_34 : decode cX7_alter 34 = .ok (.tableswitch 65 0 2 #[26, 39, 52], 26) := by decide +kernel
theorem dX7_alter_60 : decode cX7_alter 60 = .ok (.aload_n 0, 1) := by decide +kernel
theorem dX7_alter_61 : decode cX7_alter 61 = .ok (.getfield 10, 3) := by decide +kernel
theorem dX7_alter_64 : decode cX7_alter 64 = .ok (.getfield 127, 3) := by decide +kernel
theorem dX7_alter_67 : decode cX7_alter 67 = .ok (.iload_n 1, 1) := by decide +kernel
theorem dX7_alter_68 : decode cX7_alter 68 = .ok (.iload_n 3, 1) := by decide +kernel
theorem dX7_alter_69 : decode cX7_alter 69 = .ok (.iastore, 1) := by decide +kernel
theorem dX7_alter_70 : decode cX7_alter 70 = .ok (.goto 63, 3) := by decide +kernel
theorem dX7_alter_73 : decode cX7_alter 73 = .ok (.aload_n 0, 1) := by decide +kernel
theorem dX7_alter_74 : decode cX7_alter 74 = .ok (.getfield 10, 3) := by decide +kernel
theorem dX7_alter_77 : decode cX7_alter 77 = .ok (.getfield 131, 3) := by decide +kernel
theorem dX7_alter_80 : decode cX7_alter 80 = .ok (.iload_n 1, 1) := by decide +kernel
theorem dX7_alter_81 : decode cX7_alter 81 = .ok (.iload_n 3, 1) := by decide +kernel
theorem dX7_alter_82 : decode cX7_alter 82 = .ok (.iastore, 1) := by decide +kernel
theorem dX7_alter_83 : decode cX7_alter 83 = .ok (.goto 50, 3) := by decide +kernel
theorem dX7_alter_86 : decode cX7_alter 86 = .ok (.aload_n 0, 1) := by decide +kernel
theorem dX7_alter_87 : decode cX7_alter 87 = .ok (.getfield 10, 3) := by decide +kernel
theorem dX7_alter_90 : decode cX7_alter 90 = .ok (.getfield 134, 3) := by decide +kernel
theorem dX7_alter_93 : decode cX7_alter 93 = .ok (.iload_n 1, 1) := by decide +kernel
theorem dX7_alter_94 : decode cX7_alter 94 = .ok (.iload_n 3, 1) := by decide +kernel
theorem dX7_alter_95 : decode cX7_alter 95 = .ok (.iastore, 1) := by decide +kernel
theorem dX7_alter_96 : decode cX7_alter 96 = .ok (.goto 37, 3) := by decide +kernel
theorem dX7_alter_99 : decode cX7_alter 99 = .ok (.aload_n 0, 1) := by decide +kernel
theorem dX7_alter_100 : decode cX7_alter 100 = .ok (.getfield 10, 3) := by decide +kernel
theorem dX7_alter_103 : decode cX7_alter 103 = .ok (.iload_n 3, 1) := by decide +kernel
theorem dX7_alter_104 : decode cX7_alter 104 = .ok (.iload 4, 2) := by decide +kernel
theorem dX7_alter_106 : decode cX7_alter 106 = .ok (.if_icmp .ne 13, 3) := by decide +kernel
theorem dX7_alter_109 : decode cX7_alter 109 = .ok (.aload_n 0, 1) := by decide +kernel
theorem dX7_alter_110 : decode cX7_alter 110 = .ok (.getfield 10, 3) := by decide +kernel
theorem dX7_alter_113 : decode cX7_alter 113 = .ok (.getfield 110, 3) := by decide +kernel
theorem dX7_alter_116 : decode cX7_alter 116 = .ok (.goto 14, 3) := by decide +kernel
theorem dX7_alter_119 : decode cX7_alter 119 = .ok (.aload_n 0, 1) := by decide +kernel
theorem dX7_alter_120 : decode cX7_alter 120 = .ok (.getfield 10, 3) := by decide +kernel
theorem dX7_alter_123 : decode cX7_alter 123 = .ok (.getfield 110, 3) := by decide +kernel
theorem dX7_alter_126 : decode cX7_alter 126 = .ok (.iload_n 1, 1) := by decide +kernel
theorem dX7_alter_127 : decode cX7_alter 127 = .ok (.invokestatic 175, 3) := by decide +kernel
theorem dX7_alter_130 : decode cX7_alter 130 = .ok (.putfield 110, 3) := by decide +kernel
theorem dX7_alter_133 : decode cX7_alter 133 = .ok (.iload 4, 2) := by decide +kernel
theorem dX7_alter_135 : decode cX7_alter 135 = .ok (.ireturn, 1) := by decide +kernel
theorem dX7_hire_0 : decode cX7_hire 0 = .ok (.aload_n 0, 1) := by decide +kernel
theorem dX7_hire_1 : decode cX7_hire 1 = .ok (.iload_n 1, 1) := by decide +kernel
theorem dX7_hire_2 : decode cX7_hire 2 = .ok (.iload_n 2, 1) := by decide +kernel
theorem dX7_hire_3 : decode cX7_hire 3 = .ok (.invokevirtual 178, 3) := by decide +kernel
theorem dX7_hire_6 : decode cX7_hire 6 = .ok (.istore 4, 2) := by decide +kernel
theorem dX7_hire_8 : decode cX7_hire 8 = .ok (.iload 4, 2) := by decide +kernel
theorem dX7_hire_10 : decode cX7_hire 10 = .ok (.iconst (-1), 1) := by decide +kernel
theorem dX7_hire_11 : decode cX7_hire 11 = .ok (.if_icmp .ne 5, 3) := by decide +kernel
theorem dX7_hire_14 : decode cX7_hire 14 = .ok (.iconst (-1), 1) := by decide +kernel
theorem dX7_hire_15 : decode cX7_hire 15 = .ok (.ireturn, 1) := by decide +kernel
theorem dX7_hire_16 : decode cX7_hire 16 = .ok (.iload_n 2, 1) := by decide +kernel
theorem dX7_hire_17 : decode cX7_hire 17 = .ok (.ifCond .ne 29, 3) := by decide +kernel
theorem dX7_hire_20 : decode cX7_hire 20 = .ok (.aload_n 0, 1) := by decide +kernel
theorem dX7_hire_21 : decode cX7_hire 21 = .ok (.getfield 10, 3) := by decide +kernel
theorem dX7_hire_24 : decode cX7_hire 24 = .ok (.iload_n 3, 1) := by decide +kernel
theorem dX7_hire_25 : decode cX7_hire 25 = .ok (.invokevirtual 124, 3) := by decide +kernel
theorem dX7_hire_28 : decode cX7_hire 28 = .ok (.ifCond .ne 5, 3) := by decide +kernel
theorem dX7_hire_31 : decode cX7_hire 31 = .ok (.iconst (-1), 1) := by decide +kernel
theorem dX7_hire_32 : decode cX7_hire 32 = .ok (.ireturn, 1) := by decide +kernel
theorem dX7_hire_33 : decode cX7_hire 33 = .ok (.aload_n 0, 1) := by decide +kernel
theorem dX7_hire_34 : decode cX7_hire 34 = .ok (.getfield 10, 3) := by decide +kernel
theorem dX7_hire_37 : decode cX7_hire 37 = .ok (.getfield 151, 3) := by decide +kernel
theorem dX7_hire_40 : decode cX7_hire 40 = .ok (.iload_n 1, 1) := by decide +kernel
theorem dX7_hire_41 : decode cX7_hire 41 = .ok (.iload_n 3, 1) := by decide +kernel
theorem dX7_hire_42 : decode cX7_hire 42 = .ok (.iastore, 1) := by decide +kernel
theorem dX7_hire_43 : decode cX7_hire 43 = .ok (.iload 4, 2) := by decide +kernel
theorem dX7_hire_45 : decode cX7_hire 45 = .ok (.ireturn, 1) := by decide +kernel
theorem dX7_hire_46 : decode cX7_hire 46 = .ok (.iload_n 3, 1) := by decide +kernel
theorem dX7_hire_47 : decode cX7_hire 47 = .ok (.ifCond .lt 9, 3) := by decide +kernel
theorem dX7_hire_50 : decode cX7_hire 50 = .ok (.iload_n 3, 1) := by decide +kernel
theorem dX7_hire_51 : decode cX7_hire 51 = .ok (.bipush 9, 2) := by decide +kernel
theorem dX7_hire_53 : decode cX7_hire 53 = .ok (.if_icmp .le 5, 3) := by decide +kernel
theorem dX7_hire_56 : decode cX7_hire 56 = .ok (.iconst (-1), 1) := by decide +kernel
theorem dX7_hire_57 : decode cX7_hire 57 = .ok (.ireturn, 1) := by decide +kernel
theorem dX7_hire_58 : decode cX7_hire 58 = .ok (.aload_n 0, 1) := by decide +kernel
theorem dX7_hire_59 : decode cX7_hire 59 = .ok (.getfield 10, 3) := by decide +kernel
theorem dX7_hire_62 : decode cX7_hire 62 = .ok (.getfield 154, 3) := by decide +kernel
theorem dX7_hire_65 : decode cX7_hire 65 = .ok (.iload_n 1, 1) := by decide +kernel
theorem dX7_hire_66 : decode cX7_hire 66 = .ok (.iload_n 3, 1) := by decide +kernel
theorem dX7_hire_67 : decode cX7_hire 67 = .ok (.iastore, 1) := by decide +kernel
theorem dX7_hire_68 : decode cX7_hire 68 = .ok (.iload 4, 2) := by decide +kernel
theorem dX7_hire_70 : decode cX7_hire 70 = .ok (.ireturn, 1) := by decide +kernel
theorem dX7_forbid_0 : decode cX7_forbid 0 = .ok (.aload_n 0, 1) := by decide +kernel
theorem dX7_forbid_1 : decode cX7_forbid 1 = .ok (.getfield 10, 3) := by decide +kernel
theorem dX7_forbid_4 : decode cX7_forbid 4 = .ok (.iload_n 1, 1) := by decide +kernel
theorem dX7_forbid_5 : decode cX7_forbid 5 = .ok (.invokevirtual 124, 3) := by decide +kernel
theorem dX7_forbid_8 : decode cX7_forbid 8 = .ok (.ifCond .eq 19, 3) := by decide +kernel
theorem dX7_forbid_11 : decode cX7_forbid 11 = .ok (.aload_n 0, 1) := by decide +kernel
theorem dX7_forbid_12 : decode cX7_forbid 12 = .ok (.getfield 10, 3) := by decide +kernel
theorem dX7_forbid_15 : decode cX7_forbid 15 = .ok (.iload_n 2, 1) := by decide +kernel
theorem dX7_forbid_16 : decode cX7_forbid 16 = .ok (.invokevirtual 124, 3) := by decide +kernel
theorem dX7_forbid_19 : decode cX7_forbid 19 = .ok (.ifCond .eq 8, 3) := by decide +kernel
theorem dX7_forbid_22 : decode cX7_forbid 22 = .ok (.iload_n 1, 1) := by decide +kernel
theorem dX7_forbid_23 : decode cX7_forbid 23 = .ok (.iload_n 2, 1) := by decide +kernel
theorem dX7_forbid_24 : decode cX7_forbid 24 = .ok (.if_icmp .ne 5, 3) := by decide +kernel
theorem dX7_forbid_27 : decode cX7_forbid 27 = .ok (.iconst (-1), 1) := by decide +kernel
theorem dX7_forbid_28 : decode cX7_forbid 28 = .ok (.ireturn, 1) := by decide +kernel
theorem dX7_forbid_29 : decode cX7_forbid 29 = .ok (.aload_n 0, 1) := by decide +kernel
theorem dX7_forbid_30 : decode cX7_forbid 30 = .ok (.getfield 10, 3) := by decide +kernel
theorem dX7_forbid_33 : decode cX7_forbid 33 = .ok (.getfield 104, 3) := by decide +kernel
theorem dX7_forbid_36 : decode cX7_forbid 36 = .ok (.iconst 4, 1) := by decide +kernel
theorem dX7_forbid_37 : decode cX7_forbid 37 = .ok (.if_icmp .lt 6, 3) := by decide +kernel
theorem dX7_forbid_40 : decode cX7_forbid 40 = .ok (.bipush (-3), 2) := by decide +kernel
theorem dX7_forbid_42 : decode cX7_forbid 42 = .ok (.ireturn, 1) := by decide +kernel
theorem dX7_forbid_43 : decode cX7_forbid 43 = .ok (.aload_n 0, 1) := by decide +kernel
theorem dX7_forbid_44 : decode cX7_forbid 44 = .ok (.getfield 10, 3) := by decide +kernel
theorem dX7_forbid_47 : decode cX7_forbid 47 = .ok (.iload_n 1, 1) := by decide +kernel
theorem dX7_forbid_48 : decode cX7_forbid 48 = .ok (.iload_n 2, 1) := by decide +kernel
theorem dX7_forbid_49 : decode cX7_forbid 49 = .ok (.invokevirtual 181, 3) := by decide +kernel
theorem dX7_forbid_52 : decode cX7_forbid 52 = .ok (.aload_n 0, 1) := by decide +kernel
theorem dX7_forbid_53 : decode cX7_forbid 53 = .ok (.getfield 10, 3) := by decide +kernel
theorem dX7_forbid_56 : decode cX7_forbid 56 = .ok (.getfield 104, 3) := by decide +kernel
theorem dX7_forbid_59 : decode cX7_forbid 59 = .ok (.ireturn, 1) := by decide +kernel
theorem dX7_lift_0 : decode cX7_lift 0 = .ok (.aload_n 0, 1) := by decide +kernel
theorem dX7_lift_1 : decode cX7_lift 1 = .ok (.getfield 10, 3) := by decide +kernel
theorem dX7_lift_4 : decode cX7_lift 4 = .ok (.iload_n 1, 1) := by decide +kernel
theorem dX7_lift_5 : decode cX7_lift 5 = .ok (.invokevirtual 157, 3) := by decide +kernel
theorem dX7_lift_8 : decode cX7_lift 8 = .ok (.ifCond .ne 5, 3) := by decide +kernel
theorem dX7_lift_11 : decode cX7_lift 11 = .ok (.iconst (-1), 1) := by decide +kernel
theorem dX7_lift_12 : decode cX7_lift 12 = .ok (.ireturn, 1) := by decide +kernel
theorem dX7_lift_13 : decode cX7_lift 13 = .ok (.aload_n 0, 1) := by decide +kernel
theorem dX7_lift_14 : decode cX7_lift 14 = .ok (.getfield 10, 3) := by decide +kernel
theorem dX7_lift_17 : decode cX7_lift 17 = .ok (.iload_n 1, 1) := by decide +kernel
theorem dX7_lift_18 : decode cX7_lift 18 = .ok (.invokevirtual 185, 3) := by decide +kernel
theorem dX7_lift_21 : decode cX7_lift 21 = .ok (.aload_n 0, 1) := by decide +kernel
theorem dX7_lift_22 : decode cX7_lift 22 = .ok (.getfield 10, 3) := by decide +kernel
theorem dX7_lift_25 : decode cX7_lift 25 = .ok (.getfield 104, 3) := by decide +kernel
theorem dX7_lift_28 : decode cX7_lift 28 = .ok (.ireturn, 1) := by decide +kernel
theorem dX7_undo_0 : decode cX7_undo 0 = .ok (.aload_n 0, 1) := by decide +kernel
theorem dX7_undo_1 : decode cX7_undo 1 = .ok (.getfield 10, 3) := by decide +kernel
theorem dX7_undo_4 : decode cX7_undo 4 = .ok (.iload_n 1, 1) := by decide +kernel
theorem dX7_undo_5 : decode cX7_undo 5 = .ok (.invokevirtual 145, 3) := by decide +kernel
theorem dX7_undo_8 : decode cX7_undo 8 = .ok (.ifCond .ne 5, 3) := by decide +kernel
theorem dX7_undo_11 : decode cX7_undo 11 = .ok (.iconst (-1), 1) := by decide +kernel
theorem dX7_undo_12 : decode cX7_undo 12 = .ok (.ireturn, 1) := by decide +kernel
theorem dX7_undo_13 : decode cX7_undo 13 = .ok (.aload_n 0, 1) := by decide +kernel
theorem dX7_undo_14 : decode cX7_undo 14 = .ok (.getfield 10, 3) := by decide +kernel
theorem dX7_undo_17 : decode cX7_undo 17 = .ok (.getfield 110, 3) := by decide +kernel
theorem dX7_undo_20 : decode cX7_undo 20 = .ok (.aload_n 0, 1) := by decide +kernel
theorem dX7_undo_21 : decode cX7_undo 21 = .ok (.getfield 10, 3) := by decide +kernel
theorem dX7_undo_24 : decode cX7_undo 24 = .ok (.getfield 151, 3) := by decide +kernel
theorem dX7_undo_27 : decode cX7_undo 27 = .ok (.iload_n 1, 1) := by decide +kernel
theorem dX7_undo_28 : decode cX7_undo 28 = .ok (.iaload, 1) := by decide +kernel
theorem dX7_undo_29 : decode cX7_undo 29 = .ok (.invokestatic 175, 3) := by decide +kernel
theorem dX7_undo_32 : decode cX7_undo 32 = .ok (.istore_n 2, 1) := by decide +kernel
theorem dX7_undo_33 : decode cX7_undo 33 = .ok (.aload_n 0, 1) := by decide +kernel
theorem dX7_undo_34 : decode cX7_undo 34 = .ok (.getfield 10, 3) := by decide +kernel
theorem dX7_undo_37 : decode cX7_undo 37 = .ok (.iload_n 2, 1) := by decide +kernel
theorem dX7_undo_38 : decode cX7_undo 38 = .ok (.invokevirtual 113, 3) := by decide +kernel
theorem dX7_undo_41 : decode cX7_undo 41 = .ok (.ifCond .ne 6, 3) := by decide +kernel
theorem dX7_undo_44 : decode cX7_undo 44 = .ok (.bipush (-2), 2) := by decide +kernel
theorem dX7_undo_46 : decode cX7_undo 46 = .ok (.ireturn, 1) := by decide +kernel
theorem dX7_undo_47 : decode cX7_undo 47 = .ok (.aload_n 0, 1) := by decide +kernel
theorem dX7_undo_48 : decode cX7_undo 48 = .ok (.getfield 10, 3) := by decide +kernel
theorem dX7_undo_51 : decode cX7_undo 51 = .ok (.iload_n 2, 1) := by decide +kernel
theorem dX7_undo_52 : decode cX7_undo 52 = .ok (.putfield 110, 3) := by decide +kernel
theorem dX7_undo_55 : decode cX7_undo 55 = .ok (.iload_n 2, 1) := by decide +kernel
theorem dX7_undo_56 : decode cX7_undo 56 = .ok (.ireturn, 1) := by decide +kernel
theorem dX7_go_0 : decode cX7_go 0 = .ok (.iload_n 1, 1) := by decide +kernel
theorem dX7_go_1 : decode cX7_go 1 = .ok (.ifCond .lt 9, 3) := by decide +kernel
theorem dX7_go_4 : decode cX7_go 4 = .ok (.iload_n 1, 1) := by decide +kernel
theorem dX7_go_5 : decode cX7_go 5 = .ok (.bipush 99, 2) := by decide +kernel
theorem dX7_go_7 : decode cX7_go 7 = .ok (.if_icmp .le 5, 3) := by decide +kernel
theorem dX7_go_10 : decode cX7_go 10 = .ok (.iconst (-1), 1) := by decide +kernel
theorem dX7_go_11 : decode cX7_go 11 = .ok (.ireturn, 1) := by decide +kernel
theorem dX7_go_12 : decode cX7_go 12 = .ok (.aload_n 0, 1) := by decide +kernel
theorem dX7_go_13 : decode cX7_go 13 = .ok (.getfield 10, 3) := by decide +kernel
theorem dX7_go_16 : decode cX7_go 16 = .ok (.getfield 107, 3) := by decide +kernel
theorem dX7_go_19 : decode cX7_go 19 = .ok (.iload_n 1, 1) := by decide +kernel
theorem dX7_go_20 : decode cX7_go 20 = .ok (.iadd, 1) := by decide +kernel
theorem dX7_go_21 : decode cX7_go 21 = .ok (.sipush 999, 3) := by decide +kernel
theorem dX7_go_24 : decode cX7_go 24 = .ok (.if_icmp .le 6, 3) := by decide +kernel
theorem dX7_go_27 : decode cX7_go 27 = .ok (.bipush (-3), 2) := by decide +kernel
theorem dX7_go_29 : decode cX7_go 29 = .ok (.ireturn, 1) := by decide +kernel
theorem dX7_go_30 : decode cX7_go 30 = .ok (.aload_n 0, 1) := by decide +kernel
theorem dX7_go_31 : decode cX7_go 31 = .ok (.getfield 10, 3) := by decide +kernel
theorem dX7_go_34 : decode cX7_go 34 = .ok (.aload_n 0, 1) := by decide +kernel
theorem dX7_go_35 : decode cX7_go 35 = .ok (.getfield 10, 3) := by decide +kernel
theorem dX7_go_38 : decode cX7_go 38 = .ok (.aload_n 0, 1) := by decide +kernel
theorem dX7_go_39 : decode cX7_go 39 = .ok (.getfield 10, 3) := by decide +kernel
theorem dX7_go_42 : decode cX7_go 42 = .ok (.getfield 110, 3) := by decide +kernel
theorem dX7_go_45 : decode cX7_go 45 = .ok (.iload_n 1, 1) := by decide +kernel
theorem dX7_go_46 : decode cX7_go 46 = .ok (.invokevirtual 188, 3) := by decide +kernel
theorem dX7_go_49 : decode cX7_go 49 = .ok (.putfield 110, 3) := by decide +kernel
theorem dX7_go_52 : decode cX7_go 52 = .ok (.aload_n 0, 1) := by decide +kernel
theorem dX7_go_53 : decode cX7_go 53 = .ok (.getfield 10, 3) := by decide +kernel
theorem dX7_go_56 : decode cX7_go 56 = .ok (.dup, 1) := by decide +kernel
theorem dX7_go_57 : decode cX7_go 57 = .ok (.getfield 107, 3) := by decide +kernel
theorem dX7_go_60 : decode cX7_go 60 = .ok (.iload_n 1, 1) := by decide +kernel
theorem dX7_go_61 : decode cX7_go 61 = .ok (.iadd, 1) := by decide +kernel
theorem dX7_go_62 : decode cX7_go 62 = .ok (.putfield 107, 3) := by decide +kernel
theorem dX7_go_65 : decode cX7_go 65 = .ok (.aload_n 0, 1) := by decide +kernel
theorem dX7_go_66 : decode cX7_go 66 = .ok (.getfield 10, 3) := by decide +kernel
theorem dX7_go_69 : decode cX7_go 69 = .ok (.getfield 110, 3) := by decide +kernel
theorem dX7_go_72 : decode cX7_go 72 = .ok (.ireturn, 1) := by decide +kernel
theorem dX7_ahead_0 : decode cX7_ahead 0 = .ok (.iload_n 1, 1) := by decide +kernel
theorem dX7_ahead_1 : decode cX7_ahead 1 = .ok (.ifCond .lt 9, 3) := by decide +kernel
theorem dX7_ahead_4 : decode cX7_ahead 4 = .ok (.iload_n 1, 1) := by decide +kernel
theorem dX7_ahead_5 : decode cX7_ahead 5 = .ok (.bipush 99, 2) := by decide +kernel
theorem dX7_ahead_7 : decode cX7_ahead 7 = .ok (.if_icmp .le 5, 3) := by decide +kernel
theorem dX7_ahead_10 : decode cX7_ahead 10 = .ok (.iconst (-1), 1) := by decide +kernel
theorem dX7_ahead_11 : decode cX7_ahead 11 = .ok (.ireturn, 1) := by decide +kernel
theorem dX7_ahead_12 : decode cX7_ahead 12 = .ok (.aload_n 0, 1) := by decide +kernel
theorem dX7_ahead_13 : decode cX7_ahead 13 = .ok (.getfield 10, 3) := by decide +kernel
theorem dX7_ahead_16 : decode cX7_ahead 16 = .ok (.aload_n 0, 1) := by decide +kernel
theorem dX7_ahead_17 : decode cX7_ahead 17 = .ok (.getfield 10, 3) := by decide +kernel
theorem dX7_ahead_20 : decode cX7_ahead 20 = .ok (.getfield 110, 3) := by decide +kernel
theorem dX7_ahead_23 : decode cX7_ahead 23 = .ok (.iload_n 1, 1) := by decide +kernel
theorem dX7_ahead_24 : decode cX7_ahead 24 = .ok (.invokevirtual 188, 3) := by decide +kernel
theorem dX7_ahead_27 : decode cX7_ahead 27 = .ok (.ireturn, 1) := by decide +kernel
theorem dX7_next_0 : decode cX7_next 0 = .ok (.aload_n 0, 1) := by decide +kernel
theorem dX7_next_1 : decode cX7_next 1 = .ok (.getfield 10, 3) := by decide +kernel
theorem dX7_next_4 : decode cX7_next 4 = .ok (.iload_n 1, 1) := by decide +kernel
theorem dX7_next_5 : decode cX7_next 5 = .ok (.invokevirtual 191, 3) := by decide +kernel
theorem dX7_next_8 : decode cX7_next 8 = .ok (.ifCond .ne 5, 3) := by decide +kernel
theorem dX7_next_11 : decode cX7_next 11 = .ok (.iconst (-1), 1) := by decide +kernel
theorem dX7_next_12 : decode cX7_next 12 = .ok (.ireturn, 1) := by decide +kernel
theorem dX7_next_13 : decode cX7_next 13 = .ok (.aload_n 0, 1) := by decide +kernel
theorem dX7_next_14 : decode cX7_next 14 = .ok (.getfield 10, 3) := by decide +kernel
theorem dX7_next_17 : decode cX7_next 17 = .ok (.iload_n 1, 1) := by decide +kernel
theorem dX7_next_18 : decode cX7_next 18 = .ok (.invokevirtual 194, 3) := by decide +kernel
theorem dX7_next_21 : decode cX7_next 21 = .ok (.ireturn, 1) := by decide +kernel
theorem dX7_ring_0 : decode cX7_ring 0 = .ok (.iload_n 1, 1) := by decide +kernel
theorem dX7_ring_1 : decode cX7_ring 1 = .ok (.ifCond .lt 8, 3) := by decide +kernel
theorem dX7_ring_4 : decode cX7_ring 4 = .ok (.iload_n 1, 1) := by decide +kernel
theorem dX7_ring_5 : decode cX7_ring 5 = .ok (.iconst 3, 1) := by decide +kernel
theorem dX7_ring_6 : decode cX7_ring 6 = .ok (.if_icmp .le 5, 3) := by decide +kernel
theorem dX7_ring_9 : decode cX7_ring 9 = .ok (.iconst (-1), 1) := by decide +kernel
theorem dX7_ring_10 : decode cX7_ring 10 = .ok (.ireturn, 1) := by decide +kernel
theorem dX7_ring_11 : decode cX7_ring 11 = .ok (.aload_n 0, 1) := by decide +kernel
theorem dX7_ring_12 : decode cX7_ring 12 = .ok (.getfield 10, 3) := by decide +kernel
theorem dX7_ring_15 : decode cX7_ring 15 = .ok (.getfield 110, 3) := by decide +kernel
theorem dX7_ring_18 : decode cX7_ring 18 = .ok (.istore_n 2, 1) := by decide +kernel
theorem dX7_ring_19 : decode cX7_ring 19 = .ok (.iconst 0, 1) := by decide +kernel
theorem dX7_ring_20 : decode cX7_ring 20 = .ok (.istore_n 3, 1) := by decide +kernel
theorem dX7_ring_21 : decode cX7_ring 21 = .ok (.iload_n 3, 1) := by decide +kernel
theorem dX7_ring_22 : decode cX7_ring 22 = .ok (.bipush 64, 2) := by decide +kernel
theorem dX7_ring_24 : decode cX7_ring 24 = .ok (.if_icmp .ge 29, 3) := by decide +kernel
theorem dX7_ring_27 : decode cX7_ring 27 = .ok (.aload_n 0, 1) := by decide +kernel
theorem dX7_ring_28 : decode cX7_ring 28 = .ok (.getfield 10, 3) := by decide +kernel
theorem dX7_ring_31 : decode cX7_ring 31 = .ok (.iload_n 2, 1) := by decide +kernel
theorem dX7_ring_32 : decode cX7_ring 32 = .ok (.invokevirtual 198, 3) := by decide +kernel
theorem dX7_ring_35 : decode cX7_ring 35 = .ok (.ifCond .ne 18, 3) := by decide +kernel
theorem dX7_ring_38 : decode cX7_ring 38 = .ok (.aload_n 0, 1) := by decide +kernel
theorem dX7_ring_39 : decode cX7_ring 39 = .ok (.getfield 10, 3) := by decide +kernel
theorem dX7_ring_42 : decode cX7_ring 42 = .ok (.iload_n 2, 1) := by decide +kernel
theorem dX7_ring_43 : decode cX7_ring 43 = .ok (.invokevirtual 194, 3) := by decide +kernel
theorem dX7_ring_46 : decode cX7_ring 46 = .ok (.istore_n 2, 1) := by decide +kernel
theorem dX7_ring_47 : decode cX7_ring 47 = .ok (.iinc 3 1, 3) := by decide +kernel
theorem dX7_ring_50 : decode cX7_ring 50 = .ok (.goto (-29), 3) := by decide +kernel
theorem dX7_ring_53 : decode cX7_ring 53 = .ok (.iload_n 1, 1) := by decide +kernel
theorem dX7_ring_54 : decode cX7_ring 54 = .ok (.ifCond .ne 5, 3) := by decide +kernel
theorem dX7_ring_57 : decode cX7_ring 57 = .ok (.iload_n 3, 1) := by decide +kernel
theorem dX7_ring_58 : decode cX7_ring 58 = .ok (.ireturn, 1) := by decide +kernel
theorem dX7_ring_59 : decode cX7_ring 59 = .ok (.aload_n 0, 1) := by decide +kernel
theorem dX7_ring_60 : decode cX7_ring 60 = .ok (.getfield 10, 3) := by decide +kernel
theorem dX7_ring_63 : decode cX7_ring 63 = .ok (.iload_n 2, 1) := by decide +kernel
theorem dX7_ring_64 : decode cX7_ring 64 = .ok (.invokevirtual 198, 3) := by decide +kernel
theorem dX7_ring_67 : decode cX7_ring 67 = .ok (.istore 4, 2) := by decide +kernel
theorem dX7_ring_69 : decode cX7_ring 69 = .ok (.aload_n 0, 1) := by decide +kernel
theorem dX7_ring_70 : decode cX7_ring 70 = .ok (.getfield 51, 3) := by decide +kernel
theorem dX7_ring_73 : decode cX7_ring 73 = .ok (.invokevirtual 201, 3) := by decide +kernel
theorem dX7_ring_76 : decode cX7_ring 76 = .ok (.iconst 0, 1) := by decide +kernel
theorem dX7_ring_77 : decode cX7_ring 77 = .ok (.istore 5, 2) := by decide +kernel
theorem dX7_ring_79 : decode cX7_ring 79 = .ok (.iload 5, 2) := by decide +kernel
theorem dX7_ring_81 : decode cX7_ring 81 = .ok (.iload 4, 2) := by decide +kernel
theorem dX7_ring_83 : decode cX7_ring 83 = .ok (.if_icmp .ge 26, 3) := by decide +kernel
theorem dX7_ring_86 : decode cX7_ring 86 = .ok (.aload_n 0, 1) := by decide +kernel
theorem dX7_ring_87 : decode cX7_ring 87 = .ok (.getfield 51, 3) := by decide +kernel
theorem dX7_ring_90 : decode cX7_ring 90 = .ok (.iload_n 2, 1) := by decide +kernel
theorem dX7_ring_91 : decode cX7_ring 91 = .ok (.invokevirtual 204, 3) := by decide +kernel
theorem dX7_ring_94 : decode cX7_ring 94 = .ok (.aload_n 0, 1) := by decide +kernel
theorem dX7_ring_95 : decode cX7_ring 95 = .ok (.getfield 10, 3) := by decide +kernel
theorem dX7_ring_98 : decode cX7_ring 98 = .ok (.iload_n 2, 1) := by decide +kernel
theorem dX7_ring_99 : decode cX7_ring 99 = .ok (.invokevirtual 194, 3) := by decide +kernel
theorem dX7_ring_102 : decode cX7_ring 102 = .ok (.istore_n 2, 1) := by decide +kernel
theorem dX7_ring_103 : decode cX7_ring 103 = .ok (.iinc 5 1, 3) := by decide +kernel
theorem dX7_ring_106 : decode cX7_ring 106 = .ok (.goto (-27), 3) := by decide +kernel
theorem dX7_ring_109 : decode cX7_ring 109 = .ok (.iload_n 1, 1) := by decide +kernel
theorem dX7_ring_110 : decode cX7_ring 110 = .ok (.iconst 1, 1) := by decide +kernel
theorem dX7_ring_111 : decode cX7_ring 111 = .ok (.if_icmp .ne 8, 3) := by decide +kernel
theorem dX7_ring_114 : decode cX7_ring 114 = .ok (.iload 4, 2) := by decide +kernel
theorem dX7_ring_116 : decode cX7_ring 116 = .ok (.goto 11, 3) := by decide +kernel
theorem dX7_ring_119 : decode cX7_ring 119 = .ok (.aload_n 0, 1) := by decide +kernel
theorem dX7_ring_120 : decode cX7_ring 120 = .ok (.getfield 51, 3) := by decide +kernel
theorem dX7_ring_123 : decode cX7_ring 123 = .ok (.iload_n 1, 1) := by decide +kernel
theorem dX7_ring_124 : decode cX7_ring 124 = .ok (.invokevirtual 207, 3) := by decide +kernel
theorem dX7_ring_127 : decode cX7_ring 127 = .ok (.ireturn, 1) := by decide +kernel
theorem dX7_rings_0 : decode cX7_rings 0 = .ok (.iconst 0, 1) := by decide +kernel
theorem dX7_rings_1 : decode cX7_rings 1 = .ok (.istore_n 2, 1) := by decide +kernel
theorem dX7_rings_2 : decode cX7_rings 2 = .ok (.iconst 0, 1) := by decide +kernel
theorem dX7_rings_3 : decode cX7_rings 3 = .ok (.istore_n 3, 1) := by decide +kernel
theorem dX7_rings_4 : decode cX7_rings 4 = .ok (.iconst 0, 1) := by decide +kernel
theorem dX7_rings_5 : decode cX7_rings 5 = .ok (.istore 4, 2) := by decide +kernel
theorem dX7_rings_7 : decode cX7_rings 7 = .ok (.iconst 0, 1) := by decide +kernel
theorem dX7_rings_8 : decode cX7_rings 8 = .ok (.istore 5, 2) := by decide +kernel
theorem dX7_rings_10 : decode cX7_rings 10 = .ok (.iconst 0, 1) := by decide +kernel
theorem dX7_rings_11 : decode cX7_rings 11 = .ok (.istore 6, 2) := by decide +kernel
theorem dX7_rings_13 : decode cX7_rings 13 = .ok (.iload 6, 2) := by decide +kernel
theorem dX7_rings_15 : decode cX7_rings 15 = .ok (.aload_n 0, 1) := by decide +kernel
theorem dX7_rings_16 : decode cX7_rings 16 = .ok (.getfield 10, 3) := by decide +kernel
theorem dX7_rings_19 : decode cX7_rings 19 = .ok (.invokevirtual 210, 3) := by decide +kernel
theorem dX7_rings_22 : decode cX7_rings 22 = .ok (.if_icmp .ge 54, 3) := by decide +kernel
theorem dX7_rings_25 : decode cX7_rings 25 = .ok (.aload_n 0, 1) := by decide +kernel
theorem dX7_rings_26 : decode cX7_rings 26 = .ok (.getfield 10, 3) := by decide +kernel
theorem dX7_rings_29 : decode cX7_rings 29 = .ok (.iload 6, 2) := by decide +kernel
theorem dX7_rings_31 : decode cX7_rings 31 = .ok (.invokevirtual 214, 3) := by decide +kernel
theorem dX7_rings_34 : decode cX7_rings 34 = .ok (.istore 7, 2) := by decide +kernel
theorem dX7_rings_36 : decode cX7_rings 36 = .ok (.iload 7, 2) := by decide +kernel
theorem dX7_rings_38 : decode cX7_rings 38 = .ok (.ifCond .le 32, 3) := by decide +kernel
theorem dX7_rings_41 : decode cX7_rings 41 = .ok (.iinc 2 1, 3) := by decide +kernel
theorem dX7_rings_44 : decode cX7_rings 44 = .ok (.iload 5, 2) := by decide +kernel
theorem dX7_rings_46 : decode cX7_rings 46 = .ok (.iload 7, 2) := by decide +kernel
theorem dX7_rings_48 : decode cX7_rings 48 = .ok (.invokestatic 217, 3) := by decide +kernel
theorem dX7_rings_51 : decode cX7_rings 51 = .ok (.istore 5, 2) := by decide +kernel
theorem dX7_rings_53 : decode cX7_rings 53 = .ok (.iload_n 3, 1) := by decide +kernel
theorem dX7_rings_54 : decode cX7_rings 54 = .ok (.ifCond .eq 9, 3) := by decide +kernel
theorem dX7_rings_57 : decode cX7_rings 57 = .ok (.iload 7, 2) := by decide +kernel
theorem dX7_rings_59 : decode cX7_rings 59 = .ok (.iload_n 3, 1) := by decide +kernel
theorem dX7_rings_60 : decode cX7_rings 60 = .ok (.if_icmp .ge 10, 3) := by decide +kernel
theorem dX7_rings_63 : decode cX7_rings 63 = .ok (.iload 7, 2) := by decide +kernel
theorem dX7_rings_65 : decode cX7_rings 65 = .ok (.istore_n 3, 1) := by decide +kernel
theorem dX7_rings_66 : decode cX7_rings 66 = .ok (.iload 6, 2) := by decide +kernel
theorem dX7_rings_68 : decode cX7_rings 68 = .ok (.istore 4, 2) := by decide +kernel
theorem dX7_rings_70 : decode cX7_rings 70 = .ok (.iinc 6 1, 3) := by decide +kernel
theorem dX7_rings_73 : decode cX7_rings 73 = .ok (.goto (-60), 3) := by decide +kernel
theorem dX7_rings_76 : decode cX7_rings 76 = .ok (.iload_n 1, 1) := by decide +kernel
theorem dX7_rings_77 : decode cX7_rings 77 = .ok (.tableswitch 41 0 3 #[31, 33, 35, 38], 31) := by decide +kernel
theorem dX7_rings_108 : decode cX7_rings 108 = .ok (.iload_n 2, 1) := by decide +kernel
theorem dX7_rings_109 : decode cX7_rings 109 = .ok (.ireturn, 1) := by decide +kernel
theorem dX7_rings_110 : decode cX7_rings 110 = .ok (.iload_n 3, 1) := by decide +kernel
theorem dX7_rings_111 : decode cX7_rings 111 = .ok (.ireturn, 1) := by decide +kernel
theorem dX7_rings_112 : decode cX7_rings 112 = .ok (.iload 4, 2) := by decide +kernel
theorem dX7_rings_114 : decode cX7_rings 114 = .ok (.ireturn, 1) := by decide +kernel
theorem dX7_rings_115 : decode cX7_rings 115 = .ok (.iload 5, 2) := by decide +kernel
theorem dX7_rings_117 : decode cX7_rings 117 = .ok (.ireturn, 1) := by decide +kernel
theorem dX7_rings_118 : decode cX7_rings 118 = .ok (.iconst (-1), 1) := by decide +kernel
theorem dX7_rings_119 : decode cX7_rings 119 = .ok (.ireturn, 1) := by decide +kernel
theorem dX7_agree_0 : decode cX7_agree 0 = .ok (.iload_n 1, 1) := by decide +kernel
theorem dX7_agree_1 : decode cX7_agree 1 = .ok (.ifCond .lt 8, 3) := by decide +kernel
theorem dX7_agree_4 : decode cX7_agree 4 = .ok (.iload_n 1, 1) := by decide +kernel
theorem dX7_agree_5 : decode cX7_agree 5 = .ok (.iconst 3, 1) := by decide +kernel
theorem dX7_agree_6 : decode cX7_agree 6 = .ok (.if_icmp .le 5, 3) := by decide +kernel
theorem dX7_agree_9 : decode cX7_agree 9 = .ok (.iconst (-1), 1) := by decide +kernel
theorem dX7_agree_10 : decode cX7_agree 10 = .ok (.ireturn, 1) := by decide +kernel
theorem dX7_agree_11 : decode cX7_agree 11 = .ok (.aload_n 0, 1) := by decide +kernel
theorem dX7_agree_12 : decode cX7_agree 12 = .ok (.getfield 51, 3) := by decide +kernel
theorem dX7_agree_15 : decode cX7_agree 15 = .ok (.invokevirtual 201, 3) := by decide +kernel
theorem dX7_agree_18 : decode cX7_agree 18 = .ok (.iconst 0, 1) := by decide +kernel
theorem dX7_agree_19 : decode cX7_agree 19 = .ok (.istore_n 2, 1) := by decide +kernel
theorem dX7_agree_20 : decode cX7_agree 20 = .ok (.iload_n 2, 1) := by decide +kernel
theorem dX7_agree_21 : decode cX7_agree 21 = .ok (.aload_n 0, 1) := by decide +kernel
theorem dX7_agree_22 : decode cX7_agree 22 = .ok (.getfield 10, 3) := by decide +kernel
theorem dX7_agree_25 : decode cX7_agree 25 = .ok (.invokevirtual 210, 3) := by decide +kernel
theorem dX7_agree_28 : decode cX7_agree 28 = .ok (.if_icmp .ge 28, 3) := by decide +kernel
theorem dX7_agree_31 : decode cX7_agree 31 = .ok (.aload_n 0, 1) := by decide +kernel
theorem dX7_agree_32 : decode cX7_agree 32 = .ok (.getfield 10, 3) := by decide +kernel
theorem dX7_agree_35 : decode cX7_agree 35 = .ok (.iload_n 2, 1) := by decide +kernel
theorem dX7_agree_36 : decode cX7_agree 36 = .ok (.invokevirtual 222, 3) := by decide +kernel
theorem dX7_agree_39 : decode cX7_agree 39 = .ok (.ifCond .eq 11, 3) := by decide +kernel
theorem dX7_agree_42 : decode cX7_agree 42 = .ok (.aload_n 0, 1) := by decide +kernel
theorem dX7_agree_43 : decode cX7_agree 43 = .ok (.getfield 51, 3) := by decide +kernel
theorem dX7_agree_46 : decode cX7_agree 46 = .ok (.iload_n 2, 1) := by decide +kernel
theorem dX7_agree_47 : decode cX7_agree 47 = .ok (.invokevirtual 204, 3) := by decide +kernel
theorem dX7_agree_50 : decode cX7_agree 50 = .ok (.iinc 2 1, 3) := by decide +kernel
theorem dX7_agree_53 : decode cX7_agree 53 = .ok (.goto (-33), 3) := by decide +kernel
theorem dX7_agree_56 : decode cX7_agree 56 = .ok (.aload_n 0, 1) := by decide +kernel
theorem dX7_agree_57 : decode cX7_agree 57 = .ok (.getfield 51, 3) := by decide +kernel
theorem dX7_agree_60 : decode cX7_agree 60 = .ok (.iload_n 1, 1) := by decide +kernel
theorem dX7_agree_61 : decode cX7_agree 61 = .ok (.invokevirtual 207, 3) := by decide +kernel
theorem dX7_agree_64 : decode cX7_agree 64 = .ok (.ireturn, 1) := by decide +kernel
theorem dX7_before_0 : decode cX7_before 0 = .ok (.aload_n 0, 1) := by decide +kernel
theorem dX7_before_1 : decode cX7_before 1 = .ok (.getfield 10, 3) := by decide +kernel
theorem dX7_before_4 : decode cX7_before 4 = .ok (.iload_n 1, 1) := by decide +kernel
theorem dX7_before_5 : decode cX7_before 5 = .ok (.invokevirtual 191, 3) := by decide +kernel
theorem dX7_before_8 : decode cX7_before 8 = .ok (.ifCond .eq 10, 3) := by decide +kernel
theorem dX7_before_11 : decode cX7_before 11 = .ok (.iload_n 2, 1) := by decide +kernel
theorem dX7_before_12 : decode cX7_before 12 = .ok (.invokestatic 148, 3) := by decide +kernel
theorem dX7_before_15 : decode cX7_before 15 = .ok (.ifCond .ne 5, 3) := by decide +kernel
theorem dX7_before_18 : decode cX7_before 18 = .ok (.iconst (-1), 1) := by decide +kernel
theorem dX7_before_19 : decode cX7_before 19 = .ok (.ireturn, 1) := by decide +kernel
theorem dX7_before_20 : decode cX7_before 20 = .ok (.aload_n 0, 1) := by decide +kernel
theorem dX7_before_21 : decode cX7_before 21 = .ok (.getfield 51, 3) := by decide +kernel
theorem dX7_before_24 : decode cX7_before 24 = .ok (.invokevirtual 201, 3) := by decide +kernel
theorem dX7_before_27 : decode cX7_before 27 = .ok (.iconst 0, 1) := by decide +kernel
theorem dX7_before_28 : decode cX7_before 28 = .ok (.istore_n 3, 1) := by decide +kernel
theorem dX7_before_29 : decode cX7_before 29 = .ok (.iload_n 3, 1) := by decide +kernel
theorem dX7_before_30 : decode cX7_before 30 = .ok (.aload_n 0, 1) := by decide +kernel
theorem dX7_before_31 : decode cX7_before 31 = .ok (.getfield 10, 3) := by decide +kernel
theorem dX7_before_34 : decode cX7_before 34 = .ok (.invokevirtual 210, 3) := by decide +kernel
theorem dX7_before_37 : decode cX7_before 37 = .ok (.if_icmp .ge 29, 3) := by decide +kernel
theorem dX7_before_40 : decode cX7_before 40 = .ok (.aload_n 0, 1) := by decide +kernel
theorem dX7_before_41 : decode cX7_before 41 = .ok (.getfield 10, 3) := by decide +kernel
theorem dX7_before_44 : decode cX7_before 44 = .ok (.iload_n 3, 1) := by decide +kernel
theorem dX7_before_45 : decode cX7_before 45 = .ok (.invokevirtual 194, 3) := by decide +kernel
theorem dX7_before_48 : decode cX7_before 48 = .ok (.iload_n 1, 1) := by decide +kernel
theorem dX7_before_49 : decode cX7_before 49 = .ok (.if_icmp .ne 11, 3) := by decide +kernel
theorem dX7_before_52 : decode cX7_before 52 = .ok (.aload_n 0, 1) := by decide +kernel
theorem dX7_before_53 : decode cX7_before 53 = .ok (.getfield 51, 3) := by decide +kernel
theorem dX7_before_56 : decode cX7_before 56 = .ok (.iload_n 3, 1) := by decide +kernel
theorem dX7_before_57 : decode cX7_before 57 = .ok (.invokevirtual 204, 3) := by decide +kernel
theorem dX7_before_60 : decode cX7_before 60 = .ok (.iinc 3 1, 3) := by decide +kernel
theorem dX7_before_63 : decode cX7_before 63 = .ok (.goto (-34), 3) := by decide +kernel
theorem dX7_before_66 : decode cX7_before 66 = .ok (.aload_n 0, 1) := by decide +kernel
theorem dX7_before_67 : decode cX7_before 67 = .ok (.getfield 51, 3) := by decide +kernel
theorem dX7_before_70 : decode cX7_before 70 = .ok (.iload_n 2, 1) := by decide +kernel
theorem dX7_before_71 : decode cX7_before 71 = .ok (.invokevirtual 207, 3) := by decide +kernel
theorem dX7_before_74 : decode cX7_before 74 = .ok (.ireturn, 1) := by decide +kernel
theorem dX7_gardens_0 : decode cX7_gardens 0 = .ok (.lconst 0, 1) := by decide +kernel
theorem dX7_gardens_1 : decode cX7_gardens 1 = .ok (.lstore_n 1, 1) := by decide +kernel
theorem dX7_gardens_2 : decode cX7_gardens 2 = .ok (.iconst 0, 1) := by decide +kernel
theorem dX7_gardens_3 : decode cX7_gardens 3 = .ok (.istore_n 3, 1) := by decide +kernel
theorem dX7_gardens_4 : decode cX7_gardens 4 = .ok (.iload_n 3, 1) := by decide +kernel
theorem dX7_gardens_5 : decode cX7_gardens 5 = .ok (.aload_n 0, 1) := by decide +kernel
theorem dX7_gardens_6 : decode cX7_gardens 6 = .ok (.getfield 10, 3) := by decide +kernel
theorem dX7_gardens_9 : decode cX7_gardens 9 = .ok (.invokevirtual 210, 3) := by decide +kernel
theorem dX7_gardens_12 : decode cX7_gardens 12 = .ok (.if_icmp .ge 22, 3) := by decide +kernel
theorem dX7_gardens_15 : decode cX7_gardens 15 = .ok (.lload_n 1, 1) := by decide +kernel
theorem dX7_gardens_16 : decode cX7_gardens 16 = .ok (.lconst 1, 1) := by decide +kernel
theorem dX7_gardens_17 : decode cX7_gardens 17 = .ok (.aload_n 0, 1) := by decide +kernel
theorem dX7_gardens_18 : decode cX7_gardens 18 = .ok (.getfield 10, 3) := by decide +kernel
theorem dX7_gardens_21 : decode cX7_gardens 21 = .ok (.iload_n 3, 1) := by decide +kernel
theorem dX7_gardens_22 : decode cX7_gardens 22 = .ok (.invokevirtual 194, 3) := by decide +kernel
theorem dX7_gardens_25 : decode cX7_gardens 25 = .ok (.lshl, 1) := by decide +kernel
theorem dX7_gardens_26 : decode cX7_gardens 26 = .ok (.lor, 1) := by decide +kernel
theorem dX7_gardens_27 : decode cX7_gardens 27 = .ok (.lstore_n 1, 1) := by decide +kernel
theorem dX7_gardens_28 : decode cX7_gardens 28 = .ok (.iinc 3 1, 3) := by decide +kernel
theorem dX7_gardens_31 : decode cX7_gardens 31 = .ok (.goto (-27), 3) := by decide +kernel
theorem dX7_gardens_34 : decode cX7_gardens 34 = .ok (.aload_n 0, 1) := by decide +kernel
theorem dX7_gardens_35 : decode cX7_gardens 35 = .ok (.getfield 10, 3) := by decide +kernel
theorem dX7_gardens_38 : decode cX7_gardens 38 = .ok (.invokevirtual 210, 3) := by decide +kernel
theorem dX7_gardens_41 : decode cX7_gardens 41 = .ok (.lload_n 1, 1) := by decide +kernel
theorem dX7_gardens_42 : decode cX7_gardens 42 = .ok (.invokestatic 225, 3) := by decide +kernel
theorem dX7_gardens_45 : decode cX7_gardens 45 = .ok (.isub, 1) := by decide +kernel
theorem dX7_gardens_46 : decode cX7_gardens 46 = .ok (.ireturn, 1) := by decide +kernel
theorem dX7_clash_0 : decode cX7_clash 0 = .ok (.aload_n 0, 1) := by decide +kernel
theorem dX7_clash_1 : decode cX7_clash 1 = .ok (.getfield 10, 3) := by decide +kernel
theorem dX7_clash_4 : decode cX7_clash 4 = .ok (.getfield 110, 3) := by decide +kernel
theorem dX7_clash_7 : decode cX7_clash 7 = .ok (.istore_n 1, 1) := by decide +kernel
theorem dX7_clash_8 : decode cX7_clash 8 = .ok (.iconst 0, 1) := by decide +kernel
theorem dX7_clash_9 : decode cX7_clash 9 = .ok (.istore_n 2, 1) := by decide +kernel
theorem dX7_clash_10 : decode cX7_clash 10 = .ok (.iload_n 2, 1) := by decide +kernel
theorem dX7_clash_11 : decode cX7_clash 11 = .ok (.bipush 99, 2) := by decide +kernel
theorem dX7_clash_13 : decode cX7_clash 13 = .ok (.if_icmp .gt 31, 3) := by decide +kernel
theorem dX7_clash_16 : decode cX7_clash 16 = .ok (.aload_n 0, 1) := by decide +kernel
theorem dX7_clash_17 : decode cX7_clash 17 = .ok (.getfield 10, 3) := by decide +kernel
theorem dX7_clash_20 : decode cX7_clash 20 = .ok (.iload_n 1, 1) := by decide +kernel
theorem dX7_clash_21 : decode cX7_clash 21 = .ok (.invokevirtual 113, 3) := by decide +kernel
theorem dX7_clash_24 : decode cX7_clash 24 = .ok (.ifCond .ne 5, 3) := by decide +kernel
theorem dX7_clash_27 : decode cX7_clash 27 = .ok (.iload_n 2, 1) := by decide +kernel
theorem dX7_clash_28 : decode cX7_clash 28 = .ok (.ireturn, 1) := by decide +kernel
theorem dX7_clash_29 : decode cX7_clash 29 = .ok (.aload_n 0, 1) := by decide +kernel
theorem dX7_clash_30 : decode cX7_clash 30 = .ok (.getfield 10, 3) := by decide +kernel
theorem dX7_clash_33 : decode cX7_clash 33 = .ok (.iload_n 1, 1) := by decide +kernel
theorem dX7_clash_34 : decode cX7_clash 34 = .ok (.invokevirtual 194, 3) := by decide +kernel
theorem dX7_clash_37 : decode cX7_clash 37 = .ok (.istore_n 1, 1) := by decide +kernel
theorem dX7_clash_38 : decode cX7_clash 38 = .ok (.iinc 2 1, 3) := by decide +kernel
theorem dX7_clash_41 : decode cX7_clash 41 = .ok (.goto (-31), 3) := by decide +kernel
theorem dX7_clash_44 : decode cX7_clash 44 = .ok (.bipush (-4), 2) := by decide +kernel
theorem dX7_clash_46 : decode cX7_clash 46 = .ok (.ireturn, 1) := by decide +kernel
theorem dX7_way_0 : decode cX7_way 0 = .ok (.aload_n 0, 1) := by decide +kernel
theorem dX7_way_1 : decode cX7_way 1 = .ok (.getfield 10, 3) := by decide +kernel
theorem dX7_way_4 : decode cX7_way 4 = .ok (.iload_n 1, 1) := by decide +kernel
theorem dX7_way_5 : decode cX7_way 5 = .ok (.invokevirtual 124, 3) := by decide +kernel
theorem dX7_way_8 : decode cX7_way 8 = .ok (.ifCond .eq 24, 3) := by decide +kernel
theorem dX7_way_11 : decode cX7_way 11 = .ok (.iload_n 2, 1) := by decide +kernel
theorem dX7_way_12 : decode cX7_way 12 = .ok (.invokestatic 148, 3) := by decide +kernel
theorem dX7_way_15 : decode cX7_way 15 = .ok (.ifCond .eq 17, 3) := by decide +kernel
theorem dX7_way_18 : decode cX7_way 18 = .ok (.iload_n 3, 1) := by decide +kernel
theorem dX7_way_19 : decode cX7_way 19 = .ok (.invokestatic 148, 3) := by decide +kernel
theorem dX7_way_22 : decode cX7_way 22 = .ok (.ifCond .ne 12, 3) := by decide +kernel
theorem dX7_way_25 : decode cX7_way 25 = .ok (.iload_n 3, 1) := by decide +kernel
theorem dX7_way_26 : decode cX7_way 26 = .ok (.invokestatic 231, 3) := by decide +kernel
theorem dX7_way_29 : decode cX7_way 29 = .ok (.ifCond .ne 5, 3) := by decide +kernel
theorem dX7_way_32 : decode cX7_way 32 = .ok (.iconst (-1), 1) := by decide +kernel
theorem dX7_way_33 : decode cX7_way 33 = .ok (.ireturn, 1) := by decide +kernel
theorem dX7_way_34 : decode cX7_way 34 = .ok (.aload_n 0, 1) := by decide +kernel
theorem dX7_way_35 : decode cX7_way 35 = .ok (.getfield 44, 3) := by decide +kernel
theorem dX7_way_38 : decode cX7_way 38 = .ok (.iload_n 1, 1) := by decide +kernel
theorem dX7_way_39 : decode cX7_way 39 = .ok (.iload_n 2, 1) := by decide +kernel
theorem dX7_way_40 : decode cX7_way 40 = .ok (.invokevirtual 234, 3) := by decide +kernel
theorem dX7_way_43 : decode cX7_way 43 = .ok (.iconst 0, 1) := by decide +kernel
theorem dX7_way_44 : decode cX7_way 44 = .ok (.istore 4, 2) := by decide +kernel
theorem dX7_way_46 : decode cX7_way 46 = .ok (.iload 4, 2) := by decide +kernel
theorem dX7_way_48 : decode cX7_way 48 = .ok (.iconst 4, 1) := by decide +kernel
theorem dX7_way_49 : decode cX7_way 49 = .ok (.if_icmp .gt 32, 3) := by decide +kernel
theorem dX7_way_52 : decode cX7_way 52 = .ok (.aload_n 0, 1) := by decide +kernel
theorem dX7_way_53 : decode cX7_way 53 = .ok (.getfield 44, 3) := by decide +kernel
theorem dX7_way_56 : decode cX7_way 56 = .ok (.getfield 237, 3) := by decide +kernel
theorem dX7_way_59 : decode cX7_way 59 = .ok (.ifCond .ne 22, 3) := by decide +kernel
theorem dX7_way_62 : decode cX7_way 62 = .ok (.aload_n 0, 1) := by decide +kernel
theorem dX7_way_63 : decode cX7_way 63 = .ok (.getfield 44, 3) := by decide +kernel
theorem dX7_way_66 : decode cX7_way 66 = .ok (.aload_n 0, 1) := by decide +kernel
theorem dX7_way_67 : decode cX7_way 67 = .ok (.getfield 10, 3) := by decide +kernel
theorem dX7_way_70 : decode cX7_way 70 = .ok (.iload 4, 2) := by decide +kernel
theorem dX7_way_72 : decode cX7_way 72 = .ok (.invokevirtual 241, 3) := by decide +kernel
theorem dX7_way_75 : decode cX7_way 75 = .ok (.iinc 4 1, 3) := by decide +kernel
theorem dX7_way_78 : decode cX7_way 78 = .ok (.goto (-32), 3) := by decide +kernel
theorem dX7_way_81 : decode cX7_way 81 = .ok (.iload_n 3, 1) := by decide +kernel
theorem dX7_way_82 : decode cX7_way 82 = .ok (.invokestatic 231, 3) := by decide +kernel
theorem dX7_way_85 : decode cX7_way 85 = .ok (.ifCond .eq 15, 3) := by decide +kernel
theorem dX7_way_88 : decode cX7_way 88 = .ok (.aload_n 0, 1) := by decide +kernel
theorem dX7_way_89 : decode cX7_way 89 = .ok (.getfield 44, 3) := by decide +kernel
theorem dX7_way_92 : decode cX7_way 92 = .ok (.iload_n 3, 1) := by decide +kernel
theorem dX7_way_93 : decode cX7_way 93 = .ok (.bipush 10, 2) := by decide +kernel
theorem dX7_way_95 : decode cX7_way 95 = .ok (.isub, 1) := by decide +kernel
theorem dX7_way_96 : decode cX7_way 96 = .ok (.invokevirtual 245, 3) := by decide +kernel
theorem dX7_way_99 : decode cX7_way 99 = .ok (.ireturn, 1) := by decide +kernel
theorem dX7_way_100 : decode cX7_way 100 = .ok (.aload_n 0, 1) := by decide +kernel
theorem dX7_way_101 : decode cX7_way 101 = .ok (.getfield 44, 3) := by decide +kernel
theorem dX7_way_104 : decode cX7_way 104 = .ok (.getfield 237, 3) := by decide +kernel
theorem dX7_way_107 : decode cX7_way 107 = .ok (.ifCond .ne 6, 3) := by decide +kernel
theorem dX7_way_110 : decode cX7_way 110 = .ok (.bipush (-4), 2) := by decide +kernel
theorem dX7_way_112 : decode cX7_way 112 = .ok (.ireturn, 1) := by decide +kernel
theorem dX7_way_113 : decode cX7_way 113 = .ok (.iload_n 3, 1) := by decide +kernel
theorem dX7_way_114 : decode cX7_way 114 = .ok (.ifCond .ne 13, 3) := by decide +kernel
theorem dX7_way_117 : decode cX7_way 117 = .ok (.aload_n 0, 1) := by decide +kernel
theorem dX7_way_118 : decode cX7_way 118 = .ok (.getfield 44, 3) := by decide +kernel
theorem dX7_way_121 : decode cX7_way 121 = .ok (.getfield 248, 3) := by decide +kernel
theorem dX7_way_124 : decode cX7_way 124 = .ok (.goto 10, 3) := by decide +kernel
theorem dX7_way_127 : decode cX7_way 127 = .ok (.aload_n 0, 1) := by decide +kernel
theorem dX7_way_128 : decode cX7_way 128 = .ok (.getfield 44, 3) := by decide +kernel
theorem dX7_way_131 : decode cX7_way 131 = .ok (.getfield 251, 3) := by decide +kernel
theorem dX7_way_134 : decode cX7_way 134 = .ok (.ireturn, 1) := by decide +kernel
theorem dX7_peace_0 : decode cX7_peace 0 = .ok (.iload_n 1, 1) := by decide +kernel
theorem dX7_peace_1 : decode cX7_peace 1 = .ok (.ifCond .lt 19, 3) := by decide +kernel
theorem dX7_peace_4 : decode cX7_peace 4 = .ok (.iload_n 1, 1) := by decide +kernel
theorem dX7_peace_5 : decode cX7_peace 5 = .ok (.iconst 4, 1) := by decide +kernel
theorem dX7_peace_6 : decode cX7_peace 6 = .ok (.if_icmp .gt 14, 3) := by decide +kernel
theorem dX7_peace_9 : decode cX7_peace 9 = .ok (.iload_n 2, 1) := by decide +kernel
theorem dX7_peace_10 : decode cX7_peace 10 = .ok (.ifCond .eq 12, 3) := by decide +kernel
theorem dX7_peace_13 : decode cX7_peace 13 = .ok (.iload_n 2, 1) := by decide +kernel
theorem dX7_peace_14 : decode cX7_peace 14 = .ok (.invokestatic 231, 3) := by decide +kernel
theorem dX7_peace_17 : decode cX7_peace 17 = .ok (.ifCond .ne 5, 3) := by decide +kernel
theorem dX7_peace_20 : decode cX7_peace 20 = .ok (.iconst (-1), 1) := by decide +kernel
theorem dX7_peace_21 : decode cX7_peace 21 = .ok (.ireturn, 1) := by decide +kernel
theorem dX7_peace_22 : decode cX7_peace 22 = .ok (.aload_n 0, 1) := by decide +kernel
theorem dX7_peace_23 : decode cX7_peace 23 = .ok (.getfield 44, 3) := by decide +kernel
theorem dX7_peace_26 : decode cX7_peace 26 = .ok (.iconst (-1), 1) := by decide +kernel
theorem dX7_peace_27 : decode cX7_peace 27 = .ok (.iconst 0, 1) := by decide +kernel
theorem dX7_peace_28 : decode cX7_peace 28 = .ok (.invokevirtual 234, 3) := by decide +kernel
theorem dX7_peace_31 : decode cX7_peace 31 = .ok (.aload_n 0, 1) := by decide +kernel
theorem dX7_peace_32 : decode cX7_peace 32 = .ok (.getfield 44, 3) := by decide +kernel
theorem dX7_peace_35 : decode cX7_peace 35 = .ok (.aload_n 0, 1) := by decide +kernel
theorem dX7_peace_36 : decode cX7_peace 36 = .ok (.getfield 10, 3) := by decide +kernel
theorem dX7_peace_39 : decode cX7_peace 39 = .ok (.iload_n 1, 1) := by decide +kernel
theorem dX7_peace_40 : decode cX7_peace 40 = .ok (.invokevirtual 241, 3) := by decide +kernel
theorem dX7_peace_43 : decode cX7_peace 43 = .ok (.iload_n 2, 1) := by decide +kernel
theorem dX7_peace_44 : decode cX7_peace 44 = .ok (.invokestatic 231, 3) := by decide +kernel
theorem dX7_peace_47 : decode cX7_peace 47 = .ok (.ifCond .eq 15, 3) := by decide +kernel
theorem dX7_peace_50 : decode cX7_peace 50 = .ok (.aload_n 0, 1) := by decide +kernel
theorem dX7_peace_51 : decode cX7_peace 51 = .ok (.getfield 44, 3) := by decide +kernel
theorem dX7_peace_54 : decode cX7_peace 54 = .ok (.iload_n 2, 1) := by decide +kernel
theorem dX7_peace_55 : decode cX7_peace 55 = .ok (.bipush 10, 2) := by decide +kernel
theorem dX7_peace_57 : decode cX7_peace 57 = .ok (.isub, 1) := by decide +kernel
theorem dX7_peace_58 : decode cX7_peace 58 = .ok (.invokevirtual 245, 3) := by decide +kernel
theorem dX7_peace_61 : decode cX7_peace 61 = .ok (.ireturn, 1) := by decide +kernel
theorem dX7_peace_62 : decode cX7_peace 62 = .ok (.aload_n 0, 1) := by decide +kernel
theorem dX7_peace_63 : decode cX7_peace 63 = .ok (.getfield 44, 3) := by decide +kernel
theorem dX7_peace_66 : decode cX7_peace 66 = .ok (.getfield 237, 3) := by decide +kernel
theorem dX7_peace_69 : decode cX7_peace 69 = .ok (.ifCond .eq 13, 3) := by decide +kernel
theorem dX7_peace_72 : decode cX7_peace 72 = .ok (.aload_n 0, 1) := by decide +kernel
theorem dX7_peace_73 : decode cX7_peace 73 = .ok (.getfield 44, 3) := by decide +kernel
theorem dX7_peace_76 : decode cX7_peace 76 = .ok (.getfield 251, 3) := by decide +kernel
theorem dX7_peace_79 : decode cX7_peace 79 = .ok (.goto 5, 3) := by decide +kernel
theorem dX7_peace_82 : decode cX7_peace 82 = .ok (.bipush (-4), 2) := by decide +kernel
theorem dX7_peace_84 : decode cX7_peace 84 = .ok (.ireturn, 1) := by decide +kernel
theorem dX7_amend_0 : decode cX7_amend 0 = .ok (.iload_n 1, 1) := by decide +kernel
theorem dX7_amend_1 : decode cX7_amend 1 = .ok (.invokestatic 148, 3) := by decide +kernel
theorem dX7_amend_4 : decode cX7_amend 4 = .ok (.ifCond .ne 5, 3) := by decide +kernel
theorem dX7_amend_7 : decode cX7_amend 7 = .ok (.iconst (-1), 1) := by decide +kernel
theorem dX7_amend_8 : decode cX7_amend 8 = .ok (.ireturn, 1) := by decide +kernel
theorem dX7_amend_9 : decode cX7_amend 9 = .ok (.aload_n 0, 1) := by decide +kernel
theorem dX7_amend_10 : decode cX7_amend 10 = .ok (.getfield 10, 3) := by decide +kernel
theorem dX7_amend_13 : decode cX7_amend 13 = .ok (.invokevirtual 254, 3) := by decide +kernel
theorem dX7_amend_16 : decode cX7_amend 16 = .ok (.istore_n 2, 1) := by decide +kernel
theorem dX7_amend_17 : decode cX7_amend 17 = .ok (.bipush (-4), 2) := by decide +kernel
theorem dX7_amend_19 : decode cX7_amend 19 = .ok (.istore_n 3, 1) := by decide +kernel
theorem dX7_amend_20 : decode cX7_amend 20 = .ok (.aload_n 0, 1) := by decide +kernel
theorem dX7_amend_21 : decode cX7_amend 21 = .ok (.getfield 16, 3) := by decide +kernel
theorem dX7_amend_24 : decode cX7_amend 24 = .ok (.aload_n 0, 1) := by decide +kernel
theorem dX7_amend_25 : decode cX7_amend 25 = .ok (.getfield 10, 3) := by decide +kernel
theorem dX7_amend_28 : decode cX7_amend 28 = .ok (.invokevirtual 88, 3) := by decide +kernel
theorem dX7_amend_31 : decode cX7_amend 31 = .ok (.iconst 0, 1) := by decide +kernel
theorem dX7_amend_32 : decode cX7_amend 32 = .ok (.istore 4, 2) := by decide +kernel
theorem dX7_amend_34 : decode cX7_amend 34 = .ok (.iload 4, 2) := by decide +kernel
theorem dX7_amend_36 : decode cX7_amend 36 = .ok (.aload_n 0, 1) := by decide +kernel
theorem dX7_amend_37 : decode cX7_amend 37 = .ok (.getfield 10, 3) := by decide +kernel
theorem dX7_amend_40 : decode cX7_amend 40 = .ok (.getfield 98, 3) := by decide +kernel
theorem dX7_amend_43 : decode cX7_amend 43 = .ok (.if_icmp .ge 89, 3) := by decide +kernel
theorem dX7_amend_46 : decode cX7_amend 46 = .ok (.iconst 0, 1) := by decide +kernel
theorem dX7_amend_47 : decode cX7_amend 47 = .ok (.istore 5, 2) := by decide +kernel
theorem dX7_amend_49 : decode cX7_amend 49 = .ok (.iload 5, 2) := by decide +kernel
theorem dX7_amend_51 : decode cX7_amend 51 = .ok (.aload_n 0, 1) := by decide +kernel
theorem dX7_amend_52 : decode cX7_amend 52 = .ok (.getfield 10, 3) := by decide +kernel
theorem dX7_amend_55 : decode cX7_amend 55 = .ok (.getfield 98, 3) := by decide +kernel
theorem dX7_amend_58 : decode cX7_amend 58 = .ok (.if_icmp .ge 48, 3) := by decide +kernel
theorem dX7_amend_61 : decode cX7_amend 61 = .ok (.aload_n 0, 1) := by decide +kernel
theorem dX7_amend_62 : decode cX7_amend 62 = .ok (.getfield 16, 3) := by decide +kernel
theorem dX7_amend_65 : decode cX7_amend 65 = .ok (.getfield 131, 3) := by decide +kernel
theorem dX7_amend_68 : decode cX7_amend 68 = .ok (.iload 4, 2) := by decide +kernel
theorem dX7_amend_70 : decode cX7_amend 70 = .ok (.iload 5, 2) := by decide +kernel
theorem dX7_amend_72 : decode cX7_amend 72 = .ok (.iastore, 1) := by decide +kernel
theorem dX7_amend_73 : decode cX7_amend 73 = .ok (.aload_n 0, 1) := by decide +kernel
theorem dX7_amend_74 : decode cX7_amend 74 = .ok (.getfield 16, 3) := by decide +kernel
theorem dX7_amend_77 : decode cX7_amend 77 = .ok (.invokevirtual 254, 3) := by decide +kernel
theorem dX7_amend_80 : decode cX7_amend 80 = .ok (.istore 6, 2) := by decide +kernel
theorem dX7_amend_82 : decode cX7_amend 82 = .ok (.iload 6, 2) := by decide +kernel
theorem dX7_amend_84 : decode cX7_amend 84 = .ok (.iload_n 2, 1) := by decide +kernel
theorem dX7_amend_85 : decode cX7_amend 85 = .ok (.if_icmp .le 15, 3) := by decide +kernel
theorem dX7_amend_88 : decode cX7_amend 88 = .ok (.iload 6, 2) := by decide +kernel
theorem dX7_amend_90 : decode cX7_amend 90 = .ok (.istore_n 2, 1) := by decide +kernel
theorem dX7_amend_91 : decode cX7_amend 91 = .ok (.bipush 10, 2) := by decide +kernel
theorem dX7_amend_93 : decode cX7_amend 93 = .ok (.iload 4, 2) := by decide +kernel
theorem dX7_amend_95 : decode cX7_amend 95 = .ok (.imul, 1) := by decide +kernel
theorem dX7_amend_96 : decode cX7_amend 96 = .ok (.iload 5, 2) := by decide +kernel
theorem dX7_amend_98 : decode cX7_amend 98 = .ok (.iadd, 1) := by decide +kernel
theorem dX7_amend_99 : decode cX7_amend 99 = .ok (.istore_n 3, 1) := by decide +kernel
theorem dX7_amend_100 : decode cX7_amend 100 = .ok (.iinc 5 1, 3) := by decide +kernel
theorem dX7_amend_103 : decode cX7_amend 103 = .ok (.goto (-54), 3) := by decide +kernel
theorem dX7_amend_106 : decode cX7_amend 106 = .ok (.aload_n 0, 1) := by decide +kernel
theorem dX7_amend_107 : decode cX7_amend 107 = .ok (.getfield 16, 3) := by decide +kernel
theorem dX7_amend_110 : decode cX7_amend 110 = .ok (.getfield 131, 3) := by decide +kernel
theorem dX7_amend_113 : decode cX7_amend 113 = .ok (.iload 4, 2) := by decide +kernel
theorem dX7_amend_115 : decode cX7_amend 115 = .ok (.aload_n 0, 1) := by decide +kernel
theorem dX7_amend_116 : decode cX7_amend 116 = .ok (.getfield 10, 3) := by decide +kernel
theorem dX7_amend_119 : decode cX7_amend 119 = .ok (.getfield 131, 3) := by decide +kernel
theorem dX7_amend_122 : decode cX7_amend 122 = .ok (.iload 4, 2) := by decide +kernel
theorem dX7_amend_124 : decode cX7_amend 124 = .ok (.iaload, 1) := by decide +kernel
theorem dX7_amend_125 : decode cX7_amend 125 = .ok (.iastore, 1) := by decide +kernel
theorem dX7_amend_126 : decode cX7_amend 126 = .ok (.iinc 4 1, 3) := by decide +kernel
theorem dX7_amend_129 : decode cX7_amend 129 = .ok (.goto (-95), 3) := by decide +kernel
theorem dX7_amend_132 : decode cX7_amend 132 = .ok (.iload_n 1, 1) := by decide +kernel
theorem dX7_amend_133 : decode cX7_amend 133 = .ok (.ifCond .eq 9, 3) := by decide +kernel
theorem dX7_amend_136 : decode cX7_amend 136 = .ok (.iload_n 3, 1) := by decide +kernel
theorem dX7_amend_137 : decode cX7_amend 137 = .ok (.bipush (-4), 2) := by decide +kernel
theorem dX7_amend_139 : decode cX7_amend 139 = .ok (.if_icmp .ne 7, 3) := by decide +kernel
theorem dX7_amend_142 : decode cX7_amend 142 = .ok (.iload_n 3, 1) := by decide +kernel
theorem dX7_amend_143 : decode cX7_amend 143 = .ok (.goto 4, 3) := by decide +kernel
theorem dX7_amend_146 : decode cX7_amend 146 = .ok (.iload_n 2, 1) := by decide +kernel
theorem dX7_amend_147 : decode cX7_amend 147 = .ok (.ireturn, 1) := by decide +kernel
theorem dX7_strict_0 : decode cX7_strict 0 = .ok (.iload_n 1, 1) := by decide +kernel
theorem dX7_strict_1 : decode cX7_strict 1 = .ok (.invokestatic 148, 3) := by decide +kernel
theorem dX7_strict_4 : decode cX7_strict 4 = .ok (.ifCond .ne 5, 3) := by decide +kernel
theorem dX7_strict_7 : decode cX7_strict 7 = .ok (.iconst (-1), 1) := by decide +kernel
theorem dX7_strict_8 : decode cX7_strict 8 = .ok (.ireturn, 1) := by decide +kernel
theorem dX7_strict_9 : decode cX7_strict 9 = .ok (.aload_n 0, 1) := by decide +kernel
theorem dX7_strict_10 : decode cX7_strict 10 = .ok (.getfield 10, 3) := by decide +kernel
theorem dX7_strict_13 : decode cX7_strict 13 = .ok (.invokevirtual 254, 3) := by decide +kernel
theorem dX7_strict_16 : decode cX7_strict 16 = .ok (.istore_n 2, 1) := by decide +kernel
theorem dX7_strict_17 : decode cX7_strict 17 = .ok (.bipush (-4), 2) := by decide +kernel
theorem dX7_strict_19 : decode cX7_strict 19 = .ok (.istore_n 3, 1) := by decide +kernel
theorem dX7_strict_20 : decode cX7_strict 20 = .ok (.iconst 0, 1) := by decide +kernel
theorem dX7_strict_21 : decode cX7_strict 21 = .ok (.istore 4, 2) := by decide +kernel
theorem dX7_strict_23 : decode cX7_strict 23 = .ok (.iload 4, 2) := by decide +kernel
theorem dX7_strict_25 : decode cX7_strict 25 = .ok (.aload_n 0, 1) := by decide +kernel
theorem dX7_strict_26 : decode cX7_strict 26 = .ok (.getfield 10, 3) := by decide +kernel
theorem dX7_strict_29 : decode cX7_strict 29 = .ok (.getfield 98, 3) := by decide +kernel
theorem dX7_strict_32 : decode cX7_strict 32 = .ok (.if_icmp .ge 70, 3) := by decide +kernel
theorem dX7_strict_35 : decode cX7_strict 35 = .ok (.iload 4, 2) := by decide +kernel
theorem dX7_strict_37 : decode cX7_strict 37 = .ok (.iconst 1, 1) := by decide +kernel
theorem dX7_strict_38 : decode cX7_strict 38 = .ok (.iadd, 1) := by decide +kernel
theorem dX7_strict_39 : decode cX7_strict 39 = .ok (.istore 5, 2) := by decide +kernel
theorem dX7_strict_41 : decode cX7_strict 41 = .ok (.iload 5, 2) := by decide +kernel
theorem dX7_strict_43 : decode cX7_strict 43 = .ok (.aload_n 0, 1) := by decide +kernel
theorem dX7_strict_44 : decode cX7_strict 44 = .ok (.getfield 10, 3) := by decide +kernel
theorem dX7_strict_47 : decode cX7_strict 47 = .ok (.getfield 98, 3) := by decide +kernel
theorem dX7_strict_50 : decode cX7_strict 50 = .ok (.if_icmp .ge 46, 3) := by decide +kernel
theorem dX7_strict_53 : decode cX7_strict 53 = .ok (.aload_n 0, 1) := by decide +kernel
theorem dX7_strict_54 : decode cX7_strict 54 = .ok (.getfield 10, 3) := by decide +kernel
theorem dX7_strict_57 : decode cX7_strict 57 = .ok (.iload 4, 2) := by decide +kernel
theorem dX7_strict_59 : decode cX7_strict 59 = .ok (.iload 5, 2) := by decide +kernel
theorem dX7_strict_61 : decode cX7_strict 61 = .ok (.invokevirtual 257, 3) := by decide +kernel
theorem dX7_strict_64 : decode cX7_strict 64 = .ok (.istore 6, 2) := by decide +kernel
theorem dX7_strict_66 : decode cX7_strict 66 = .ok (.iload 6, 2) := by decide +kernel
theorem dX7_strict_68 : decode cX7_strict 68 = .ok (.iconst 1, 1) := by decide +kernel
theorem dX7_strict_69 : decode cX7_strict 69 = .ok (.if_icmp .lt 21, 3) := by decide +kernel
theorem dX7_strict_72 : decode cX7_strict 72 = .ok (.iload 6, 2) := by decide +kernel
theorem dX7_strict_74 : decode cX7_strict 74 = .ok (.iload_n 2, 1) := by decide +kernel
theorem dX7_strict_75 : decode cX7_strict 75 = .ok (.if_icmp .ge 15, 3) := by decide +kernel
theorem dX7_strict_78 : decode cX7_strict 78 = .ok (.iload 6, 2) := by decide +kernel
theorem dX7_strict_80 : decode cX7_strict 80 = .ok (.istore_n 2, 1) := by decide +kernel
theorem dX7_strict_81 : decode cX7_strict 81 = .ok (.bipush 10, 2) := by decide +kernel
theorem dX7_strict_83 : decode cX7_strict 83 = .ok (.iload 4, 2) := by decide +kernel
theorem dX7_strict_85 : decode cX7_strict 85 = .ok (.imul, 1) := by decide +kernel
theorem dX7_strict_86 : decode cX7_strict 86 = .ok (.iload 5, 2) := by decide +kernel
theorem dX7_strict_88 : decode cX7_strict 88 = .ok (.iadd, 1) := by decide +kernel
theorem dX7_strict_89 : decode cX7_strict 89 = .ok (.istore_n 3, 1) := by decide +kernel
theorem dX7_strict_90 : decode cX7_strict 90 = .ok (.iinc 5 1, 3) := by decide +kernel
theorem dX7_strict_93 : decode cX7_strict 93 = .ok (.goto (-52), 3) := by decide +kernel
theorem dX7_strict_96 : decode cX7_strict 96 = .ok (.iinc 4 1, 3) := by decide +kernel
theorem dX7_strict_99 : decode cX7_strict 99 = .ok (.goto (-76), 3) := by decide +kernel
theorem dX7_strict_102 : decode cX7_strict 102 = .ok (.iload_n 1, 1) := by decide +kernel
theorem dX7_strict_103 : decode cX7_strict 103 = .ok (.ifCond .eq 9, 3) := by decide +kernel
theorem dX7_strict_106 : decode cX7_strict 106 = .ok (.iload_n 3, 1) := by decide +kernel
theorem dX7_strict_107 : decode cX7_strict 107 = .ok (.bipush (-4), 2) := by decide +kernel
theorem dX7_strict_109 : decode cX7_strict 109 = .ok (.if_icmp .ne 7, 3) := by decide +kernel
theorem dX7_strict_112 : decode cX7_strict 112 = .ok (.iload_n 3, 1) := by decide +kernel
theorem dX7_strict_113 : decode cX7_strict 113 = .ok (.goto 4, 3) := by decide +kernel
theorem dX7_strict_116 : decode cX7_strict 116 = .ok (.iload_n 2, 1) := by decide +kernel
theorem dX7_strict_117 : decode cX7_strict 117 = .ok (.ireturn, 1) := by decide +kernel
theorem dX7_luck_0 : decode cX7_luck 0 = .ok (.aload_n 0, 1) := by decide +kernel
theorem dX7_luck_1 : decode cX7_luck 1 = .ok (.iload_n 1, 1) := by decide +kernel
theorem dX7_luck_2 : decode cX7_luck 2 = .ok (.iload_n 2, 1) := by decide +kernel
theorem dX7_luck_3 : decode cX7_luck 3 = .ok (.iconst 0, 1) := by decide +kernel
theorem dX7_luck_4 : decode cX7_luck 4 = .ok (.invokevirtual 260, 3) := by decide +kernel
theorem dX7_luck_7 : decode cX7_luck 7 = .ok (.lreturn, 1) := by decide +kernel
theorem dX7_calm_0 : decode cX7_calm 0 = .ok (.aload_n 0, 1) := by decide +kernel
theorem dX7_calm_1 : decode cX7_calm 1 = .ok (.iload_n 1, 1) := by decide +kernel
theorem dX7_calm_2 : decode cX7_calm 2 = .ok (.iload_n 2, 1) := by decide +kernel
theorem dX7_calm_3 : decode cX7_calm 3 = .ok (.iconst 1, 1) := by decide +kernel
theorem dX7_calm_4 : decode cX7_calm 4 = .ok (.invokevirtual 260, 3) := by decide +kernel
theorem dX7_calm_7 : decode cX7_calm 7 = .ok (.lreturn, 1) := by decide +kernel
theorem dX7_mean_0 : decode cX7_mean 0 = .ok (.aload_n 0, 1) := by decide +kernel
theorem dX7_mean_1 : decode cX7_mean 1 = .ok (.iload_n 1, 1) := by decide +kernel
theorem dX7_mean_2 : decode cX7_mean 2 = .ok (.iload_n 2, 1) := by decide +kernel
theorem dX7_mean_3 : decode cX7_mean 3 = .ok (.iconst 2, 1) := by decide +kernel
theorem dX7_mean_4 : decode cX7_mean 4 = .ok (.invokevirtual 260, 3) := by decide +kernel
theorem dX7_mean_7 : decode cX7_mean 7 = .ok (.lreturn, 1) := by decide +kernel
theorem dX7_see_0 : decode cX7_see 0 = .ok (.aload_n 0, 1) := by decide +kernel
theorem dX7_see_1 : decode cX7_see 1 = .ok (.getfield 10, 3) := by decide +kernel
theorem dX7_see_4 : decode cX7_see 4 = .ok (.iload_n 1, 1) := by decide +kernel
theorem dX7_see_5 : decode cX7_see 5 = .ok (.invokevirtual 124, 3) := by decide +kernel
theorem dX7_see_8 : decode cX7_see 8 = .ok (.ifCond .eq 13, 3) := by decide +kernel
theorem dX7_see_11 : decode cX7_see 11 = .ok (.iload_n 2, 1) := by decide +kernel
theorem dX7_see_12 : decode cX7_see 12 = .ok (.ifCond .lt 9, 3) := by decide +kernel
theorem dX7_see_15 : decode cX7_see 15 = .ok (.iload_n 2, 1) := by decide +kernel
theorem dX7_see_16 : decode cX7_see 16 = .ok (.bipush 9, 2) := by decide +kernel
theorem dX7_see_18 : decode cX7_see 18 = .ok (.if_icmp .le 5, 3) := by decide +kernel
theorem dX7_see_21 : decode cX7_see 21 = .ok (.iconst (-1), 1) := by decide +kernel
theorem dX7_see_22 : decode cX7_see 22 = .ok (.ireturn, 1) := by decide +kernel
theorem dX7_see_23 : decode cX7_see 23 = .ok (.aload_n 0, 1) := by decide +kernel
theorem dX7_see_24 : decode cX7_see 24 = .ok (.getfield 37, 3) := by decide +kernel
theorem dX7_see_27 : decode cX7_see 27 = .ok (.getfield 92, 3) := by decide +kernel
theorem dX7_see_30 : decode cX7_see 30 = .ok (.bipush 6, 2) := by decide +kernel
theorem dX7_see_32 : decode cX7_see 32 = .ok (.if_icmp .lt 6, 3) := by decide +kernel
theorem dX7_see_35 : decode cX7_see 35 = .ok (.bipush (-3), 2) := by decide +kernel
theorem dX7_see_37 : decode cX7_see 37 = .ok (.ireturn, 1) := by decide +kernel
theorem dX7_see_38 : decode cX7_see 38 = .ok (.aload_n 0, 1) := by decide +kernel
theorem dX7_see_39 : decode cX7_see 39 = .ok (.getfield 37, 3) := by decide +kernel
theorem dX7_see_42 : decode cX7_see 42 = .ok (.iload_n 1, 1) := by decide +kernel
theorem dX7_see_43 : decode cX7_see 43 = .ok (.iload_n 2, 1) := by decide +kernel
theorem dX7_see_44 : decode cX7_see 44 = .ok (.iload_n 3, 1) := by decide +kernel
theorem dX7_see_45 : decode cX7_see 45 = .ok (.invokevirtual 264, 3) := by decide +kernel
theorem dX7_see_48 : decode cX7_see 48 = .ok (.aload_n 0, 1) := by decide +kernel
theorem dX7_see_49 : decode cX7_see 49 = .ok (.getfield 37, 3) := by decide +kernel
theorem dX7_see_52 : decode cX7_see 52 = .ok (.getfield 92, 3) := by decide +kernel
theorem dX7_see_55 : decode cX7_see 55 = .ok (.ireturn, 1) := by decide +kernel
theorem dX7_forget_0 : decode cX7_forget 0 = .ok (.iload_n 1, 1) := by decide +kernel
theorem dX7_forget_1 : decode cX7_forget 1 = .ok (.ifCond .lt 14, 3) := by decide +kernel
theorem dX7_forget_4 : decode cX7_forget 4 = .ok (.iload_n 1, 1) := by decide +kernel
theorem dX7_forget_5 : decode cX7_forget 5 = .ok (.aload_n 0, 1) := by decide +kernel
theorem dX7_forget_6 : decode cX7_forget 6 = .ok (.getfield 37, 3) := by decide +kernel
theorem dX7_forget_9 : decode cX7_forget 9 = .ok (.getfield 92, 3) := by decide +kernel
theorem dX7_forget_12 : decode cX7_forget 12 = .ok (.if_icmp .le 5, 3) := by decide +kernel
theorem dX7_forget_15 : decode cX7_forget 15 = .ok (.iconst (-1), 1) := by decide +kernel
theorem dX7_forget_16 : decode cX7_forget 16 = .ok (.ireturn, 1) := by decide +kernel
theorem dX7_forget_17 : decode cX7_forget 17 = .ok (.aload_n 0, 1) := by decide +kernel
theorem dX7_forget_18 : decode cX7_forget 18 = .ok (.getfield 37, 3) := by decide +kernel
theorem dX7_forget_21 : decode cX7_forget 21 = .ok (.getfield 92, 3) := by decide +kernel
theorem dX7_forget_24 : decode cX7_forget 24 = .ok (.istore_n 2, 1) := by decide +kernel
theorem dX7_forget_25 : decode cX7_forget 25 = .ok (.aload_n 0, 1) := by decide +kernel
theorem dX7_forget_26 : decode cX7_forget 26 = .ok (.getfield 37, 3) := by decide +kernel
theorem dX7_forget_29 : decode cX7_forget 29 = .ok (.iload_n 1, 1) := by decide +kernel
theorem dX7_forget_30 : decode cX7_forget 30 = .ok (.putfield 92, 3) := by decide +kernel
theorem dX7_forget_33 : decode cX7_forget 33 = .ok (.iload_n 2, 1) := by decide +kernel
theorem dX7_forget_34 : decode cX7_forget 34 = .ok (.ireturn, 1) := by decide +kernel
theorem dX7_fits_0 : decode cX7_fits 0 = .ok (.iload_n 1, 1) := by decide +kernel
theorem dX7_fits_1 : decode cX7_fits 1 = .ok (.ifCond .lt 8, 3) := by decide +kernel
theorem dX7_fits_4 : decode cX7_fits 4 = .ok (.iload_n 1, 1) := by decide +kernel
theorem dX7_fits_5 : decode cX7_fits 5 = .ok (.iconst 3, 1) := by decide +kernel
theorem dX7_fits_6 : decode cX7_fits 6 = .ok (.if_icmp .le 5, 3) := by decide +kernel
theorem dX7_fits_9 : decode cX7_fits 9 = .ok (.iconst (-1), 1) := by decide +kernel
theorem dX7_fits_10 : decode cX7_fits 10 = .ok (.ireturn, 1) := by decide +kernel
theorem dX7_fits_11 : decode cX7_fits 11 = .ok (.aload_n 0, 1) := by decide +kernel
theorem dX7_fits_12 : decode cX7_fits 12 = .ok (.getfield 51, 3) := by decide +kernel
theorem dX7_fits_15 : decode cX7_fits 15 = .ok (.invokevirtual 201, 3) := by decide +kernel
theorem dX7_fits_18 : decode cX7_fits 18 = .ok (.iconst 0, 1) := by decide +kernel
theorem dX7_fits_19 : decode cX7_fits 19 = .ok (.istore_n 2, 1) := by decide +kernel
theorem dX7_fits_20 : decode cX7_fits 20 = .ok (.iload_n 2, 1) := by decide +kernel
theorem dX7_fits_21 : decode cX7_fits 21 = .ok (.aload_n 0, 1) := by decide +kernel
theorem dX7_fits_22 : decode cX7_fits 22 = .ok (.getfield 10, 3) := by decide +kernel
theorem dX7_fits_25 : decode cX7_fits 25 = .ok (.invokevirtual 210, 3) := by decide +kernel
theorem dX7_fits_28 : decode cX7_fits 28 = .ok (.if_icmp .ge 32, 3) := by decide +kernel
theorem dX7_fits_31 : decode cX7_fits 31 = .ok (.aload_n 0, 1) := by decide +kernel
theorem dX7_fits_32 : decode cX7_fits 32 = .ok (.getfield 37, 3) := by decide +kernel
theorem dX7_fits_35 : decode cX7_fits 35 = .ok (.aload_n 0, 1) := by decide +kernel
theorem dX7_fits_36 : decode cX7_fits 36 = .ok (.getfield 10, 3) := by decide +kernel
theorem dX7_fits_39 : decode cX7_fits 39 = .ok (.iload_n 2, 1) := by decide +kernel
theorem dX7_fits_40 : decode cX7_fits 40 = .ok (.invokevirtual 268, 3) := by decide +kernel
theorem dX7_fits_43 : decode cX7_fits 43 = .ok (.ifCond .eq 11, 3) := by decide +kernel
theorem dX7_fits_46 : decode cX7_fits 46 = .ok (.aload_n 0, 1) := by decide +kernel
theorem dX7_fits_47 : decode cX7_fits 47 = .ok (.getfield 51, 3) := by decide +kernel
theorem dX7_fits_50 : decode cX7_fits 50 = .ok (.iload_n 2, 1) := by decide +kernel
theorem dX7_fits_51 : decode cX7_fits 51 = .ok (.invokevirtual 204, 3) := by decide +kernel
theorem dX7_fits_54 : decode cX7_fits 54 = .ok (.iinc 2 1, 3) := by decide +kernel
theorem dX7_fits_57 : decode cX7_fits 57 = .ok (.goto (-37), 3) := by decide +kernel
theorem dX7_fits_60 : decode cX7_fits 60 = .ok (.aload_n 0, 1) := by decide +kernel
theorem dX7_fits_61 : decode cX7_fits 61 = .ok (.getfield 51, 3) := by decide +kernel
theorem dX7_fits_64 : decode cX7_fits 64 = .ok (.iload_n 1, 1) := by decide +kernel
theorem dX7_fits_65 : decode cX7_fits 65 = .ok (.invokevirtual 207, 3) := by decide +kernel
theorem dX7_fits_68 : decode cX7_fits 68 = .ok (.ireturn, 1) := by decide +kernel
theorem dX7_look_0 : decode cX7_look 0 = .ok (.iload_n 1, 1) := by decide +kernel
theorem dX7_look_1 : decode cX7_look 1 = .ok (.invokestatic 148, 3) := by decide +kernel
theorem dX7_look_4 : decode cX7_look 4 = .ok (.ifCond .ne 5, 3) := by decide +kernel
theorem dX7_look_7 : decode cX7_look 7 = .ok (.iconst (-1), 1) := by decide +kernel
theorem dX7_look_8 : decode cX7_look 8 = .ok (.ireturn, 1) := by decide +kernel
theorem dX7_look_9 : decode cX7_look 9 = .ok (.aload_n 0, 1) := by decide +kernel
theorem dX7_look_10 : decode cX7_look 10 = .ok (.getfield 37, 3) := by decide +kernel
theorem dX7_look_13 : decode cX7_look 13 = .ok (.aload_n 0, 1) := by decide +kernel
theorem dX7_look_14 : decode cX7_look 14 = .ok (.getfield 10, 3) := by decide +kernel
theorem dX7_look_17 : decode cX7_look 17 = .ok (.invokevirtual 272, 3) := by decide +kernel
theorem dX7_look_20 : decode cX7_look 20 = .ok (.aload_n 0, 1) := by decide +kernel
theorem dX7_look_21 : decode cX7_look 21 = .ok (.getfield 37, 3) := by decide +kernel
theorem dX7_look_24 : decode cX7_look 24 = .ok (.getfield 275, 3) := by decide +kernel
theorem dX7_look_27 : decode cX7_look 27 = .ok (.istore_n 2, 1) := by decide +kernel
theorem dX7_look_28 : decode cX7_look 28 = .ok (.bipush (-4), 2) := by decide +kernel
theorem dX7_look_30 : decode cX7_look 30 = .ok (.istore_n 3, 1) := by decide +kernel
theorem dX7_look_31 : decode cX7_look 31 = .ok (.iconst 0, 1) := by decide +kernel
theorem dX7_look_32 : decode cX7_look 32 = .ok (.istore 4, 2) := by decide +kernel
theorem dX7_look_34 : decode cX7_look 34 = .ok (.iload 4, 2) := by decide +kernel
theorem dX7_look_36 : decode cX7_look 36 = .ok (.bipush 9, 2) := by decide +kernel
theorem dX7_look_38 : decode cX7_look 38 = .ok (.if_icmp .gt 70, 3) := by decide +kernel
theorem dX7_look_41 : decode cX7_look 41 = .ok (.iconst 0, 1) := by decide +kernel
theorem dX7_look_42 : decode cX7_look 42 = .ok (.istore 5, 2) := by decide +kernel
theorem dX7_look_44 : decode cX7_look 44 = .ok (.iload 5, 2) := by decide +kernel
theorem dX7_look_46 : decode cX7_look 46 = .ok (.aload_n 0, 1) := by decide +kernel
theorem dX7_look_47 : decode cX7_look 47 = .ok (.getfield 10, 3) := by decide +kernel
theorem dX7_look_50 : decode cX7_look 50 = .ok (.getfield 98, 3) := by decide +kernel
theorem dX7_look_53 : decode cX7_look 53 = .ok (.if_icmp .ge 38, 3) := by decide +kernel
theorem dX7_look_56 : decode cX7_look 56 = .ok (.aload_n 0, 1) := by decide +kernel
theorem dX7_look_57 : decode cX7_look 57 = .ok (.getfield 37, 3) := by decide +kernel
theorem dX7_look_60 : decode cX7_look 60 = .ok (.iload 5, 2) := by decide +kernel
theorem dX7_look_62 : decode cX7_look 62 = .ok (.invokevirtual 278, 3) := by decide +kernel
theorem dX7_look_65 : decode cX7_look 65 = .ok (.istore 6, 2) := by decide +kernel
theorem dX7_look_67 : decode cX7_look 67 = .ok (.iload 6, 2) := by decide +kernel
theorem dX7_look_69 : decode cX7_look 69 = .ok (.iload_n 2, 1) := by decide +kernel
theorem dX7_look_70 : decode cX7_look 70 = .ok (.if_icmp .ge 15, 3) := by decide +kernel
theorem dX7_look_73 : decode cX7_look 73 = .ok (.iload 6, 2) := by decide +kernel
theorem dX7_look_75 : decode cX7_look 75 = .ok (.istore_n 2, 1) := by decide +kernel
theorem dX7_look_76 : decode cX7_look 76 = .ok (.bipush 10, 2) := by decide +kernel
theorem dX7_look_78 : decode cX7_look 78 = .ok (.iload 4, 2) := by decide +kernel
theorem dX7_look_80 : decode cX7_look 80 = .ok (.imul, 1) := by decide +kernel
theorem dX7_look_81 : decode cX7_look 81 = .ok (.iload 5, 2) := by decide +kernel
theorem dX7_look_83 : decode cX7_look 83 = .ok (.iadd, 1) := by decide +kernel
theorem dX7_look_84 : decode cX7_look 84 = .ok (.istore_n 3, 1) := by decide +kernel
theorem dX7_look_85 : decode cX7_look 85 = .ok (.iinc 5 1, 3) := by decide +kernel
theorem dX7_look_88 : decode cX7_look 88 = .ok (.goto (-44), 3) := by decide +kernel
theorem dX7_look_91 : decode cX7_look 91 = .ok (.aload_n 0, 1) := by decide +kernel
theorem dX7_look_92 : decode cX7_look 92 = .ok (.getfield 37, 3) := by decide +kernel
theorem dX7_look_95 : decode cX7_look 95 = .ok (.aload_n 0, 1) := by decide +kernel
theorem dX7_look_96 : decode cX7_look 96 = .ok (.getfield 10, 3) := by decide +kernel
theorem dX7_look_99 : decode cX7_look 99 = .ok (.invokevirtual 281, 3) := by decide +kernel
theorem dX7_look_102 : decode cX7_look 102 = .ok (.iinc 4 1, 3) := by decide +kernel
theorem dX7_look_105 : decode cX7_look 105 = .ok (.goto (-71), 3) := by decide +kernel
theorem dX7_look_108 : decode cX7_look 108 = .ok (.iload_n 1, 1) := by decide +kernel
theorem dX7_look_109 : decode cX7_look 109 = .ok (.ifCond .eq 9, 3) := by decide +kernel
theorem dX7_look_112 : decode cX7_look 112 = .ok (.iload_n 3, 1) := by decide +kernel
theorem dX7_look_113 : decode cX7_look 113 = .ok (.bipush (-4), 2) := by decide +kernel
theorem dX7_look_115 : decode cX7_look 115 = .ok (.if_icmp .ne 7, 3) := by decide +kernel
theorem dX7_look_118 : decode cX7_look 118 = .ok (.iload_n 3, 1) := by decide +kernel
theorem dX7_look_119 : decode cX7_look 119 = .ok (.goto 4, 3) := by decide +kernel
theorem dX7_look_122 : decode cX7_look 122 = .ok (.iload_n 2, 1) := by decide +kernel
theorem dX7_look_123 : decode cX7_look 123 = .ok (.ireturn, 1) := by decide +kernel
theorem dX7_drift_0 : decode cX7_drift 0 = .ok (.iload_n 2, 1) := by decide +kernel
theorem dX7_drift_1 : decode cX7_drift 1 = .ok (.iconst 1, 1) := by decide +kernel
theorem dX7_drift_2 : decode cX7_drift 2 = .ok (.if_icmp .lt 16, 3) := by decide +kernel
theorem dX7_drift_5 : decode cX7_drift 5 = .ok (.iload_n 2, 1) := by decide +kernel
theorem dX7_drift_6 : decode cX7_drift 6 = .ok (.bipush 60, 2) := by decide +kernel
theorem dX7_drift_8 : decode cX7_drift 8 = .ok (.if_icmp .gt 10, 3) := by decide +kernel
theorem dX7_drift_11 : decode cX7_drift 11 = .ok (.iload_n 3, 1) := by decide +kernel
theorem dX7_drift_12 : decode cX7_drift 12 = .ok (.invokestatic 148, 3) := by decide +kernel
theorem dX7_drift_15 : decode cX7_drift 15 = .ok (.ifCond .ne 5, 3) := by decide +kernel
theorem dX7_drift_18 : decode cX7_drift 18 = .ok (.iconst (-1), 1) := by decide +kernel
theorem dX7_drift_19 : decode cX7_drift 19 = .ok (.ireturn, 1) := by decide +kernel
theorem dX7_drift_20 : decode cX7_drift 20 = .ok (.aload_n 0, 1) := by decide +kernel
theorem dX7_drift_21 : decode cX7_drift 21 = .ok (.getfield 10, 3) := by decide +kernel
theorem dX7_drift_24 : decode cX7_drift 24 = .ok (.getfield 98, 3) := by decide +kernel
theorem dX7_drift_27 : decode cX7_drift 27 = .ok (.ifCond .ne 6, 3) := by decide +kernel
theorem dX7_drift_30 : decode cX7_drift 30 = .ok (.bipush (-2), 2) := by decide +kernel
theorem dX7_drift_32 : decode cX7_drift 32 = .ok (.ireturn, 1) := by decide +kernel
theorem dX7_drift_33 : decode cX7_drift 33 = .ok (.aload_n 0, 1) := by decide +kernel
theorem dX7_drift_34 : decode cX7_drift 34 = .ok (.getfield 10, 3) := by decide +kernel
theorem dX7_drift_37 : decode cX7_drift 37 = .ok (.getfield 110, 3) := by decide +kernel
theorem dX7_drift_40 : decode cX7_drift 40 = .ok (.istore 4, 2) := by decide +kernel
theorem dX7_drift_42 : decode cX7_drift 42 = .ok (.iconst 0, 1) := by decide +kernel
theorem dX7_drift_43 : decode cX7_drift 43 = .ok (.istore 5, 2) := by decide +kernel
theorem dX7_drift_45 : decode cX7_drift 45 = .ok (.iload_n 1, 1) := by decide +kernel
theorem dX7_drift_46 : decode cX7_drift 46 = .ok (.istore 6, 2) := by decide +kernel
theorem dX7_drift_48 : decode cX7_drift 48 = .ok (.iconst 0, 1) := by decide +kernel
theorem dX7_drift_49 : decode cX7_drift 49 = .ok (.istore 7, 2) := by decide +kernel
theorem dX7_drift_51 : decode cX7_drift 51 = .ok (.iload 7, 2) := by decide +kernel
theorem dX7_drift_53 : decode cX7_drift 53 = .ok (.iload_n 2, 1) := by decide +kernel
theorem dX7_drift_54 : decode cX7_drift 54 = .ok (.if_icmp .ge 73, 3) := by decide +kernel
theorem dX7_drift_57 : decode cX7_drift 57 = .ok (.iload 6, 2) := by decide +kernel
theorem dX7_drift_59 : decode cX7_drift 59 = .ok (.ldc_w 284, 3) := by decide +kernel
theorem dX7_drift_62 : decode cX7_drift 62 = .ok (.imul, 1) := by decide +kernel
theorem dX7_drift_63 : decode cX7_drift 63 = .ok (.sipush 12345, 3) := by decide +kernel
theorem dX7_drift_66 : decode cX7_drift 66 = .ok (.iadd, 1) := by decide +kernel
theorem dX7_drift_67 : decode cX7_drift 67 = .ok (.istore 6, 2) := by decide +kernel
theorem dX7_drift_69 : decode cX7_drift 69 = .ok (.iload 6, 2) := by decide +kernel
theorem dX7_drift_71 : decode cX7_drift 71 = .ok (.bipush 16, 2) := by decide +kernel
theorem dX7_drift_73 : decode cX7_drift 73 = .ok (.iushr, 1) := by decide +kernel
theorem dX7_drift_74 : decode cX7_drift 74 = .ok (.sipush 32767, 3) := by decide +kernel
theorem dX7_drift_77 : decode cX7_drift 77 = .ok (.iand, 1) := by decide +kernel
theorem dX7_drift_78 : decode cX7_drift 78 = .ok (.aload_n 0, 1) := by decide +kernel
theorem dX7_drift_79 : decode cX7_drift 79 = .ok (.getfield 10, 3) := by decide +kernel
theorem dX7_drift_82 : decode cX7_drift 82 = .ok (.getfield 98, 3) := by decide +kernel
theorem dX7_drift_85 : decode cX7_drift 85 = .ok (.irem, 1) := by decide +kernel
theorem dX7_drift_86 : decode cX7_drift 86 = .ok (.istore 8, 2) := by decide +kernel
theorem dX7_drift_88 : decode cX7_drift 88 = .ok (.aload_n 0, 1) := by decide +kernel
theorem dX7_drift_89 : decode cX7_drift 89 = .ok (.getfield 10, 3) := by decide +kernel
theorem dX7_drift_92 : decode cX7_drift 92 = .ok (.iload 4, 2) := by decide +kernel
theorem dX7_drift_94 : decode cX7_drift 94 = .ok (.iload 8, 2) := by decide +kernel
theorem dX7_drift_96 : decode cX7_drift 96 = .ok (.invokestatic 175, 3) := by decide +kernel
theorem dX7_drift_99 : decode cX7_drift 99 = .ok (.invokevirtual 194, 3) := by decide +kernel
theorem dX7_drift_102 : decode cX7_drift 102 = .ok (.istore 4, 2) := by decide +kernel
theorem dX7_drift_104 : decode cX7_drift 104 = .ok (.iload 5, 2) := by decide +kernel
theorem dX7_drift_106 : decode cX7_drift 106 = .ok (.aload_n 0, 1) := by decide +kernel
theorem dX7_drift_107 : decode cX7_drift 107 = .ok (.getfield 10, 3) := by decide +kernel
theorem dX7_drift_110 : decode cX7_drift 110 = .ok (.iload 4, 2) := by decide +kernel
theorem dX7_drift_112 : decode cX7_drift 112 = .ok (.invokevirtual 113, 3) := by decide +kernel
theorem dX7_drift_115 : decode cX7_drift 115 = .ok (.invokestatic 117, 3) := by decide +kernel
theorem dX7_drift_118 : decode cX7_drift 118 = .ok (.iadd, 1) := by decide +kernel
theorem dX7_drift_119 : decode cX7_drift 119 = .ok (.istore 5, 2) := by decide +kernel
theorem dX7_drift_121 : decode cX7_drift 121 = .ok (.iinc 7 1, 3) := by decide +kernel
theorem dX7_drift_124 : decode cX7_drift 124 = .ok (.goto (-73), 3) := by decide +kernel
theorem dX7_drift_127 : decode cX7_drift 127 = .ok (.iload_n 3, 1) := by decide +kernel
theorem dX7_drift_128 : decode cX7_drift 128 = .ok (.ifCond .ne 8, 3) := by decide +kernel
theorem dX7_drift_131 : decode cX7_drift 131 = .ok (.iload 5, 2) := by decide +kernel
theorem dX7_drift_133 : decode cX7_drift 133 = .ok (.goto 5, 3) := by decide +kernel
theorem dX7_drift_136 : decode cX7_drift 136 = .ok (.iload 4, 2) := by decide +kernel
theorem dX7_drift_138 : decode cX7_drift 138 = .ok (.ireturn, 1) := by decide +kernel
theorem dX7_keep_0 : decode cX7_keep 0 = .ok (.iload_n 1, 1) := by decide +kernel
theorem dX7_keep_1 : decode cX7_keep 1 = .ok (.ifCond .lt 8, 3) := by decide +kernel
theorem dX7_keep_4 : decode cX7_keep 4 = .ok (.iload_n 1, 1) := by decide +kernel
theorem dX7_keep_5 : decode cX7_keep 5 = .ok (.iconst 2, 1) := by decide +kernel
theorem dX7_keep_6 : decode cX7_keep 6 = .ok (.if_icmp .lt 5, 3) := by decide +kernel
theorem dX7_keep_9 : decode cX7_keep 9 = .ok (.iconst (-1), 1) := by decide +kernel
theorem dX7_keep_10 : decode cX7_keep 10 = .ok (.ireturn, 1) := by decide +kernel
theorem dX7_keep_11 : decode cX7_keep 11 = .ok (.aload_n 0, 1) := by decide +kernel
theorem dX7_keep_12 : decode cX7_keep 12 = .ok (.getfield 23, 3) := by decide +kernel
theorem dX7_keep_15 : decode cX7_keep 15 = .ok (.iload_n 1, 1) := by decide +kernel
theorem dX7_keep_16 : decode cX7_keep 16 = .ok (.baload, 1) := by decide +kernel
theorem dX7_keep_17 : decode cX7_keep 17 = .ok (.invokestatic 117, 3) := by decide +kernel
theorem dX7_keep_20 : decode cX7_keep 20 = .ok (.istore_n 2, 1) := by decide +kernel
theorem dX7_keep_21 : decode cX7_keep 21 = .ok (.aload_n 0, 1) := by decide +kernel
theorem dX7_keep_22 : decode cX7_keep 22 = .ok (.getfield 19, 3) := by decide +kernel
theorem dX7_keep_25 : decode cX7_keep 25 = .ok (.iload_n 1, 1) := by decide +kernel
theorem dX7_keep_26 : decode cX7_keep 26 = .ok (.aaload, 1) := by decide +kernel
theorem dX7_keep_27 : decode cX7_keep 27 = .ok (.aload_n 0, 1) := by decide +kernel
theorem dX7_keep_28 : decode cX7_keep 28 = .ok (.getfield 10, 3) := by decide +kernel
theorem dX7_keep_31 : decode cX7_keep 31 = .ok (.invokevirtual 88, 3) := by decide +kernel
theorem dX7_keep_34 : decode cX7_keep 34 = .ok (.aload_n 0, 1) := by decide +kernel
theorem dX7_keep_35 : decode cX7_keep 35 = .ok (.getfield 23, 3) := by decide +kernel
theorem dX7_keep_38 : decode cX7_keep 38 = .ok (.iload_n 1, 1) := by decide +kernel
theorem dX7_keep_39 : decode cX7_keep 39 = .ok (.iconst 1, 1) := by decide +kernel
theorem dX7_keep_40 : decode cX7_keep 40 = .ok (.bastore, 1) := by decide +kernel
theorem dX7_keep_41 : decode cX7_keep 41 = .ok (.iload_n 2, 1) := by decide +kernel
theorem dX7_keep_42 : decode cX7_keep 42 = .ok (.ireturn, 1) := by decide +kernel
theorem dX7_back_0 : decode cX7_back 0 = .ok (.iload_n 1, 1) := by decide +kernel
theorem dX7_back_1 : decode cX7_back 1 = .ok (.ifCond .lt 8, 3) := by decide +kernel
theorem dX7_back_4 : decode cX7_back 4 = .ok (.iload_n 1, 1) := by decide +kernel
theorem dX7_back_5 : decode cX7_back 5 = .ok (.iconst 2, 1) := by decide +kernel
theorem dX7_back_6 : decode cX7_back 6 = .ok (.if_icmp .lt 5, 3) := by decide +kernel
theorem dX7_back_9 : decode cX7_back 9 = .ok (.iconst (-1), 1) := by decide +kernel
theorem dX7_back_10 : decode cX7_back 10 = .ok (.ireturn, 1) := by decide +kernel
theorem dX7_back_11 : decode cX7_back 11 = .ok (.aload_n 0, 1) := by decide +kernel
theorem dX7_back_12 : decode cX7_back 12 = .ok (.getfield 23, 3) := by decide +kernel
theorem dX7_back_15 : decode cX7_back 15 = .ok (.iload_n 1, 1) := by decide +kernel
theorem dX7_back_16 : decode cX7_back 16 = .ok (.baload, 1) := by decide +kernel
theorem dX7_back_17 : decode cX7_back 17 = .ok (.ifCond .ne 6, 3) := by decide +kernel
theorem dX7_back_20 : decode cX7_back 20 = .ok (.bipush (-2), 2) := by decide +kernel
theorem dX7_back_22 : decode cX7_back 22 = .ok (.ireturn, 1) := by decide +kernel
theorem dX7_back_23 : decode cX7_back 23 = .ok (.aload_n 0, 1) := by decide +kernel
theorem dX7_back_24 : decode cX7_back 24 = .ok (.getfield 10, 3) := by decide +kernel
theorem dX7_back_27 : decode cX7_back 27 = .ok (.aload_n 0, 1) := by decide +kernel
theorem dX7_back_28 : decode cX7_back 28 = .ok (.getfield 19, 3) := by decide +kernel
theorem dX7_back_31 : decode cX7_back 31 = .ok (.iload_n 1, 1) := by decide +kernel
theorem dX7_back_32 : decode cX7_back 32 = .ok (.aaload, 1) := by decide +kernel
theorem dX7_back_33 : decode cX7_back 33 = .ok (.invokevirtual 88, 3) := by decide +kernel
theorem dX7_back_36 : decode cX7_back 36 = .ok (.aload_n 0, 1) := by decide +kernel
theorem dX7_back_37 : decode cX7_back 37 = .ok (.getfield 10, 3) := by decide +kernel
theorem dX7_back_40 : decode cX7_back 40 = .ok (.getfield 107, 3) := by decide +kernel
theorem dX7_back_43 : decode cX7_back 43 = .ok (.ireturn, 1) := by decide +kernel
theorem dX7_sheet_0 : decode cX7_sheet 0 = .ok (.iload_n 1, 1) := by decide +kernel
theorem dX7_sheet_1 : decode cX7_sheet 1 = .ok (.invokestatic 285, 3) := by decide +kernel
theorem dX7_sheet_4 : decode cX7_sheet 4 = .ok (.ifCond .eq 16, 3) := by decide +kernel
theorem dX7_sheet_7 : decode cX7_sheet 7 = .ok (.iload_n 2, 1) := by decide +kernel
theorem dX7_sheet_8 : decode cX7_sheet 8 = .ok (.invokestatic 288, 3) := by decide +kernel
theorem dX7_sheet_11 : decode cX7_sheet 11 = .ok (.ifCond .eq 9, 3) := by decide +kernel
theorem dX7_sheet_14 : decode cX7_sheet 14 = .ok (.iload_n 3, 1) := by decide +kernel
theorem dX7_sheet_15 : decode cX7_sheet 15 = .ok (.bipush 40, 2) := by decide +kernel
theorem dX7_sheet_17 : decode cX7_sheet 17 = .ok (.if_icmp .le 5, 3) := by decide +kernel
theorem dX7_sheet_20 : decode cX7_sheet 20 = .ok (.iconst (-1), 1) := by decide +kernel
theorem dX7_sheet_21 : decode cX7_sheet 21 = .ok (.ireturn, 1) := by decide +kernel
theorem dX7_sheet_22 : decode cX7_sheet 22 = .ok (.iload_n 3, 1) := by decide +kernel
theorem dX7_sheet_23 : decode cX7_sheet 23 = .ok (.ifCond .ge 6, 3) := by decide +kernel
theorem dX7_sheet_26 : decode cX7_sheet 26 = .ok (.bipush (-14), 2) := by decide +kernel
theorem dX7_sheet_28 : decode cX7_sheet 28 = .ok (.ireturn, 1) := by decide +kernel
theorem dX7_sheet_29 : decode cX7_sheet 29 = .ok (.aload_n 0, 1) := by decide +kernel
theorem dX7_sheet_30 : decode cX7_sheet 30 = .ok (.getfield 57, 3) := by decide +kernel
theorem dX7_sheet_33 : decode cX7_sheet 33 = .ok (.iload_n 1, 1) := by decide +kernel
theorem dX7_sheet_34 : decode cX7_sheet 34 = .ok (.aaload, 1) := by decide +kernel
theorem dX7_sheet_35 : decode cX7_sheet 35 = .ok (.iload_n 2, 1) := by decide +kernel
theorem dX7_sheet_36 : decode cX7_sheet 36 = .ok (.iload_n 3, 1) := by decide +kernel
theorem dX7_sheet_37 : decode cX7_sheet 37 = .ok (.invokevirtual 291, 3) := by decide +kernel
theorem dX7_sheet_40 : decode cX7_sheet 40 = .ok (.iconst 1, 1) := by decide +kernel
theorem dX7_sheet_41 : decode cX7_sheet 41 = .ok (.ireturn, 1) := by decide +kernel
theorem dX7_lay_0 : decode cX7_lay 0 = .ok (.iload_n 1, 1) := by decide +kernel
theorem dX7_lay_1 : decode cX7_lay 1 = .ok (.invokestatic 285, 3) := by decide +kernel
theorem dX7_lay_4 : decode cX7_lay 4 = .ok (.ifCond .ne 5, 3) := by decide +kernel
theorem dX7_lay_7 : decode cX7_lay 7 = .ok (.iconst (-1), 1) := by decide +kernel
theorem dX7_lay_8 : decode cX7_lay 8 = .ok (.ireturn, 1) := by decide +kernel
theorem dX7_lay_9 : decode cX7_lay 9 = .ok (.aload_n 0, 1) := by decide +kernel
theorem dX7_lay_10 : decode cX7_lay 10 = .ok (.getfield 57, 3) := by decide +kernel
theorem dX7_lay_13 : decode cX7_lay 13 = .ok (.iload_n 1, 1) := by decide +kernel
theorem dX7_lay_14 : decode cX7_lay 14 = .ok (.aaload, 1) := by decide +kernel
theorem dX7_lay_15 : decode cX7_lay 15 = .ok (.astore 4, 2) := by decide +kernel
theorem dX7_lay_17 : decode cX7_lay 17 = .ok (.aload 4, 2) := by decide +kernel
theorem dX7_lay_19 : decode cX7_lay 19 = .ok (.aload 4, 2) := by decide +kernel
theorem dX7_lay_21 : decode cX7_lay 21 = .ok (.getfield 294, 3) := by decide +kernel
theorem dX7_lay_24 : decode cX7_lay 24 = .ok (.iload_n 2, 1) := by decide +kernel
theorem dX7_lay_25 : decode cX7_lay 25 = .ok (.invokevirtual 297, 3) := by decide +kernel
theorem dX7_lay_28 : decode cX7_lay 28 = .ok (.istore 5, 2) := by decide +kernel
theorem dX7_lay_30 : decode cX7_lay 30 = .ok (.iload 5, 2) := by decide +kernel
theorem dX7_lay_32 : decode cX7_lay 32 = .ok (.ifCond .eq 9, 3) := by decide +kernel
theorem dX7_lay_35 : decode cX7_lay 35 = .ok (.bipush (-10), 2) := by decide +kernel
theorem dX7_lay_37 : decode cX7_lay 37 = .ok (.iload 5, 2) := by decide +kernel
theorem dX7_lay_39 : decode cX7_lay 39 = .ok (.isub, 1) := by decide +kernel
theorem dX7_lay_40 : decode cX7_lay 40 = .ok (.ireturn, 1) := by decide +kernel
theorem dX7_lay_41 : decode cX7_lay 41 = .ok (.aload 4, 2) := by decide +kernel
theorem dX7_lay_43 : decode cX7_lay 43 = .ok (.iload_n 2, 1) := by decide +kernel
theorem dX7_lay_44 : decode cX7_lay 44 = .ok (.iload_n 3, 1) := by decide +kernel
theorem dX7_lay_45 : decode cX7_lay 45 = .ok (.invokevirtual 300, 3) := by decide +kernel
theorem dX7_lay_48 : decode cX7_lay 48 = .ok (.iconst 1, 1) := by decide +kernel
theorem dX7_lay_49 : decode cX7_lay 49 = .ok (.ireturn, 1) := by decide +kernel
theorem dX7_read_0 : decode cX7_read 0 = .ok (.iload_n 1, 1) := by decide +kernel
theorem dX7_read_1 : decode cX7_read 1 = .ok (.invokestatic 285, 3) := by decide +kernel
theorem dX7_read_4 : decode cX7_read 4 = .ok (.ifCond .eq 22, 3) := by decide +kernel
theorem dX7_read_7 : decode cX7_read 7 = .ok (.iload_n 2, 1) := by decide +kernel
theorem dX7_read_8 : decode cX7_read 8 = .ok (.invokestatic 288, 3) := by decide +kernel
theorem dX7_read_11 : decode cX7_read 11 = .ok (.ifCond .eq 15, 3) := by decide +kernel
theorem dX7_read_14 : decode cX7_read 14 = .ok (.iload 4, 2) := by decide +kernel
theorem dX7_read_16 : decode cX7_read 16 = .ok (.ifCond .lt 10, 3) := by decide +kernel
theorem dX7_read_19 : decode cX7_read 19 = .ok (.iload 4, 2) := by decide +kernel
theorem dX7_read_21 : decode cX7_read 21 = .ok (.bipush 20, 2) := by decide +kernel
theorem dX7_read_23 : decode cX7_read 23 = .ok (.if_icmp .le 5, 3) := by decide +kernel
theorem dX7_read_26 : decode cX7_read 26 = .ok (.iconst (-1), 1) := by decide +kernel
theorem dX7_read_27 : decode cX7_read 27 = .ok (.ireturn, 1) := by decide +kernel
theorem dX7_read_28 : decode cX7_read 28 = .ok (.aload_n 0, 1) := by decide +kernel
theorem dX7_read_29 : decode cX7_read 29 = .ok (.getfield 10, 3) := by decide +kernel
theorem dX7_read_32 : decode cX7_read 32 = .ok (.getfield 110, 3) := by decide +kernel
theorem dX7_read_35 : decode cX7_read 35 = .ok (.istore 5, 2) := by decide +kernel
theorem dX7_read_37 : decode cX7_read 37 = .ok (.aload_n 0, 1) := by decide +kernel
theorem dX7_read_38 : decode cX7_read 38 = .ok (.getfield 10, 3) := by decide +kernel
theorem dX7_read_41 : decode cX7_read 41 = .ok (.getfield 107, 3) := by decide +kernel
theorem dX7_read_44 : decode cX7_read 44 = .ok (.istore 6, 2) := by decide +kernel
theorem dX7_read_46 : decode cX7_read 46 = .ok (.iconst 0, 1) := by decide +kernel
theorem dX7_read_47 : decode cX7_read 47 = .ok (.istore 7, 2) := by decide +kernel
theorem dX7_read_49 : decode cX7_read 49 = .ok (.iconst 0, 1) := by decide +kernel
theorem dX7_read_50 : decode cX7_read 50 = .ok (.istore 8, 2) := by decide +kernel
theorem dX7_read_52 : decode cX7_read 52 = .ok (.iload 8, 2) := by decide +kernel
theorem dX7_read_54 : decode cX7_read 54 = .ok (.iload 4, 2) := by decide +kernel
theorem dX7_read_56 : decode cX7_read 56 = .ok (.if_icmp .ge 80, 3) := by decide +kernel
theorem dX7_read_59 : decode cX7_read 59 = .ok (.iload 7, 2) := by decide +kernel
theorem dX7_read_61 : decode cX7_read 61 = .ok (.ifCond .ne 75, 3) := by decide +kernel
theorem dX7_read_64 : decode cX7_read 64 = .ok (.aload_n 0, 1) := by decide +kernel
theorem dX7_read_65 : decode cX7_read 65 = .ok (.getfield 57, 3) := by decide +kernel
theorem dX7_read_68 : decode cX7_read 68 = .ok (.iload_n 1, 1) := by decide +kernel
theorem dX7_read_69 : decode cX7_read 69 = .ok (.aaload, 1) := by decide +kernel
theorem dX7_read_70 : decode cX7_read 70 = .ok (.iload_n 2, 1) := by decide +kernel
theorem dX7_read_71 : decode cX7_read 71 = .ok (.iload_n 3, 1) := by decide +kernel
theorem dX7_read_72 : decode cX7_read 72 = .ok (.iload 8, 2) := by decide +kernel
theorem dX7_read_74 : decode cX7_read 74 = .ok (.iadd, 1) := by decide +kernel
theorem dX7_read_75 : decode cX7_read 75 = .ok (.invokevirtual 297, 3) := by decide +kernel
theorem dX7_read_78 : decode cX7_read 78 = .ok (.istore 7, 2) := by decide +kernel
theorem dX7_read_80 : decode cX7_read 80 = .ok (.iload 7, 2) := by decide +kernel
theorem dX7_read_82 : decode cX7_read 82 = .ok (.ifCond .ne (-30), 3) := by decide +kernel
theorem dX7_read_85 : decode cX7_read 85 = .ok (.aload_n 0, 1) := by decide +kernel
theorem dX7_read_86 : decode cX7_read 86 = .ok (.aload_n 0, 1) := by decide +kernel
theorem dX7_read_87 : decode cX7_read 87 = .ok (.getfield 57, 3) := by decide +kernel
theorem dX7_read_90 : decode cX7_read 90 = .ok (.iload_n 1, 1) := by decide +kernel
theorem dX7_read_91 : decode cX7_read 91 = .ok (.aaload, 1) := by decide +kernel
theorem dX7_read_92 : decode cX7_read 92 = .ok (.getfield 302, 3) := by decide +kernel
theorem dX7_read_95 : decode cX7_read 95 = .ok (.iload_n 3, 1) := by decide +kernel
theorem dX7_read_96 : decode cX7_read 96 = .ok (.iload 8, 2) := by decide +kernel
theorem dX7_read_98 : decode cX7_read 98 = .ok (.iadd, 1) := by decide +kernel
theorem dX7_read_99 : decode cX7_read 99 = .ok (.iaload, 1) := by decide +kernel
theorem dX7_read_100 : decode cX7_read 100 = .ok (.invokevirtual 305, 3) := by decide +kernel
theorem dX7_read_103 : decode cX7_read 103 = .ok (.ifCond .ne 27, 3) := by decide +kernel
theorem dX7_read_106 : decode cX7_read 106 = .ok (.aload_n 0, 1) := by decide +kernel
theorem dX7_read_107 : decode cX7_read 107 = .ok (.getfield 10, 3) := by decide +kernel
theorem dX7_read_110 : decode cX7_read 110 = .ok (.iload 5, 2) := by decide +kernel
theorem dX7_read_112 : decode cX7_read 112 = .ok (.putfield 110, 3) := by decide +kernel
theorem dX7_read_115 : decode cX7_read 115 = .ok (.aload_n 0, 1) := by decide +kernel
theorem dX7_read_116 : decode cX7_read 116 = .ok (.getfield 10, 3) := by decide +kernel
theorem dX7_read_119 : decode cX7_read 119 = .ok (.iload 6, 2) := by decide +kernel
theorem dX7_read_121 : decode cX7_read 121 = .ok (.putfield 107, 3) := by decide +kernel
theorem dX7_read_124 : decode cX7_read 124 = .ok (.bipush (-20), 2) := by decide +kernel
theorem dX7_read_126 : decode cX7_read 126 = .ok (.iload 8, 2) := by decide +kernel
theorem dX7_read_128 : decode cX7_read 128 = .ok (.isub, 1) := by decide +kernel
theorem dX7_read_129 : decode cX7_read 129 = .ok (.ireturn, 1) := by decide +kernel
theorem dX7_read_130 : decode cX7_read 130 = .ok (.iinc 8 1, 3) := by decide +kernel
theorem dX7_read_133 : decode cX7_read 133 = .ok (.goto (-81), 3) := by decide +kernel
theorem dX7_read_136 : decode cX7_read 136 = .ok (.aload_n 0, 1) := by decide +kernel
theorem dX7_read_137 : decode cX7_read 137 = .ok (.iload 7, 2) := by decide +kernel
theorem dX7_read_139 : decode cX7_read 139 = .ok (.putfield 308, 3) := by decide +kernel
theorem dX7_read_142 : decode cX7_read 142 = .ok (.iload 8, 2) := by decide +kernel
theorem dX7_read_144 : decode cX7_read 144 = .ok (.ireturn, 1) := by decide +kernel
theorem dX7_torn_0 : decode cX7_torn 0 = .ok (.aload_n 0, 1) := by decide +kernel
theorem dX7_torn_1 : decode cX7_torn 1 = .ok (.getfield 308, 3) := by decide +kernel
theorem dX7_torn_4 : decode cX7_torn 4 = .ok (.ireturn, 1) := by decide +kernel
theorem dX7_count_0 : decode cX7_count 0 = .ok (.iload_n 1, 1) := by decide +kernel
theorem dX7_count_1 : decode cX7_count 1 = .ok (.tableswitch 125 0 5 #[39, 47, 67, 78, 106, 117], 39) := by decide +kernel
theorem dX7_count_40 : decode cX7_count 40 = .ok (.aload_n 0, 1) := by decide +kernel
theorem dX7_count_41 : decode cX7_count 41 = .ok (.getfield 37, 3) := by decide +kernel
theorem dX7_count_44 : decode cX7_count 44 = .ok (.getfield 92, 3) := by decide +kernel
theorem dX7_count_47 : decode cX7_count 47 = .ok (.ireturn, 1) := by decide +kernel
theorem dX7_count_48 : decode cX7_count 48 = .ok (.aload_n 0, 1) := by decide +kernel
theorem dX7_count_49 : decode cX7_count 49 = .ok (.getfield 23, 3) := by decide +kernel
theorem dX7_count_52 : decode cX7_count 52 = .ok (.iconst 0, 1) := by decide +kernel
theorem dX7_count_53 : decode cX7_count 53 = .ok (.baload, 1) := by decide +kernel
theorem dX7_count_54 : decode cX7_count 54 = .ok (.invokestatic 117, 3) := by decide +kernel
theorem dX7_count_57 : decode cX7_count 57 = .ok (.aload_n 0, 1) := by decide +kernel
theorem dX7_count_58 : decode cX7_count 58 = .ok (.getfield 23, 3) := by decide +kernel
theorem dX7_count_61 : decode cX7_count 61 = .ok (.iconst 1, 1) := by decide +kernel
theorem dX7_count_62 : decode cX7_count 62 = .ok (.baload, 1) := by decide +kernel
theorem dX7_count_63 : decode cX7_count 63 = .ok (.invokestatic 117, 3) := by decide +kernel
theorem dX7_count_66 : decode cX7_count 66 = .ok (.iadd, 1) := by decide +kernel
theorem dX7_count_67 : decode cX7_count 67 = .ok (.ireturn, 1) := by decide +kernel
theorem dX7_count_68 : decode cX7_count 68 = .ok (.aload_n 0, 1) := by decide +kernel
theorem dX7_count_69 : decode cX7_count 69 = .ok (.getfield 30, 3) := by decide +kernel
theorem dX7_count_72 : decode cX7_count 72 = .ok (.getfield 62, 3) := by decide +kernel
theorem dX7_count_75 : decode cX7_count 75 = .ok (.getfield 66, 3) := by decide +kernel
theorem dX7_count_78 : decode cX7_count 78 = .ok (.ireturn, 1) := by decide +kernel
theorem dX7_count_79 : decode cX7_count 79 = .ok (.aload_n 0, 1) := by decide +kernel
theorem dX7_count_80 : decode cX7_count 80 = .ok (.getfield 57, 3) := by decide +kernel
theorem dX7_count_83 : decode cX7_count 83 = .ok (.iconst 0, 1) := by decide +kernel
theorem dX7_count_84 : decode cX7_count 84 = .ok (.aaload, 1) := by decide +kernel
theorem dX7_count_85 : decode cX7_count 85 = .ok (.getfield 294, 3) := by decide +kernel
theorem dX7_count_88 : decode cX7_count 88 = .ok (.iconst (-1), 1) := by decide +kernel
theorem dX7_count_89 : decode cX7_count 89 = .ok (.if_icmp .ne 8, 3) := by decide +kernel
theorem dX7_count_92 : decode cX7_count 92 = .ok (.bipush (-4), 2) := by decide +kernel
theorem dX7_count_94 : decode cX7_count 94 = .ok (.goto 12, 3) := by decide +kernel
theorem dX7_count_97 : decode cX7_count 97 = .ok (.aload_n 0, 1) := by decide +kernel
theorem dX7_count_98 : decode cX7_count 98 = .ok (.getfield 57, 3) := by decide +kernel
theorem dX7_count_101 : decode cX7_count 101 = .ok (.iconst 0, 1) := by decide +kernel
theorem dX7_count_102 : decode cX7_count 102 = .ok (.aaload, 1) := by decide +kernel
theorem dX7_count_103 : decode cX7_count 103 = .ok (.getfield 311, 3) := by decide +kernel
theorem dX7_count_106 : decode cX7_count 106 = .ok (.ireturn, 1) := by decide +kernel
theorem dX7_count_107 : decode cX7_count 107 = .ok (.aload_n 0, 1) := by decide +kernel
theorem dX7_count_108 : decode cX7_count 108 = .ok (.getfield 10, 3) := by decide +kernel
theorem dX7_count_111 : decode cX7_count 111 = .ok (.getfield 110, 3) := by decide +kernel
theorem dX7_count_114 : decode cX7_count 114 = .ok (.invokestatic 314, 3) := by decide +kernel
theorem dX7_count_117 : decode cX7_count 117 = .ok (.ireturn, 1) := by decide +kernel
theorem dX7_count_118 : decode cX7_count 118 = .ok (.aload_n 0, 1) := by decide +kernel
theorem dX7_count_119 : decode cX7_count 119 = .ok (.getfield 10, 3) := by decide +kernel
theorem dX7_count_122 : decode cX7_count 122 = .ok (.invokevirtual 318, 3) := by decide +kernel
theorem dX7_count_125 : decode cX7_count 125 = .ok (.ireturn, 1) := by decide +kernel
theorem dX7_count_126 : decode cX7_count 126 = .ok (.iconst (-1), 1) := by decide +kernel
theorem dX7_count_127 : decode cX7_count 127 = .ok (.ireturn, 1) := by decide +kernel
theorem dX7_visit_0 : decode cX7_visit 0 = .ok (.aload_n 0, 1) := by decide +kernel
theorem dX7_visit_1 : decode cX7_visit 1 = .ok (.iload_n 1, 1) := by decide +kernel
theorem dX7_visit_2 : decode cX7_visit 2 = .ok (.invokevirtual 321, 3) := by decide +kernel
theorem dX7_visit_5 : decode cX7_visit 5 = .ok (.ifCond .lt 15, 3) := by decide +kernel
theorem dX7_visit_8 : decode cX7_visit 8 = .ok (.aload_n 0, 1) := by decide +kernel
theorem dX7_visit_9 : decode cX7_visit 9 = .ok (.iconst 1, 1) := by decide +kernel
theorem dX7_visit_10 : decode cX7_visit 10 = .ok (.invokevirtual 324, 3) := by decide +kernel
theorem dX7_visit_13 : decode cX7_visit 13 = .ok (.ifCond .lt 7, 3) := by decide +kernel
theorem dX7_visit_16 : decode cX7_visit 16 = .ok (.iconst 1, 1) := by decide +kernel
theorem dX7_visit_17 : decode cX7_visit 17 = .ok (.goto 4, 3) := by decide +kernel
theorem dX7_visit_20 : decode cX7_visit 20 = .ok (.iconst 0, 1) := by decide +kernel
theorem dX7_visit_21 : decode cX7_visit 21 = .ok (.ireturn, 1) := by decide +kernel
theorem dX7_afterSlips_0 : decode cX7_afterSlips 0 = .ok (.iload_n 1, 1) := by decide +kernel
theorem dX7_afterSlips_1 : decode cX7_afterSlips 1 = .ok (.ifCond .lt 16, 3) := by decide +kernel
theorem dX7_afterSlips_4 : decode cX7_afterSlips 4 = .ok (.iload_n 1, 1) := by decide +kernel
theorem dX7_afterSlips_5 : decode cX7_afterSlips 5 = .ok (.bipush 10, 2) := by decide +kernel
theorem dX7_afterSlips_7 : decode cX7_afterSlips 7 = .ok (.if_icmp .gt 10, 3) := by decide +kernel
theorem dX7_afterSlips_10 : decode cX7_afterSlips 10 = .ok (.iload_n 2, 1) := by decide +kernel
theorem dX7_afterSlips_11 : decode cX7_afterSlips 11 = .ok (.invokestatic 148, 3) := by decide +kernel
theorem dX7_afterSlips_14 : decode cX7_afterSlips 14 = .ok (.ifCond .ne 7, 3) := by decide +kernel
theorem dX7_afterSlips_17 : decode cX7_afterSlips 17 = .ok (.ldc2_w 327, 3) := by decide +kernel
theorem dX7_afterSlips_20 : decode cX7_afterSlips 20 = .ok (.lreturn, 1) := by decide +kernel
theorem dX7_afterSlips_21 : decode cX7_afterSlips 21 = .ok (.aload_n 0, 1) := by decide +kernel
theorem dX7_afterSlips_22 : decode cX7_afterSlips 22 = .ok (.getfield 10, 3) := by decide +kernel
theorem dX7_afterSlips_25 : decode cX7_afterSlips 25 = .ok (.aload_n 0, 1) := by decide +kernel
theorem dX7_afterSlips_26 : decode cX7_afterSlips 26 = .ok (.getfield 10, 3) := by decide +kernel
theorem dX7_afterSlips_29 : decode cX7_afterSlips 29 = .ok (.getfield 110, 3) := by decide +kernel
theorem dX7_afterSlips_32 : decode cX7_afterSlips 32 = .ok (.invokevirtual 194, 3) := by decide +kernel
theorem dX7_afterSlips_35 : decode cX7_afterSlips 35 = .ok (.istore 4, 2) := by decide +kernel
theorem dX7_afterSlips_37 : decode cX7_afterSlips 37 = .ok (.lconst 0, 1) := by decide +kernel
theorem dX7_afterSlips_38 : decode cX7_afterSlips 38 = .ok (.lstore 5, 2) := by decide +kernel
theorem dX7_afterSlips_40 : decode cX7_afterSlips 40 = .ok (.iconst 0, 1) := by decide +kernel
theorem dX7_afterSlips_41 : decode cX7_afterSlips 41 = .ok (.istore 7, 2) := by decide +kernel
theorem dX7_afterSlips_43 : decode cX7_afterSlips 43 = .ok (.iload 7, 2) := by decide +kernel
theorem dX7_afterSlips_45 : decode cX7_afterSlips 45 = .ok (.aload_n 0, 1) := by decide +kernel
theorem dX7_afterSlips_46 : decode cX7_afterSlips 46 = .ok (.getfield 10, 3) := by decide +kernel
theorem dX7_afterSlips_49 : decode cX7_afterSlips 49 = .ok (.invokevirtual 210, 3) := by decide +kernel
theorem dX7_afterSlips_52 : decode cX7_afterSlips 52 = .ok (.if_icmp .ge 64, 3) := by decide +kernel
theorem dX7_afterSlips_55 : decode cX7_afterSlips 55 = .ok (.iload 7, 2) := by decide +kernel
theorem dX7_afterSlips_57 : decode cX7_afterSlips 57 = .ok (.invokestatic 314, 3) := by decide +kernel
theorem dX7_afterSlips_60 : decode cX7_afterSlips 60 = .ok (.istore 8, 2) := by decide +kernel
theorem dX7_afterSlips_62 : decode cX7_afterSlips 62 = .ok (.iload_n 1, 1) := by decide +kernel
theorem dX7_afterSlips_63 : decode cX7_afterSlips 63 = .ok (.iload 8, 2) := by decide +kernel
theorem dX7_afterSlips_65 : decode cX7_afterSlips 65 = .ok (.invokestatic 329, 3) := by decide +kernel
theorem dX7_afterSlips_68 : decode cX7_afterSlips 68 = .ok (.bipush 10, 2) := by decide +kernel
theorem dX7_afterSlips_70 : decode cX7_afterSlips 70 = .ok (.iload_n 1, 1) := by decide +kernel
theorem dX7_afterSlips_71 : decode cX7_afterSlips 71 = .ok (.isub, 1) := by decide +kernel
theorem dX7_afterSlips_72 : decode cX7_afterSlips 72 = .ok (.aload_n 0, 1) := by decide +kernel
theorem dX7_afterSlips_73 : decode cX7_afterSlips 73 = .ok (.getfield 10, 3) := by decide +kernel
theorem dX7_afterSlips_76 : decode cX7_afterSlips 76 = .ok (.getfield 98, 3) := by decide +kernel
theorem dX7_afterSlips_79 : decode cX7_afterSlips 79 = .ok (.iload 8, 2) := by decide +kernel
theorem dX7_afterSlips_81 : decode cX7_afterSlips 81 = .ok (.isub, 1) := by decide +kernel
theorem dX7_afterSlips_82 : decode cX7_afterSlips 82 = .ok (.invokestatic 329, 3) := by decide +kernel
theorem dX7_afterSlips_85 : decode cX7_afterSlips 85 = .ok (.lmul, 1) := by decide +kernel
theorem dX7_afterSlips_86 : decode cX7_afterSlips 86 = .ok (.lstore 9, 2) := by decide +kernel
theorem dX7_afterSlips_88 : decode cX7_afterSlips 88 = .ok (.lload 5, 2) := by decide +kernel
theorem dX7_afterSlips_90 : decode cX7_afterSlips 90 = .ok (.lload 9, 2) := by decide +kernel
theorem dX7_afterSlips_92 : decode cX7_afterSlips 92 = .ok (.aload_n 0, 1) := by decide +kernel
theorem dX7_afterSlips_93 : decode cX7_afterSlips 93 = .ok (.getfield 10, 3) := by decide +kernel
theorem dX7_afterSlips_96 : decode cX7_afterSlips 96 = .ok (.iload 4, 2) := by decide +kernel
theorem dX7_afterSlips_98 : decode cX7_afterSlips 98 = .ok (.iload 7, 2) := by decide +kernel
theorem dX7_afterSlips_100 : decode cX7_afterSlips 100 = .ok (.ixor, 1) := by decide +kernel
theorem dX7_afterSlips_101 : decode cX7_afterSlips 101 = .ok (.iload_n 3, 1) := by decide +kernel
theorem dX7_afterSlips_102 : decode cX7_afterSlips 102 = .ok (.invokevirtual 333, 3) := by decide +kernel
theorem dX7_afterSlips_105 : decode cX7_afterSlips 105 = .ok (.i2l, 1) := by decide +kernel
theorem dX7_afterSlips_106 : decode cX7_afterSlips 106 = .ok (.lmul, 1) := by decide +kernel
theorem dX7_afterSlips_107 : decode cX7_afterSlips 107 = .ok (.ladd, 1) := by decide +kernel
theorem dX7_afterSlips_108 : decode cX7_afterSlips 108 = .ok (.lstore 5, 2) := by decide +kernel
theorem dX7_afterSlips_110 : decode cX7_afterSlips 110 = .ok (.iinc 7 1, 3) := by decide +kernel
theorem dX7_afterSlips_113 : decode cX7_afterSlips 113 = .ok (.goto (-70), 3) := by decide +kernel
theorem dX7_afterSlips_116 : decode cX7_afterSlips 116 = .ok (.bipush 10, 2) := by decide +kernel
theorem dX7_afterSlips_118 : decode cX7_afterSlips 118 = .ok (.aload_n 0, 1) := by decide +kernel
theorem dX7_afterSlips_119 : decode cX7_afterSlips 119 = .ok (.getfield 10, 3) := by decide +kernel
theorem dX7_afterSlips_122 : decode cX7_afterSlips 122 = .ok (.getfield 98, 3) := by decide +kernel
theorem dX7_afterSlips_125 : decode cX7_afterSlips 125 = .ok (.invokestatic 329, 3) := by decide +kernel
theorem dX7_afterSlips_128 : decode cX7_afterSlips 128 = .ok (.lstore 7, 2) := by decide +kernel
theorem dX7_afterSlips_130 : decode cX7_afterSlips 130 = .ok (.lload 5, 2) := by decide +kernel
theorem dX7_afterSlips_132 : decode cX7_afterSlips 132 = .ok (.lload 7, 2) := by decide +kernel
theorem dX7_afterSlips_134 : decode cX7_afterSlips 134 = .ok (.invokestatic 336, 3) := by decide +kernel
theorem dX7_afterSlips_137 : decode cX7_afterSlips 137 = .ok (.lstore 9, 2) := by decide +kernel
theorem dX7_afterSlips_139 : decode cX7_afterSlips 139 = .ok (.lload 9, 2) := by decide +kernel
theorem dX7_afterSlips_141 : decode cX7_afterSlips 141 = .ok (.lconst 1, 1) := by decide +kernel
theorem dX7_afterSlips_142 : decode cX7_afterSlips 142 = .ok (.lcmp, 1) := by decide +kernel
theorem dX7_afterSlips_143 : decode cX7_afterSlips 143 = .ok (.ifCond .ge 7, 3) := by decide +kernel
theorem dX7_afterSlips_146 : decode cX7_afterSlips 146 = .ok (.ldc2_w 327, 3) := by decide +kernel
theorem dX7_afterSlips_149 : decode cX7_afterSlips 149 = .ok (.lreturn, 1) := by decide +kernel
theorem dX7_afterSlips_150 : decode cX7_afterSlips 150 = .ok (.iload_n 2, 1) := by decide +kernel
theorem dX7_afterSlips_151 : decode cX7_afterSlips 151 = .ok (.ifCond .ne 8, 3) := by decide +kernel
theorem dX7_afterSlips_154 : decode cX7_afterSlips 154 = .ok (.lload 5, 2) := by decide +kernel
theorem dX7_afterSlips_156 : decode cX7_afterSlips 156 = .ok (.goto 5, 3) := by decide +kernel
theorem dX7_afterSlips_159 : decode cX7_afterSlips 159 = .ok (.lload 7, 2) := by decide +kernel
theorem dX7_afterSlips_161 : decode cX7_afterSlips 161 = .ok (.lload 9, 2) := by decide +kernel
theorem dX7_afterSlips_163 : decode cX7_afterSlips 163 = .ok (.ldiv, 1) := by decide +kernel
theorem dX7_afterSlips_164 : decode cX7_afterSlips 164 = .ok (.lreturn, 1) := by decide +kernel
theorem dX7_power_0 : decode cX7_power 0 = .ok (.lconst 1, 1) := by decide +kernel
theorem dX7_power_1 : decode cX7_power 1 = .ok (.lstore_n 2, 1) := by decide +kernel
theorem dX7_power_2 : decode cX7_power 2 = .ok (.iconst 0, 1) := by decide +kernel
theorem dX7_power_3 : decode cX7_power 3 = .ok (.istore 4, 2) := by decide +kernel
theorem dX7_power_5 : decode cX7_power 5 = .ok (.iload 4, 2) := by decide +kernel
theorem dX7_power_7 : decode cX7_power 7 = .ok (.iload_n 1, 1) := by decide +kernel
theorem dX7_power_8 : decode cX7_power 8 = .ok (.if_icmp .ge 14, 3) := by decide +kernel
theorem dX7_power_11 : decode cX7_power 11 = .ok (.lload_n 2, 1) := by decide +kernel
theorem dX7_power_12 : decode cX7_power 12 = .ok (.iload_n 0, 1) := by decide +kernel
theorem dX7_power_13 : decode cX7_power 13 = .ok (.i2l, 1) := by decide +kernel
theorem dX7_power_14 : decode cX7_power 14 = .ok (.lmul, 1) := by decide +kernel
theorem dX7_power_15 : decode cX7_power 15 = .ok (.lstore_n 2, 1) := by decide +kernel
theorem dX7_power_16 : decode cX7_power 16 = .ok (.iinc 4 1, 3) := by decide +kernel
theorem dX7_power_19 : decode cX7_power 19 = .ok (.goto (-14), 3) := by decide +kernel
theorem dX7_power_22 : decode cX7_power 22 = .ok (.lload_n 2, 1) := by decide +kernel
theorem dX7_power_23 : decode cX7_power 23 = .ok (.lreturn, 1) := by decide +kernel
theorem dX7_commonDivisor_0 : decode cX7_commonDivisor 0 = .ok (.lload_n 0, 1) := by decide +kernel
theorem dX7_commonDivisor_1 : decode cX7_commonDivisor 1 = .ok (.lstore 4, 2) := by decide +kernel
theorem dX7_commonDivisor_3 : decode cX7_commonDivisor 3 = .ok (.lload_n 2, 1) := by decide +kernel
theorem dX7_commonDivisor_4 : decode cX7_commonDivisor 4 = .ok (.lstore 6, 2) := by decide +kernel
theorem dX7_commonDivisor_6 : decode cX7_commonDivisor 6 = .ok (.iconst 0, 1) := by decide +kernel
theorem dX7_commonDivisor_7 : decode cX7_commonDivisor 7 = .ok (.istore 8, 2) := by decide +kernel
theorem dX7_commonDivisor_9 : decode cX7_commonDivisor 9 = .ok (.iload 8, 2) := by decide +kernel
theorem dX7_commonDivisor_11 : decode cX7_commonDivisor 11 = .ok (.bipush 100, 2) := by decide +kernel
theorem dX7_commonDivisor_13 : decode cX7_commonDivisor 13 = .ok (.if_icmp .ge 31, 3) := by decide +kernel
theorem dX7_commonDivisor_16 : decode cX7_commonDivisor 16 = .ok (.lload 6, 2) := by decide +kernel
theorem dX7_commonDivisor_18 : decode cX7_commonDivisor 18 = .ok (.lconst 0, 1) := by decide +kernel
theorem dX7_commonDivisor_19 : decode cX7_commonDivisor 19 = .ok (.lcmp, 1) := by decide +kernel
theorem dX7_commonDivisor_20 : decode cX7_commonDivisor 20 = .ok (.ifCond .eq 24, 3) := by decide +kernel
theorem dX7_commonDivisor_23 : decode cX7_commonDivisor 23 = .ok (.lload 4, 2) := by decide +kernel
theorem dX7_commonDivisor_25 : decode cX7_commonDivisor 25 = .ok (.lload 6, 2) := by decide +kernel
theorem dX7_commonDivisor_27 : decode cX7_commonDivisor 27 = .ok (.lrem, 1) := by decide +kernel
theorem dX7_commonDivisor_28 : decode cX7_commonDivisor 28 = .ok (.lstore 9, 2) := by decide +kernel
theorem dX7_commonDivisor_30 : decode cX7_commonDivisor 30 = .ok (.lload 6, 2) := by decide +kernel
theorem dX7_commonDivisor_32 : decode cX7_commonDivisor 32 = .ok (.lstore 4, 2) := by decide +kernel
theorem dX7_commonDivisor_34 : decode cX7_commonDivisor 34 = .ok (.lload 9, 2) := by decide +kernel
theorem dX7_commonDivisor_36 : decode cX7_commonDivisor 36 = .ok (.lstore 6, 2) := by decide +kernel
theorem dX7_commonDivisor_38 : decode cX7_commonDivisor 38 = .ok (.iinc 8 1, 3) := by decide +kernel
theorem dX7_commonDivisor_41 : decode cX7_commonDivisor 41 = .ok (.goto (-32), 3) := by decide +kernel
theorem dX7_commonDivisor_44 : decode cX7_commonDivisor 44 = .ok (.lload 4, 2) := by decide +kernel
theorem dX7_commonDivisor_46 : decode cX7_commonDivisor 46 = .ok (.lreturn, 1) := by decide +kernel
theorem dX7_bit_0 : decode cX7_bit 0 = .ok (.iload_n 0, 1) := by decide +kernel
theorem dX7_bit_1 : decode cX7_bit 1 = .ok (.ifCond .eq 7, 3) := by decide +kernel
theorem dX7_bit_4 : decode cX7_bit 4 = .ok (.iconst 1, 1) := by decide +kernel
theorem dX7_bit_5 : decode cX7_bit 5 = .ok (.goto 4, 3) := by decide +kernel
theorem dX7_bit_8 : decode cX7_bit 8 = .ok (.iconst 0, 1) := by decide +kernel
theorem dX7_bit_9 : decode cX7_bit 9 = .ok (.ireturn, 1) := by decide +kernel
theorem dX7_isBit_0 : decode cX7_isBit 0 = .ok (.iload_n 0, 1) := by decide +kernel
theorem dX7_isBit_1 : decode cX7_isBit 1 = .ok (.ifCond .eq 8, 3) := by decide +kernel
theorem dX7_isBit_4 : decode cX7_isBit 4 = .ok (.iload_n 0, 1) := by decide +kernel
theorem dX7_isBit_5 : decode cX7_isBit 5 = .ok (.iconst 1, 1) := by decide +kernel
theorem dX7_isBit_6 : decode cX7_isBit 6 = .ok (.if_icmp .ne 7, 3) := by decide +kernel
theorem dX7_isBit_9 : decode cX7_isBit 9 = .ok (.iconst 1, 1) := by decide +kernel
theorem dX7_isBit_10 : decode cX7_isBit 10 = .ok (.goto 4, 3) := by decide +kernel
theorem dX7_isBit_13 : decode cX7_isBit 13 = .ok (.iconst 0, 1) := by decide +kernel
theorem dX7_isBit_14 : decode cX7_isBit 14 = .ok (.ireturn, 1) := by decide +kernel
theorem dX7_isSo_0 : decode cX7_isSo 0 = .ok (.iload_n 0, 1) := by decide +kernel
theorem dX7_isSo_1 : decode cX7_isSo 1 = .ok (.iload_n 1, 1) := by decide +kernel
theorem dX7_isSo_2 : decode cX7_isSo 2 = .ok (.ishr, 1) := by decide +kernel
theorem dX7_isSo_3 : decode cX7_isSo 3 = .ok (.iconst 1, 1) := by decide +kernel
theorem dX7_isSo_4 : decode cX7_isSo 4 = .ok (.iand, 1) := by decide +kernel
theorem dX7_isSo_5 : decode cX7_isSo 5 = .ok (.iconst 1, 1) := by decide +kernel
theorem dX7_isSo_6 : decode cX7_isSo 6 = .ok (.if_icmp .ne 7, 3) := by decide +kernel
theorem dX7_isSo_9 : decode cX7_isSo 9 = .ok (.iconst 1, 1) := by decide +kernel
theorem dX7_isSo_10 : decode cX7_isSo 10 = .ok (.goto 4, 3) := by decide +kernel
theorem dX7_isSo_13 : decode cX7_isSo 13 = .ok (.iconst 0, 1) := by decide +kernel
theorem dX7_isSo_14 : decode cX7_isSo 14 = .ok (.ireturn, 1) := by decide +kernel
theorem dX7_undone_0 : decode cX7_undone 0 = .ok (.iload_n 0, 1) := by decide +kernel
theorem dX7_undone_1 : decode cX7_undone 1 = .ok (.iconst 1, 1) := by decide +kernel
theorem dX7_undone_2 : decode cX7_undone 2 = .ok (.iload_n 1, 1) := by decide +kernel
theorem dX7_undone_3 : decode cX7_undone 3 = .ok (.ishl, 1) := by decide +kernel
theorem dX7_undone_4 : decode cX7_undone 4 = .ok (.ixor, 1) := by decide +kernel
theorem dX7_undone_5 : decode cX7_undone 5 = .ok (.ireturn, 1) := by decide +kernel
theorem dX7_isWayYear_0 : decode cX7_isWayYear 0 = .ok (.iload_n 0, 1) := by decide +kernel
theorem dX7_isWayYear_1 : decode cX7_isWayYear 1 = .ok (.bipush 10, 2) := by decide +kernel
theorem dX7_isWayYear_3 : decode cX7_isWayYear 3 = .ok (.if_icmp .lt 13, 3) := by decide +kernel
theorem dX7_isWayYear_6 : decode cX7_isWayYear 6 = .ok (.iload_n 0, 1) := by decide +kernel
theorem dX7_isWayYear_7 : decode cX7_isWayYear 7 = .ok (.bipush 14, 2) := by decide +kernel
theorem dX7_isWayYear_9 : decode cX7_isWayYear 9 = .ok (.if_icmp .ge 7, 3) := by decide +kernel
theorem dX7_isWayYear_12 : decode cX7_isWayYear 12 = .ok (.iconst 1, 1) := by decide +kernel
theorem dX7_isWayYear_13 : decode cX7_isWayYear 13 = .ok (.goto 4, 3) := by decide +kernel
theorem dX7_isWayYear_16 : decode cX7_isWayYear 16 = .ok (.iconst 0, 1) := by decide +kernel
theorem dX7_isWayYear_17 : decode cX7_isWayYear 17 = .ok (.ireturn, 1) := by decide +kernel
theorem dX7_isSheet_0 : decode cX7_isSheet 0 = .ok (.iload_n 0, 1) := by decide +kernel
theorem dX7_isSheet_1 : decode cX7_isSheet 1 = .ok (.ifCond .lt 12, 3) := by decide +kernel
theorem dX7_isSheet_4 : decode cX7_isSheet 4 = .ok (.iload_n 0, 1) := by decide +kernel
theorem dX7_isSheet_5 : decode cX7_isSheet 5 = .ok (.iconst 4, 1) := by decide +kernel
theorem dX7_isSheet_6 : decode cX7_isSheet 6 = .ok (.if_icmp .ge 7, 3) := by decide +kernel
theorem dX7_isSheet_9 : decode cX7_isSheet 9 = .ok (.iconst 1, 1) := by decide +kernel
theorem dX7_isSheet_10 : decode cX7_isSheet 10 = .ok (.goto 4, 3) := by decide +kernel
theorem dX7_isSheet_13 : decode cX7_isSheet 13 = .ok (.iconst 0, 1) := by decide +kernel
theorem dX7_isSheet_14 : decode cX7_isSheet 14 = .ok (.ireturn, 1) := by decide +kernel
theorem dX7_isLane_0 : decode cX7_isLane 0 = .ok (.iload_n 0, 1) := by decide +kernel
theorem dX7_isLane_1 : decode cX7_isLane 1 = .ok (.ifCond .lt 12, 3) := by decide +kernel
theorem dX7_isLane_4 : decode cX7_isLane 4 = .ok (.iload_n 0, 1) := by decide +kernel
theorem dX7_isLane_5 : decode cX7_isLane 5 = .ok (.iconst 3, 1) := by decide +kernel
theorem dX7_isLane_6 : decode cX7_isLane 6 = .ok (.if_icmp .ge 7, 3) := by decide +kernel
theorem dX7_isLane_9 : decode cX7_isLane 9 = .ok (.iconst 1, 1) := by decide +kernel
theorem dX7_isLane_10 : decode cX7_isLane 10 = .ok (.goto 4, 3) := by decide +kernel
theorem dX7_isLane_13 : decode cX7_isLane 13 = .ok (.iconst 0, 1) := by decide +kernel
theorem dX7_isLane_14 : decode cX7_isLane 14 = .ok (.ireturn, 1) := by decide +kernel
end
section
theorem dX8_init_0 : decode cX8_init 0 = .ok (.aload_n 0, 1) := by decide +kernel
theorem dX8_init_1 : decode cX8_init 1 = .ok (.invokespecial 1, 3) := by decide +kernel
theorem dX8_init_4 : decode cX8_init 4 = .ok (.aload_n 0, 1) := by decide +kernel
theorem dX8_init_5 : decode cX8_init 5 = .ok (.sipush 148, 3) := by decide +kernel
theorem dX8_init_8 : decode cX8_init 8 = .ok (.newarray .int, 2) := by decide +kernel
theorem dX8_init_10 : decode cX8_init 10 = .ok (.putfield 7, 3) := by decide +kernel
theorem dX8_init_13 : decode cX8_init 13 = .ok (.aload_n 0, 1) := by decide +kernel
theorem dX8_init_14 : decode cX8_init 14 = .ok (.bipush 37, 2) := by decide +kernel
theorem dX8_init_16 : decode cX8_init 16 = .ok (.newarray .int, 2) := by decide +kernel
theorem dX8_init_18 : decode cX8_init 18 = .ok (.putfield 13, 3) := by decide +kernel
theorem dX8_init_21 : decode cX8_init 21 = .ok (.aload_n 0, 1) := by decide +kernel
theorem dX8_init_22 : decode cX8_init 22 = .ok (.sipush 160, 3) := by decide +kernel
theorem dX8_init_25 : decode cX8_init 25 = .ok (.newarray .int, 2) := by decide +kernel
theorem dX8_init_27 : decode cX8_init 27 = .ok (.putfield 16, 3) := by decide +kernel
theorem dX8_init_30 : decode cX8_init 30 = .ok (.aload_n 0, 1) := by decide +kernel
theorem dX8_init_31 : decode cX8_init 31 = .ok (.bipush 9, 2) := by decide +kernel
theorem dX8_init_33 : decode cX8_init 33 = .ok (.newarray .int, 2) := by decide +kernel
theorem dX8_init_35 : decode cX8_init 35 = .ok (.dup, 1) := by decide +kernel
theorem dX8_init_36 : decode cX8_init 36 = .ok (.iconst 0, 1) := by decide +kernel
theorem dX8_init_37 : decode cX8_init 37 = .ok (.iconst 0, 1) := by decide +kernel
theorem dX8_init_38 : decode cX8_init 38 = .ok (.iastore, 1) := by decide +kernel
theorem dX8_init_39 : decode cX8_init 39 = .ok (.dup, 1) := by decide +kernel
theorem dX8_init_40 : decode cX8_init 40 = .ok (.iconst 1, 1) := by decide +kernel
theorem dX8_init_41 : decode cX8_init 41 = .ok (.iconst 5, 1) := by decide +kernel
theorem dX8_init_42 : decode cX8_init 42 = .ok (.iastore, 1) := by decide +kernel
theorem dX8_init_43 : decode cX8_init 43 = .ok (.dup, 1) := by decide +kernel
theorem dX8_init_44 : decode cX8_init 44 = .ok (.iconst 2, 1) := by decide +kernel
theorem dX8_init_45 : decode cX8_init 45 = .ok (.bipush 9, 2) := by decide +kernel
theorem dX8_init_47 : decode cX8_init 47 = .ok (.iastore, 1) := by decide +kernel
theorem dX8_init_48 : decode cX8_init 48 = .ok (.dup, 1) := by decide +kernel
theorem dX8_init_49 : decode cX8_init 49 = .ok (.iconst 3, 1) := by decide +kernel
theorem dX8_init_50 : decode cX8_init 50 = .ok (.bipush 17, 2) := by decide +kernel
theorem dX8_init_52 : decode cX8_init 52 = .ok (.iastore, 1) := by decide +kernel
theorem dX8_init_53 : decode cX8_init 53 = .ok (.dup, 1) := by decide +kernel
theorem dX8_init_54 : decode cX8_init 54 = .ok (.iconst 4, 1) := by decide +kernel
theorem dX8_init_55 : decode cX8_init 55 = .ok (.bipush 24, 2) := by decide +kernel
theorem dX8_init_57 : decode cX8_init 57 = .ok (.iastore, 1) := by decide +kernel
theorem dX8_init_58 : decode cX8_init 58 = .ok (.dup, 1) := by decide +kernel
theorem dX8_init_59 : decode cX8_init 59 = .ok (.iconst 5, 1) := by decide +kernel
theorem dX8_init_60 : decode cX8_init 60 = .ok (.bipush 28, 2) := by decide +kernel
theorem dX8_init_62 : decode cX8_init 62 = .ok (.iastore, 1) := by decide +kernel
theorem dX8_init_63 : decode cX8_init 63 = .ok (.dup, 1) := by decide +kernel
theorem dX8_init_64 : decode cX8_init 64 = .ok (.bipush 6, 2) := by decide +kernel
theorem dX8_init_66 : decode cX8_init 66 = .ok (.bipush 30, 2) := by decide +kernel
theorem dX8_init_68 : decode cX8_init 68 = .ok (.iastore, 1) := by decide +kernel
theorem dX8_init_69 : decode cX8_init 69 = .ok (.dup, 1) := by decide +kernel
theorem dX8_init_70 : decode cX8_init 70 = .ok (.bipush 7, 2) := by decide +kernel
theorem dX8_init_72 : decode cX8_init 72 = .ok (.bipush 35, 2) := by decide +kernel
theorem dX8_init_74 : decode cX8_init 74 = .ok (.iastore, 1) := by decide +kernel
theorem dX8_init_75 : decode cX8_init 75 = .ok (.dup, 1) := by decide +kernel
theorem dX8_init_76 : decode cX8_init 76 = .ok (.bipush 8, 2) := by decide +kernel
theorem dX8_init_78 : decode cX8_init 78 = .ok (.bipush 38, 2) := by decide +kernel
theorem dX8_init_80 : decode cX8_init 80 = .ok (.iastore, 1) := by decide +kernel
theorem dX8_init_81 : decode cX8_init 81 = .ok (.putfield 19, 3) := by decide +kernel
theorem dX8_init_84 : decode cX8_init 84 = .ok (.aload_n 0, 1) := by decide +kernel
theorem dX8_init_85 : decode cX8_init 85 = .ok (.bipush 38, 2) := by decide +kernel
theorem dX8_init_87 : decode cX8_init 87 = .ok (.newarray .int, 2) := by decide +kernel
theorem dX8_init_89 : decode cX8_init 89 = .ok (.dup, 1) := by decide +kernel
theorem dX8_init_90 : decode cX8_init 90 = .ok (.iconst 0, 1) := by decide +kernel
theorem dX8_init_91 : decode cX8_init 91 = .ok (.bipush 112, 2) := by decide +kernel
theorem dX8_init_93 : decode cX8_init 93 = .ok (.iastore, 1) := by decide +kernel
theorem dX8_init_94 : decode cX8_init 94 = .ok (.dup, 1) := by decide +kernel
theorem dX8_init_95 : decode cX8_init 95 = .ok (.iconst 1, 1) := by decide +kernel
theorem dX8_init_96 : decode cX8_init 96 = .ok (.bipush 108, 2) := by decide +kernel
theorem dX8_init_98 : decode cX8_init 98 = .ok (.iastore, 1) := by decide +kernel
theorem dX8_init_99 : decode cX8_init 99 = .ok (.dup, 1) := by decide +kernel
theorem dX8_init_100 : decode cX8_init 100 = .ok (.iconst 2, 1) := by decide +kernel
theorem dX8_init_101 : decode cX8_init 101 = .ok (.bipush 97, 2) := by decide +kernel
theorem dX8_init_103 : decode cX8_init 103 = .ok (.iastore, 1) := by decide +kernel
theorem dX8_init_104 : decode cX8_init 104 = .ok (.dup, 1) := by decide +kernel
theorem dX8_init_105 : decode cX8_init 105 = .ok (.iconst 3, 1) := by decide +kernel
theorem dX8_init_106 : decode cX8_init 106 = .ok (.bipush 105, 2) := by decide +kernel
theorem dX8_init_108 : decode cX8_init 108 = .ok (.iastore, 1) := by decide +kernel
theorem dX8_init_109 : decode cX8_init 109 = .ok (.dup, 1) := by decide +kernel
theorem dX8_init_110 : decode cX8_init 110 = .ok (.iconst 4, 1) := by decide +kernel
theorem dX8_init_111 : decode cX8_init 111 = .ok (.bipush 110, 2) := by decide +kernel
theorem dX8_init_113 : decode cX8_init 113 = .ok (.iastore, 1) := by decide +kernel
theorem dX8_init_114 : decode cX8_init 114 = .ok (.dup, 1) := by decide +kernel
theorem dX8_init_115 : decode cX8_init 115 = .ok (.iconst 5, 1) := by decide +kernel
theorem dX8_init_116 : decode cX8_init 116 = .ok (.bipush 101, 2) := by decide +kernel
theorem dX8_init_118 : decode cX8_init 118 = .ok (.iastore, 1) := by decide +kernel
theorem dX8_init_119 : decode cX8_init 119 = .ok (.dup, 1) := by decide +kernel
theorem dX8_init_120 : decode cX8_init 120 = .ok (.bipush 6, 2) := by decide +kernel
theorem dX8_init_122 : decode cX8_init 122 = .ok (.bipush 99, 2) := by decide +kernel
theorem dX8_init_124 : decode cX8_init 124 = .ok (.iastore, 1) := by decide +kernel
theorem dX8_init_125 : decode cX8_init 125 = .ok (.dup, 1) := by decide +kernel
theorem dX8_init_126 : decode cX8_init 126 = .ok (.bipush 7, 2) := by decide +kernel
theorem dX8_init_128 : decode cX8_init 128 = .ok (.bipush 104, 2) := by decide +kernel
theorem dX8_init_130 : decode cX8_init 130 = .ok (.iastore, 1) := by decide +kernel
theorem dX8_init_131 : decode cX8_init 131 = .ok (.dup, 1) := by decide +kernel
theorem dX8_init_132 : decode cX8_init 132 = .ok (.bipush 8, 2) := by decide +kernel
theorem dX8_init_134 : decode cX8_init 134 = .ok (.bipush 111, 2) := by decide +kernel
theorem dX8_init_136 : decode cX8_init 136 = .ok (.iastore, 1) := by decide +kernel
theorem dX8_init_137 : decode cX8_init 137 = .ok (.dup, 1) := by decide +kernel
theorem dX8_init_138 : decode cX8_init 138 = .ok (.bipush 9, 2) := by decide +kernel
theorem dX8_init_140 : decode cX8_init 140 = .ok (.bipush 99, 2) := by decide +kernel
theorem dX8_init_142 : decode cX8_init 142 = .ok (.iastore, 1) := by decide +kernel
theorem dX8_init_143 : decode cX8_init 143 = .ok (.dup, 1) := by decide +kernel
theorem dX8_init_144 : decode cX8_init 144 = .ok (.bipush 10, 2) := by decide +kernel
theorem dX8_init_146 : decode cX8_init 146 = .ok (.bipush 111, 2) := by decide +kernel
theorem dX8_init_148 : decode cX8_init 148 = .ok (.iastore, 1) := by decide +kernel
theorem dX8_init_149 : decode cX8_init 149 = .ok (.dup, 1) := by decide +kernel
theorem dX8_init_150 : decode cX8_init 150 = .ok (.bipush 11, 2) := by decide +kernel
theorem dX8_init_152 : decode cX8_init 152 = .ok (.bipush 110, 2) := by decide +kernel
theorem dX8_init_154 : decode cX8_init 154 = .ok (.iastore, 1) := by decide +kernel
theorem dX8_init_155 : decode cX8_init 155 = .ok (.dup, 1) := by decide +kernel
theorem dX8_init_156 : decode cX8_init 156 = .ok (.bipush 12, 2) := by decide +kernel
theorem dX8_init_158 : decode cX8_init 158 = .ok (.bipush 116, 2) := by decide +kernel
theorem dX8_init_160 : decode cX8_init 160 = .ok (.iastore, 1) := by decide +kernel
theorem dX8_init_161 : decode cX8_init 161 = .ok (.dup, 1) := by decide +kernel
theorem dX8_init_162 : decode cX8_init 162 = .ok (.bipush 13, 2) := by decide +kernel
theorem dX8_init_164 : decode cX8_init 164 = .ok (.bipush 114, 2) := by decide +kernel
theorem dX8_init_166 : decode cX8_init 166 = .ok (.iastore, 1) := by decide +kernel
theorem dX8_init_167 : decode cX8_init 167 = .ok (.dup, 1) := by decide +kernel
theorem dX8_init_168 : decode cX8_init 168 = .ok (.bipush 14, 2) := by decide +kernel
theorem dX8_init_170 : decode cX8_init 170 = .ok (.bipush 97, 2) := by decide +kernel
theorem dX8_init_172 : decode cX8_init 172 = .ok (.iastore, 1) := by decide +kernel
theorem dX8_init_173 : decode cX8_init 173 = .ok (.dup, 1) := by decide +kernel
theorem dX8_init_174 : decode cX8_init 174 = .ok (.bipush 15, 2) := by decide +kernel
theorem dX8_init_176 : decode cX8_init 176 = .ok (.bipush 114, 2) := by decide +kernel
theorem dX8_init_178 : decode cX8_init 178 = .ok (.iastore, 1) := by decide +kernel
theorem dX8_init_179 : decode cX8_init 179 = .ok (.dup, 1) := by decide +kernel
theorem dX8_init_180 : decode cX8_init 180 = .ok (.bipush 16, 2) := by decide +kernel
theorem dX8_init_182 : decode cX8_init 182 = .ok (.bipush 121, 2) := by decide +kernel
theorem dX8_init_184 : decode cX8_init 184 = .ok (.iastore, 1) := by decide +kernel
theorem dX8_init_185 : decode cX8_init 185 = .ok (.dup, 1) := by decide +kernel
theorem dX8_init_186 : decode cX8_init 186 = .ok (.bipush 17, 2) := by decide +kernel
theorem dX8_init_188 : decode cX8_init 188 = .ok (.bipush 106, 2) := by decide +kernel
theorem dX8_init_190 : decode cX8_init 190 = .ok (.iastore, 1) := by decide +kernel
theorem dX8_init_191 : decode cX8_init 191 = .ok (.dup, 1) := by decide +kernel
theorem dX8_init_192 : decode cX8_init 192 = .ok (.bipush 18, 2) := by decide +kernel
theorem dX8_init_194 : decode cX8_init 194 = .ok (.bipush 101, 2) := by decide +kernel
theorem dX8_init_196 : decode cX8_init 196 = .ok (.iastore, 1) := by decide +kernel
theorem dX8_init_197 : decode cX8_init 197 = .ok (.dup, 1) := by decide +kernel
theorem dX8_init_198 : decode cX8_init 198 = .ok (.bipush 19, 2) := by decide +kernel
theorem dX8_init_200 : decode cX8_init 200 = .ok (.bipush 97, 2) := by decide +kernel
theorem dX8_init_202 : decode cX8_init 202 = .ok (.iastore, 1) := by decide +kernel
theorem dX8_init_203 : decode cX8_init 203 = .ok (.dup, 1) := by decide +kernel
theorem dX8_init_204 : decode cX8_init 204 = .ok (.bipush 20, 2) := by decide +kernel
theorem dX8_init_206 : decode cX8_init 206 = .ok (.bipush 108, 2) := by decide +kernel
theorem dX8_init_208 : decode cX8_init 208 = .ok (.iastore, 1) := by decide +kernel
theorem dX8_init_209 : decode cX8_init 209 = .ok (.dup, 1) := by decide +kernel
theorem dX8_init_210 : decode cX8_init 210 = .ok (.bipush 21, 2) := by decide +kernel
theorem dX8_init_212 : decode cX8_init 212 = .ok (.bipush 111, 2) := by decide +kernel
theorem dX8_init_214 : decode cX8_init 214 = .ok (.iastore, 1) := by decide +kernel
theorem dX8_init_215 : decode cX8_init 215 = .ok (.dup, 1) := by decide +kernel
theorem dX8_init_216 : decode cX8_init 216 = .ok (.bipush 22, 2) := by decide +kernel
theorem dX8_init_218 : decode cX8_init 218 = .ok (.bipush 117, 2) := by decide +kernel
theorem dX8_init_220 : decode cX8_init 220 = .ok (.iastore, 1) := by decide +kernel
theorem dX8_init_221 : decode cX8_init 221 = .ok (.dup, 1) := by decide +kernel
theorem dX8_init_222 : decode cX8_init 222 = .ok (.bipush 23, 2) := by decide +kernel
theorem dX8_init_224 : decode cX8_init 224 = .ok (.bipush 115, 2) := by decide +kernel
theorem dX8_init_226 : decode cX8_init 226 = .ok (.iastore, 1) := by decide +kernel
theorem dX8_init_227 : decode cX8_init 227 = .ok (.dup, 1) := by decide +kernel
theorem dX8_init_228 : decode cX8_init 228 = .ok (.bipush 24, 2) := by decide +kernel
theorem dX8_init_230 : decode cX8_init 230 = .ok (.bipush 101, 2) := by decide +kernel
theorem dX8_init_232 : decode cX8_init 232 = .ok (.iastore, 1) := by decide +kernel
theorem dX8_init_233 : decode cX8_init 233 = .ok (.dup, 1) := by decide +kernel
theorem dX8_init_234 : decode cX8_init 234 = .ok (.bipush 25, 2) := by decide +kernel
theorem dX8_init_236 : decode cX8_init 236 = .ok (.bipush 97, 2) := by decide +kernel
theorem dX8_init_238 : decode cX8_init 238 = .ok (.iastore, 1) := by decide +kernel
theorem dX8_init_239 : decode cX8_init 239 = .ok (.dup, 1) := by decide +kernel
theorem dX8_init_240 : decode cX8_init 240 = .ok (.bipush 26, 2) := by decide +kernel
theorem dX8_init_242 : decode cX8_init 242 = .ok (.bipush 115, 2) := by decide +kernel
theorem dX8_init_244 : decode cX8_init 244 = .ok (.iastore, 1) := by decide +kernel
theorem dX8_init_245 : decode cX8_init 245 = .ok (.dup, 1) := by decide +kernel
theorem dX8_init_246 : decode cX8_init 246 = .ok (.bipush 27, 2) := by decide +kernel
theorem dX8_init_248 : decode cX8_init 248 = .ok (.bipush 121, 2) := by decide +kernel
theorem dX8_init_250 : decode cX8_init 250 = .ok (.iastore, 1) := by decide +kernel
theorem dX8_init_251 : decode cX8_init 251 = .ok (.dup, 1) := by decide +kernel
theorem dX8_init_252 : decode cX8_init 252 = .ok (.bipush 28, 2) := by decide +kernel
theorem dX8_init_254 : decode cX8_init 254 = .ok (.bipush 115, 2) := by decide +kernel
theorem dX8_init_256 : decode cX8_init 256 = .ok (.iastore, 1) := by decide +kernel
theorem dX8_init_257 : decode cX8_init 257 = .ok (.dup, 1) := by decide +kernel
theorem dX8_init_258 : decode cX8_init 258 = .ok (.bipush 29, 2) := by decide +kernel
theorem dX8_init_260 : decode cX8_init 260 = .ok (.bipush 111, 2) := by decide +kernel
theorem dX8_init_262 : decode cX8_init 262 = .ok (.iastore, 1) := by decide +kernel
theorem dX8_init_263 : decode cX8_init 263 = .ok (.dup, 1) := by decide +kernel
theorem dX8_init_264 : decode cX8_init 264 = .ok (.bipush 30, 2) := by decide +kernel
theorem dX8_init_266 : decode cX8_init 266 = .ok (.bipush 103, 2) := by decide +kernel
theorem dX8_init_268 : decode cX8_init 268 = .ok (.iastore, 1) := by decide +kernel
theorem dX8_init_269 : decode cX8_init 269 = .ok (.dup, 1) := by decide +kernel
theorem dX8_init_270 : decode cX8_init 270 = .ok (.bipush 31, 2) := by decide +kernel
theorem dX8_init_272 : decode cX8_init 272 = .ok (.bipush 117, 2) := by decide +kernel
theorem dX8_init_274 : decode cX8_init 274 = .ok (.iastore, 1) := by decide +kernel
theorem dX8_init_275 : decode cX8_init 275 = .ok (.dup, 1) := by decide +kernel
theorem dX8_init_276 : decode cX8_init 276 = .ok (.bipush 32, 2) := by decide +kernel
theorem dX8_init_278 : decode cX8_init 278 = .ok (.bipush 101, 2) := by decide +kernel
theorem dX8_init_280 : decode cX8_init 280 = .ok (.iastore, 1) := by decide +kernel
theorem dX8_init_281 : decode cX8_init 281 = .ok (.dup, 1) := by decide +kernel
theorem dX8_init_282 : decode cX8_init 282 = .ok (.bipush 33, 2) := by decide +kernel
theorem dX8_init_284 : decode cX8_init 284 = .ok (.bipush 115, 2) := by decide +kernel
theorem dX8_init_286 : decode cX8_init 286 = .ok (.iastore, 1) := by decide +kernel
theorem dX8_init_287 : decode cX8_init 287 = .ok (.dup, 1) := by decide +kernel
theorem dX8_init_288 : decode cX8_init 288 = .ok (.bipush 34, 2) := by decide +kernel
theorem dX8_init_290 : decode cX8_init 290 = .ok (.bipush 116, 2) := by decide +kernel
theorem dX8_init_292 : decode cX8_init 292 = .ok (.iastore, 1) := by decide +kernel
theorem dX8_init_293 : decode cX8_init 293 = .ok (.dup, 1) := by decide +kernel
theorem dX8_init_294 : decode cX8_init 294 = .ok (.bipush 35, 2) := by decide +kernel
theorem dX8_init_296 : decode cX8_init 296 = .ok (.bipush 98, 2) := by decide +kernel
theorem dX8_init_298 : decode cX8_init 298 = .ok (.iastore, 1) := by decide +kernel
theorem dX8_init_299 : decode cX8_init 299 = .ok (.dup, 1) := by decide +kernel
theorem dX8_init_300 : decode cX8_init 300 = .ok (.bipush 36, 2) := by decide +kernel
theorem dX8_init_302 : decode cX8_init 302 = .ok (.bipush 97, 2) := by decide +kernel
theorem dX8_init_304 : decode cX8_init 304 = .ok (.iastore, 1) := by decide +kernel
theorem dX8_init_305 : decode cX8_init 305 = .ok (.dup, 1) := by decide +kernel
theorem dX8_init_306 : decode cX8_init 306 = .ok (.bipush 37, 2) := by decide +kernel
theorem dX8_init_308 : decode cX8_init 308 = .ok (.bipush 110, 2) := by decide +kernel
theorem dX8_init_310 : decode cX8_init 310 = .ok (.iastore, 1) := by decide +kernel
theorem dX8_init_311 : decode cX8_init 311 = .ok (.putfield 22, 3) := by decide +kernel
theorem dX8_init_314 : decode cX8_init 314 = .ok (.aload_n 0, 1) := by decide +kernel
theorem dX8_init_315 : decode cX8_init 315 = .ok (.bipush 18, 2) := by decide +kernel
theorem dX8_init_317 : decode cX8_init 317 = .ok (.newarray .int, 2) := by decide +kernel
theorem dX8_init_319 : decode cX8_init 319 = .ok (.putfield 25, 3) := by decide +kernel
theorem dX8_init_322 : decode cX8_init 322 = .ok (.aload_n 0, 1) := by decide +kernel
theorem dX8_init_323 : decode cX8_init 323 = .ok (.bipush 60, 2) := by decide +kernel
theorem dX8_init_325 : decode cX8_init 325 = .ok (.newarray .int, 2) := by decide +kernel
theorem dX8_init_327 : decode cX8_init 327 = .ok (.putfield 28, 3) := by decide +kernel
theorem dX8_init_330 : decode cX8_init 330 = .ok (.aload_n 0, 1) := by decide +kernel
theorem dX8_init_331 : decode cX8_init 331 = .ok (.iconst 2, 1) := by decide +kernel
theorem dX8_init_332 : decode cX8_init 332 = .ok (.newarray .boolean, 2) := by decide +kernel
theorem dX8_init_334 : decode cX8_init 334 = .ok (.putfield 31, 3) := by decide +kernel
theorem dX8_init_337 : decode cX8_init 337 = .ok (.aload_n 0, 1) := by decide +kernel
theorem dX8_init_338 : decode cX8_init 338 = .ok (.iconst 4, 1) := by decide +kernel
theorem dX8_init_339 : decode cX8_init 339 = .ok (.newarray .int, 2) := by decide +kernel
theorem dX8_init_341 : decode cX8_init 341 = .ok (.dup, 1) := by decide +kernel
theorem dX8_init_342 : decode cX8_init 342 = .ok (.iconst 0, 1) := by decide +kernel
theorem dX8_init_343 : decode cX8_init 343 = .ok (.bipush (-4), 2) := by decide +kernel
theorem dX8_init_345 : decode cX8_init 345 = .ok (.iastore, 1) := by decide +kernel
theorem dX8_init_346 : decode cX8_init 346 = .ok (.dup, 1) := by decide +kernel
theorem dX8_init_347 : decode cX8_init 347 = .ok (.iconst 1, 1) := by decide +kernel
theorem dX8_init_348 : decode cX8_init 348 = .ok (.bipush (-4), 2) := by decide +kernel
theorem dX8_init_350 : decode cX8_init 350 = .ok (.iastore, 1) := by decide +kernel
theorem dX8_init_351 : decode cX8_init 351 = .ok (.dup, 1) := by decide +kernel
theorem dX8_init_352 : decode cX8_init 352 = .ok (.iconst 2, 1) := by decide +kernel
theorem dX8_init_353 : decode cX8_init 353 = .ok (.bipush (-4), 2) := by decide +kernel
theorem dX8_init_355 : decode cX8_init 355 = .ok (.iastore, 1) := by decide +kernel
theorem dX8_init_356 : decode cX8_init 356 = .ok (.dup, 1) := by decide +kernel
theorem dX8_init_357 : decode cX8_init 357 = .ok (.iconst 3, 1) := by decide +kernel
theorem dX8_init_358 : decode cX8_init 358 = .ok (.bipush (-4), 2) := by decide +kernel
theorem dX8_init_360 : decode cX8_init 360 = .ok (.iastore, 1) := by decide +kernel
theorem dX8_init_361 : decode cX8_init 361 = .ok (.putfield 35, 3) := by decide +kernel
theorem dX8_init_364 : decode cX8_init 364 = .ok (.aload_n 0, 1) := by decide +kernel
theorem dX8_init_365 : decode cX8_init 365 = .ok (.iconst 4, 1) := by decide +kernel
theorem dX8_init_366 : decode cX8_init 366 = .ok (.newarray .int, 2) := by decide +kernel
theorem dX8_init_368 : decode cX8_init 368 = .ok (.putfield 38, 3) := by decide +kernel
theorem dX8_init_371 : decode cX8_init 371 = .ok (.aload_n 0, 1) := by decide +kernel
theorem dX8_init_372 : decode cX8_init 372 = .ok (.sipush 160, 3) := by decide +kernel
theorem dX8_init_375 : decode cX8_init 375 = .ok (.newarray .int, 2) := by decide +kernel
theorem dX8_init_377 : decode cX8_init 377 = .ok (.putfield 41, 3) := by decide +kernel
theorem dX8_init_380 : decode cX8_init 380 = .ok (.return_, 1) := by decide +kernel
theorem dX8_in_0 : decode cX8_in 0 = .ok (.lload_n 0, 1) := by decide +kernel
theorem dX8_in_1 : decode cX8_in 1 = .ok (.lload_n 2, 1) := by decide +kernel
theorem dX8_in_2 : decode cX8_in 2 = .ok (.lcmp, 1) := by decide +kernel
theorem dX8_in_3 : decode cX8_in 3 = .ok (.ifCond .lt 14, 3) := by decide +kernel
theorem dX8_in_6 : decode cX8_in 6 = .ok (.lload_n 0, 1) := by decide +kernel
theorem dX8_in_7 : decode cX8_in 7 = .ok (.lload 4, 2) := by decide +kernel
theorem dX8_in_9 : decode cX8_in 9 = .ok (.lcmp, 1) := by decide +kernel
theorem dX8_in_10 : decode cX8_in 10 = .ok (.ifCond .gt 7, 3) := by decide +kernel
theorem dX8_in_13 : decode cX8_in 13 = .ok (.iconst 1, 1) := by decide +kernel
theorem dX8_in_14 : decode cX8_in 14 = .ok (.goto 4, 3) := by decide +kernel
theorem dX8_in_17 : decode cX8_in 17 = .ok (.iconst 0, 1) := by decide +kernel
theorem dX8_in_18 : decode cX8_in 18 = .ok (.ireturn, 1) := by decide +kernel
theorem dX8_feed_0 : decode cX8_feed 0 = .ok (.iload_n 1, 1) := by decide +kernel
theorem dX8_feed_1 : decode cX8_feed 1 = .ok (.i2l, 1) := by decide +kernel
theorem dX8_feed_2 : decode cX8_feed 2 = .ok (.lconst 0, 1) := by decide +kernel
theorem dX8_feed_3 : decode cX8_feed 3 = .ok (.ldc2_w 44, 3) := by decide +kernel
theorem dX8_feed_6 : decode cX8_feed 6 = .ok (.invokestatic 46, 3) := by decide +kernel
theorem dX8_feed_9 : decode cX8_feed 9 = .ok (.ifCond .ne 5, 3) := by decide +kernel
theorem dX8_feed_12 : decode cX8_feed 12 = .ok (.iconst (-1), 1) := by decide +kernel
theorem dX8_feed_13 : decode cX8_feed 13 = .ok (.ireturn, 1) := by decide +kernel
theorem dX8_feed_14 : decode cX8_feed 14 = .ok (.aload_n 0, 1) := by decide +kernel
theorem dX8_feed_15 : decode cX8_feed 15 = .ok (.getfield 50, 3) := by decide +kernel
theorem dX8_feed_18 : decode cX8_feed 18 = .ok (.sipush 160, 3) := by decide +kernel
theorem dX8_feed_21 : decode cX8_feed 21 = .ok (.if_icmp .ne 6, 3) := by decide +kernel
theorem dX8_feed_24 : decode cX8_feed 24 = .ok (.bipush (-3), 2) := by decide +kernel
theorem dX8_feed_26 : decode cX8_feed 26 = .ok (.ireturn, 1) := by decide +kernel
theorem dX8_feed_27 : decode cX8_feed 27 = .ok (.aload_n 0, 1) := by decide +kernel
theorem dX8_feed_28 : decode cX8_feed 28 = .ok (.getfield 16, 3) := by decide +kernel
theorem dX8_feed_31 : decode cX8_feed 31 = .ok (.aload_n 0, 1) := by decide +kernel
theorem dX8_feed_32 : decode cX8_feed 32 = .ok (.getfield 50, 3) := by decide +kernel
theorem dX8_feed_35 : decode cX8_feed 35 = .ok (.iload_n 1, 1) := by decide +kernel
theorem dX8_feed_36 : decode cX8_feed 36 = .ok (.iastore, 1) := by decide +kernel
theorem dX8_feed_37 : decode cX8_feed 37 = .ok (.aload_n 0, 1) := by decide +kernel
theorem dX8_feed_38 : decode cX8_feed 38 = .ok (.dup, 1) := by decide +kernel
theorem dX8_feed_39 : decode cX8_feed 39 = .ok (.getfield 50, 3) := by decide +kernel
theorem dX8_feed_42 : decode cX8_feed 42 = .ok (.iconst 1, 1) := by decide +kernel
theorem dX8_feed_43 : decode cX8_feed 43 = .ok (.iadd, 1) := by decide +kernel
theorem dX8_feed_44 : decode cX8_feed 44 = .ok (.putfield 50, 3) := by decide +kernel
theorem dX8_feed_47 : decode cX8_feed 47 = .ok (.aload_n 0, 1) := by decide +kernel
theorem dX8_feed_48 : decode cX8_feed 48 = .ok (.getfield 50, 3) := by decide +kernel
theorem dX8_feed_51 : decode cX8_feed 51 = .ok (.ireturn, 1) := by decide +kernel
theorem dX8_end_0 : decode cX8_end 0 = .ok (.iload_n 1, 1) := by decide +kernel
theorem dX8_end_1 : decode cX8_end 1 = .ok (.i2l, 1) := by decide +kernel
theorem dX8_end_2 : decode cX8_end 2 = .ok (.lconst 0, 1) := by decide +kernel
theorem dX8_end_3 : decode cX8_end 3 = .ok (.aload_n 0, 1) := by decide +kernel
theorem dX8_end_4 : decode cX8_end 4 = .ok (.getfield 50, 3) := by decide +kernel
theorem dX8_end_7 : decode cX8_end 7 = .ok (.i2l, 1) := by decide +kernel
theorem dX8_end_8 : decode cX8_end 8 = .ok (.invokestatic 46, 3) := by decide +kernel
theorem dX8_end_11 : decode cX8_end 11 = .ok (.ifCond .ne 5, 3) := by decide +kernel
theorem dX8_end_14 : decode cX8_end 14 = .ok (.iconst (-1), 1) := by decide +kernel
theorem dX8_end_15 : decode cX8_end 15 = .ok (.ireturn, 1) := by decide +kernel
theorem dX8_end_16 : decode cX8_end 16 = .ok (.aload_n 0, 1) := by decide +kernel
theorem dX8_end_17 : decode cX8_end 17 = .ok (.getfield 50, 3) := by decide +kernel
theorem dX8_end_20 : decode cX8_end 20 = .ok (.istore_n 2, 1) := by decide +kernel
theorem dX8_end_21 : decode cX8_end 21 = .ok (.aload_n 0, 1) := by decide +kernel
theorem dX8_end_22 : decode cX8_end 22 = .ok (.iload_n 1, 1) := by decide +kernel
theorem dX8_end_23 : decode cX8_end 23 = .ok (.putfield 50, 3) := by decide +kernel
theorem dX8_end_26 : decode cX8_end 26 = .ok (.iload_n 2, 1) := by decide +kernel
theorem dX8_end_27 : decode cX8_end 27 = .ok (.ireturn, 1) := by decide +kernel
theorem dX8_byteAt_0 : decode cX8_byteAt 0 = .ok (.iload_n 1, 1) := by decide +kernel
theorem dX8_byteAt_1 : decode cX8_byteAt 1 = .ok (.aload_n 0, 1) := by decide +kernel
theorem dX8_byteAt_2 : decode cX8_byteAt 2 = .ok (.getfield 50, 3) := by decide +kernel
theorem dX8_byteAt_5 : decode cX8_byteAt 5 = .ok (.if_icmp .ge 12, 3) := by decide +kernel
theorem dX8_byteAt_8 : decode cX8_byteAt 8 = .ok (.aload_n 0, 1) := by decide +kernel
theorem dX8_byteAt_9 : decode cX8_byteAt 9 = .ok (.getfield 16, 3) := by decide +kernel
theorem dX8_byteAt_12 : decode cX8_byteAt 12 = .ok (.iload_n 1, 1) := by decide +kernel
theorem dX8_byteAt_13 : decode cX8_byteAt 13 = .ok (.iaload, 1) := by decide +kernel
theorem dX8_byteAt_14 : decode cX8_byteAt 14 = .ok (.goto 5, 3) := by decide +kernel
theorem dX8_byteAt_17 : decode cX8_byteAt 17 = .ok (.bipush (-4), 2) := by decide +kernel
theorem dX8_byteAt_19 : decode cX8_byteAt 19 = .ok (.ireturn, 1) := by decide +kernel
theorem dX8_fails_0 : decode cX8_fails 0 = .ok (.aload_n 0, 1) := by decide +kernel
theorem dX8_fails_1 : decode cX8_fails 1 = .ok (.getfield 54, 3) := by decide +kernel
theorem dX8_fails_4 : decode cX8_fails 4 = .ok (.ifCond .ne 16, 3) := by decide +kernel
theorem dX8_fails_7 : decode cX8_fails 7 = .ok (.aload_n 0, 1) := by decide +kernel
theorem dX8_fails_8 : decode cX8_fails 8 = .ok (.iload_n 1, 1) := by decide +kernel
theorem dX8_fails_9 : decode cX8_fails 9 = .ok (.putfield 54, 3) := by decide +kernel
theorem dX8_fails_12 : decode cX8_fails 12 = .ok (.aload_n 0, 1) := by decide +kernel
theorem dX8_fails_13 : decode cX8_fails 13 = .ok (.aload_n 0, 1) := by decide +kernel
theorem dX8_fails_14 : decode cX8_fails 14 = .ok (.getfield 57, 3) := by decide +kernel
theorem dX8_fails_17 : decode cX8_fails 17 = .ok (.putfield 60, 3) := by decide +kernel
theorem dX8_fails_20 : decode cX8_fails 20 = .ok (.return_, 1) := by decide +kernel
theorem dX8_nameHere_0 : decode cX8_nameHere 0 = .ok (.iconst 0, 1) := by decide +kernel
theorem dX8_nameHere_1 : decode cX8_nameHere 1 = .ok (.istore_n 1, 1) := by decide +kernel
theorem dX8_nameHere_2 : decode cX8_nameHere 2 = .ok (.iload_n 1, 1) := by decide +kernel
theorem dX8_nameHere_3 : decode cX8_nameHere 3 = .ok (.bipush 8, 2) := by decide +kernel
theorem dX8_nameHere_5 : decode cX8_nameHere 5 = .ok (.if_icmp .ge 113, 3) := by decide +kernel
theorem dX8_nameHere_8 : decode cX8_nameHere 8 = .ok (.aload_n 0, 1) := by decide +kernel
theorem dX8_nameHere_9 : decode cX8_nameHere 9 = .ok (.getfield 63, 3) := by decide +kernel
theorem dX8_nameHere_12 : decode cX8_nameHere 12 = .ok (.iconst 1, 1) := by decide +kernel
theorem dX8_nameHere_13 : decode cX8_nameHere 13 = .ok (.if_icmp .ne 105, 3) := by decide +kernel
theorem dX8_nameHere_16 : decode cX8_nameHere 16 = .ok (.aload_n 0, 1) := by decide +kernel
theorem dX8_nameHere_17 : decode cX8_nameHere 17 = .ok (.getfield 66, 3) := by decide +kernel
theorem dX8_nameHere_20 : decode cX8_nameHere 20 = .ok (.aload_n 0, 1) := by decide +kernel
theorem dX8_nameHere_21 : decode cX8_nameHere 21 = .ok (.getfield 57, 3) := by decide +kernel
theorem dX8_nameHere_24 : decode cX8_nameHere 24 = .ok (.isub, 1) := by decide +kernel
theorem dX8_nameHere_25 : decode cX8_nameHere 25 = .ok (.aload_n 0, 1) := by decide +kernel
theorem dX8_nameHere_26 : decode cX8_nameHere 26 = .ok (.getfield 19, 3) := by decide +kernel
theorem dX8_nameHere_29 : decode cX8_nameHere 29 = .ok (.iload_n 1, 1) := by decide +kernel
theorem dX8_nameHere_30 : decode cX8_nameHere 30 = .ok (.iconst 1, 1) := by decide +kernel
theorem dX8_nameHere_31 : decode cX8_nameHere 31 = .ok (.iadd, 1) := by decide +kernel
theorem dX8_nameHere_32 : decode cX8_nameHere 32 = .ok (.iaload, 1) := by decide +kernel
theorem dX8_nameHere_33 : decode cX8_nameHere 33 = .ok (.aload_n 0, 1) := by decide +kernel
theorem dX8_nameHere_34 : decode cX8_nameHere 34 = .ok (.getfield 19, 3) := by decide +kernel
theorem dX8_nameHere_37 : decode cX8_nameHere 37 = .ok (.iload_n 1, 1) := by decide +kernel
theorem dX8_nameHere_38 : decode cX8_nameHere 38 = .ok (.iaload, 1) := by decide +kernel
theorem dX8_nameHere_39 : decode cX8_nameHere 39 = .ok (.isub, 1) := by decide +kernel
theorem dX8_nameHere_40 : decode cX8_nameHere 40 = .ok (.if_icmp .ne 7, 3) := by decide +kernel
theorem dX8_nameHere_43 : decode cX8_nameHere 43 = .ok (.iconst 1, 1) := by decide +kernel
theorem dX8_nameHere_44 : decode cX8_nameHere 44 = .ok (.goto 4, 3) := by decide +kernel
theorem dX8_nameHere_47 : decode cX8_nameHere 47 = .ok (.iconst 0, 1) := by decide +kernel
theorem dX8_nameHere_48 : decode cX8_nameHere 48 = .ok (.istore_n 2, 1) := by decide +kernel
theorem dX8_nameHere_49 : decode cX8_nameHere 49 = .ok (.iconst 0, 1) := by decide +kernel
theorem dX8_nameHere_50 : decode cX8_nameHere 50 = .ok (.istore_n 3, 1) := by decide +kernel
theorem dX8_nameHere_51 : decode cX8_nameHere 51 = .ok (.iload_n 2, 1) := by decide +kernel
theorem dX8_nameHere_52 : decode cX8_nameHere 52 = .ok (.ifCond .eq 54, 3) := by decide +kernel
theorem dX8_nameHere_55 : decode cX8_nameHere 55 = .ok (.iload_n 3, 1) := by decide +kernel
theorem dX8_nameHere_56 : decode cX8_nameHere 56 = .ok (.aload_n 0, 1) := by decide +kernel
theorem dX8_nameHere_57 : decode cX8_nameHere 57 = .ok (.getfield 66, 3) := by decide +kernel
theorem dX8_nameHere_60 : decode cX8_nameHere 60 = .ok (.aload_n 0, 1) := by decide +kernel
theorem dX8_nameHere_61 : decode cX8_nameHere 61 = .ok (.getfield 57, 3) := by decide +kernel
theorem dX8_nameHere_64 : decode cX8_nameHere 64 = .ok (.isub, 1) := by decide +kernel
theorem dX8_nameHere_65 : decode cX8_nameHere 65 = .ok (.if_icmp .ge 41, 3) := by decide +kernel
theorem dX8_nameHere_68 : decode cX8_nameHere 68 = .ok (.aload_n 0, 1) := by decide +kernel
theorem dX8_nameHere_69 : decode cX8_nameHere 69 = .ok (.aload_n 0, 1) := by decide +kernel
theorem dX8_nameHere_70 : decode cX8_nameHere 70 = .ok (.getfield 57, 3) := by decide +kernel
theorem dX8_nameHere_73 : decode cX8_nameHere 73 = .ok (.iload_n 3, 1) := by decide +kernel
theorem dX8_nameHere_74 : decode cX8_nameHere 74 = .ok (.iadd, 1) := by decide +kernel
theorem dX8_nameHere_75 : decode cX8_nameHere 75 = .ok (.invokevirtual 69, 3) := by decide +kernel
theorem dX8_nameHere_78 : decode cX8_nameHere 78 = .ok (.aload_n 0, 1) := by decide +kernel
theorem dX8_nameHere_79 : decode cX8_nameHere 79 = .ok (.getfield 22, 3) := by decide +kernel
theorem dX8_nameHere_82 : decode cX8_nameHere 82 = .ok (.aload_n 0, 1) := by decide +kernel
theorem dX8_nameHere_83 : decode cX8_nameHere 83 = .ok (.getfield 19, 3) := by decide +kernel
theorem dX8_nameHere_86 : decode cX8_nameHere 86 = .ok (.iload_n 1, 1) := by decide +kernel
theorem dX8_nameHere_87 : decode cX8_nameHere 87 = .ok (.iaload, 1) := by decide +kernel
theorem dX8_nameHere_88 : decode cX8_nameHere 88 = .ok (.iload_n 3, 1) := by decide +kernel
theorem dX8_nameHere_89 : decode cX8_nameHere 89 = .ok (.iadd, 1) := by decide +kernel
theorem dX8_nameHere_90 : decode cX8_nameHere 90 = .ok (.iaload, 1) := by decide +kernel
theorem dX8_nameHere_91 : decode cX8_nameHere 91 = .ok (.if_icmp .ne 7, 3) := by decide +kernel
theorem dX8_nameHere_94 : decode cX8_nameHere 94 = .ok (.iconst 1, 1) := by decide +kernel
theorem dX8_nameHere_95 : decode cX8_nameHere 95 = .ok (.goto 4, 3) := by decide +kernel
theorem dX8_nameHere_98 : decode cX8_nameHere 98 = .ok (.iconst 0, 1) := by decide +kernel
theorem dX8_nameHere_99 : decode cX8_nameHere 99 = .ok (.istore_n 2, 1) := by decide +kernel
theorem dX8_nameHere_100 : decode cX8_nameHere 100 = .ok (.iinc 3 1, 3) := by decide +kernel
theorem dX8_nameHere_103 : decode cX8_nameHere 103 = .ok (.goto (-52), 3) := by decide +kernel
theorem dX8_nameHere_106 : decode cX8_nameHere 106 = .ok (.iload_n 2, 1) := by decide +kernel
theorem dX8_nameHere_107 : decode cX8_nameHere 107 = .ok (.ifCond .eq 5, 3) := by decide +kernel
theorem dX8_nameHere_110 : decode cX8_nameHere 110 = .ok (.iload_n 1, 1) := by decide +kernel
theorem dX8_nameHere_111 : decode cX8_nameHere 111 = .ok (.ireturn, 1) := by decide +kernel
theorem dX8_nameHere_112 : decode cX8_nameHere 112 = .ok (.iinc 1 1, 3) := by decide +kernel
theorem dX8_nameHere_115 : decode cX8_nameHere 115 = .ok (.goto (-113), 3) := by decide +kernel
theorem dX8_nameHere_118 : decode cX8_nameHere 118 = .ok (.bipush (-4), 2) := by decide +kernel
theorem dX8_nameHere_120 : decode cX8_nameHere 120 = .ok (.ireturn, 1) := by decide +kernel
theorem dX8_step_0 : decode cX8_step 0 = .ok (.aload_n 0, 1) := by decide +kernel
theorem dX8_step_1 : decode cX8_step 1 = .ok (.getfield 54, 3) := by decide +kernel
theorem dX8_step_4 : decode cX8_step 4 = .ok (.ifCond .le 4, 3) := by decide +kernel
theorem dX8_step_7 : decode cX8_step 7 = .ok (.return_, 1) := by decide +kernel
theorem dX8_step_8 : decode cX8_step 8 = .ok (.aload_n 0, 1) := by decide +kernel
theorem dX8_step_9 : decode cX8_step 9 = .ok (.aload_n 0, 1) := by decide +kernel
theorem dX8_step_10 : decode cX8_step 10 = .ok (.getfield 66, 3) := by decide +kernel
theorem dX8_step_13 : decode cX8_step 13 = .ok (.invokevirtual 69, 3) := by decide +kernel
theorem dX8_step_16 : decode cX8_step 16 = .ok (.bipush 32, 2) := by decide +kernel
theorem dX8_step_18 : decode cX8_step 18 = .ok (.if_icmp .ne 16, 3) := by decide +kernel
theorem dX8_step_21 : decode cX8_step 21 = .ok (.aload_n 0, 1) := by decide +kernel
theorem dX8_step_22 : decode cX8_step 22 = .ok (.dup, 1) := by decide +kernel
theorem dX8_step_23 : decode cX8_step 23 = .ok (.getfield 66, 3) := by decide +kernel
theorem dX8_step_26 : decode cX8_step 26 = .ok (.iconst 1, 1) := by decide +kernel
theorem dX8_step_27 : decode cX8_step 27 = .ok (.iadd, 1) := by decide +kernel
theorem dX8_step_28 : decode cX8_step 28 = .ok (.putfield 66, 3) := by decide +kernel
theorem dX8_step_31 : decode cX8_step 31 = .ok (.goto (-23), 3) := by decide +kernel
theorem dX8_step_34 : decode cX8_step 34 = .ok (.aload_n 0, 1) := by decide +kernel
theorem dX8_step_35 : decode cX8_step 35 = .ok (.aload_n 0, 1) := by decide +kernel
theorem dX8_step_36 : decode cX8_step 36 = .ok (.getfield 66, 3) := by decide +kernel
theorem dX8_step_39 : decode cX8_step 39 = .ok (.putfield 57, 3) := by decide +kernel
theorem dX8_step_42 : decode cX8_step 42 = .ok (.aload_n 0, 1) := by decide +kernel
theorem dX8_step_43 : decode cX8_step 43 = .ok (.aload_n 0, 1) := by decide +kernel
theorem dX8_step_44 : decode cX8_step 44 = .ok (.getfield 66, 3) := by decide +kernel
theorem dX8_step_47 : decode cX8_step 47 = .ok (.invokevirtual 69, 3) := by decide +kernel
theorem dX8_step_50 : decode cX8_step 50 = .ok (.istore_n 1, 1) := by decide +kernel
theorem dX8_step_51 : decode cX8_step 51 = .ok (.aload_n 0, 1) := by decide +kernel
theorem dX8_step_52 : decode cX8_step 52 = .ok (.iconst 0, 1) := by decide +kernel
theorem dX8_step_53 : decode cX8_step 53 = .ok (.putfield 73, 3) := by decide +kernel
theorem dX8_step_56 : decode cX8_step 56 = .ok (.iload_n 1, 1) := by decide +kernel
theorem dX8_step_57 : decode cX8_step 57 = .ok (.bipush (-4), 2) := by decide +kernel
theorem dX8_step_59 : decode cX8_step 59 = .ok (.if_icmp .ne 11, 3) := by decide +kernel
theorem dX8_step_62 : decode cX8_step 62 = .ok (.aload_n 0, 1) := by decide +kernel
theorem dX8_step_63 : decode cX8_step 63 = .ok (.iconst 0, 1) := by decide +kernel
theorem dX8_step_64 : decode cX8_step 64 = .ok (.putfield 63, 3) := by decide +kernel
theorem dX8_step_67 : decode cX8_step 67 = .ok (.goto 202, 3) := by decide +kernel
theorem dX8_step_70 : decode cX8_step 70 = .ok (.iload_n 1, 1) := by decide +kernel
theorem dX8_step_71 : decode cX8_step 71 = .ok (.i2l, 1) := by decide +kernel
theorem dX8_step_72 : decode cX8_step 72 = .ok (.ldc2_w 76, 3) := by decide +kernel
theorem dX8_step_75 : decode cX8_step 75 = .ok (.ldc2_w 78, 3) := by decide +kernel
theorem dX8_step_78 : decode cX8_step 78 = .ok (.invokestatic 46, 3) := by decide +kernel
theorem dX8_step_81 : decode cX8_step 81 = .ok (.ifCond .eq 45, 3) := by decide +kernel
theorem dX8_step_84 : decode cX8_step 84 = .ok (.aload_n 0, 1) := by decide +kernel
theorem dX8_step_85 : decode cX8_step 85 = .ok (.aload_n 0, 1) := by decide +kernel
theorem dX8_step_86 : decode cX8_step 86 = .ok (.getfield 66, 3) := by decide +kernel
theorem dX8_step_89 : decode cX8_step 89 = .ok (.invokevirtual 69, 3) := by decide +kernel
theorem dX8_step_92 : decode cX8_step 92 = .ok (.i2l, 1) := by decide +kernel
theorem dX8_step_93 : decode cX8_step 93 = .ok (.ldc2_w 76, 3) := by decide +kernel
theorem dX8_step_96 : decode cX8_step 96 = .ok (.ldc2_w 78, 3) := by decide +kernel
theorem dX8_step_99 : decode cX8_step 99 = .ok (.invokestatic 46, 3) := by decide +kernel
theorem dX8_step_102 : decode cX8_step 102 = .ok (.ifCond .eq 16, 3) := by decide +kernel
theorem dX8_step_105 : decode cX8_step 105 = .ok (.aload_n 0, 1) := by decide +kernel
theorem dX8_step_106 : decode cX8_step 106 = .ok (.dup, 1) := by decide +kernel
theorem dX8_step_107 : decode cX8_step 107 = .ok (.getfield 66, 3) := by decide +kernel
theorem dX8_step_110 : decode cX8_step 110 = .ok (.iconst 1, 1) := by decide +kernel
theorem dX8_step_111 : decode cX8_step 111 = .ok (.iadd, 1) := by decide +kernel
theorem dX8_step_112 : decode cX8_step 112 = .ok (.putfield 66, 3) := by decide +kernel
theorem dX8_step_115 : decode cX8_step 115 = .ok (.goto (-31), 3) := by decide +kernel
theorem dX8_step_118 : decode cX8_step 118 = .ok (.aload_n 0, 1) := by decide +kernel
theorem dX8_step_119 : decode cX8_step 119 = .ok (.iconst 1, 1) := by decide +kernel
theorem dX8_step_120 : decode cX8_step 120 = .ok (.putfield 63, 3) := by decide +kernel
theorem dX8_step_123 : decode cX8_step 123 = .ok (.goto 146, 3) := by decide +kernel
theorem dX8_step_126 : decode cX8_step 126 = .ok (.iload_n 1, 1) := by decide +kernel
theorem dX8_step_127 : decode cX8_step 127 = .ok (.i2l, 1) := by decide +kernel
theorem dX8_step_128 : decode cX8_step 128 = .ok (.ldc2_w 80, 3) := by decide +kernel
theorem dX8_step_131 : decode cX8_step 131 = .ok (.ldc2_w 82, 3) := by decide +kernel
theorem dX8_step_134 : decode cX8_step 134 = .ok (.invokestatic 46, 3) := by decide +kernel
theorem dX8_step_137 : decode cX8_step 137 = .ok (.ifCond .eq 106, 3) := by decide +kernel
theorem dX8_step_140 : decode cX8_step 140 = .ok (.aload_n 0, 1) := by decide +kernel
theorem dX8_step_141 : decode cX8_step 141 = .ok (.aload_n 0, 1) := by decide +kernel
theorem dX8_step_142 : decode cX8_step 142 = .ok (.getfield 66, 3) := by decide +kernel
theorem dX8_step_145 : decode cX8_step 145 = .ok (.invokevirtual 69, 3) := by decide +kernel
theorem dX8_step_148 : decode cX8_step 148 = .ok (.i2l, 1) := by decide +kernel
theorem dX8_step_149 : decode cX8_step 149 = .ok (.ldc2_w 80, 3) := by decide +kernel
theorem dX8_step_152 : decode cX8_step 152 = .ok (.ldc2_w 82, 3) := by decide +kernel
theorem dX8_step_155 : decode cX8_step 155 = .ok (.invokestatic 46, 3) := by decide +kernel
theorem dX8_step_158 : decode cX8_step 158 = .ok (.ifCond .eq 59, 3) := by decide +kernel
theorem dX8_step_161 : decode cX8_step 161 = .ok (.aload_n 0, 1) := by decide +kernel
theorem dX8_step_162 : decode cX8_step 162 = .ok (.aload_n 0, 1) := by decide +kernel
theorem dX8_step_163 : decode cX8_step 163 = .ok (.getfield 66, 3) := by decide +kernel
theorem dX8_step_166 : decode cX8_step 166 = .ok (.aload_n 0, 1) := by decide +kernel
theorem dX8_step_167 : decode cX8_step 167 = .ok (.getfield 57, 3) := by decide +kernel
theorem dX8_step_170 : decode cX8_step 170 = .ok (.isub, 1) := by decide +kernel
theorem dX8_step_171 : decode cX8_step 171 = .ok (.iconst 2, 1) := by decide +kernel
theorem dX8_step_172 : decode cX8_step 172 = .ok (.if_icmp .ge 25, 3) := by decide +kernel
theorem dX8_step_175 : decode cX8_step 175 = .ok (.bipush 10, 2) := by decide +kernel
theorem dX8_step_177 : decode cX8_step 177 = .ok (.aload_n 0, 1) := by decide +kernel
theorem dX8_step_178 : decode cX8_step 178 = .ok (.getfield 73, 3) := by decide +kernel
theorem dX8_step_181 : decode cX8_step 181 = .ok (.imul, 1) := by decide +kernel
theorem dX8_step_182 : decode cX8_step 182 = .ok (.aload_n 0, 1) := by decide +kernel
theorem dX8_step_183 : decode cX8_step 183 = .ok (.aload_n 0, 1) := by decide +kernel
theorem dX8_step_184 : decode cX8_step 184 = .ok (.getfield 66, 3) := by decide +kernel
theorem dX8_step_187 : decode cX8_step 187 = .ok (.invokevirtual 69, 3) := by decide +kernel
theorem dX8_step_190 : decode cX8_step 190 = .ok (.iadd, 1) := by decide +kernel
theorem dX8_step_191 : decode cX8_step 191 = .ok (.bipush 48, 2) := by decide +kernel
theorem dX8_step_193 : decode cX8_step 193 = .ok (.isub, 1) := by decide +kernel
theorem dX8_step_194 : decode cX8_step 194 = .ok (.goto 7, 3) := by decide +kernel
theorem dX8_step_197 : decode cX8_step 197 = .ok (.aload_n 0, 1) := by decide +kernel
theorem dX8_step_198 : decode cX8_step 198 = .ok (.getfield 73, 3) := by decide +kernel
theorem dX8_step_201 : decode cX8_step 201 = .ok (.putfield 73, 3) := by decide +kernel
theorem dX8_step_204 : decode cX8_step 204 = .ok (.aload_n 0, 1) := by decide +kernel
theorem dX8_step_205 : decode cX8_step 205 = .ok (.dup, 1) := by decide +kernel
theorem dX8_step_206 : decode cX8_step 206 = .ok (.getfield 66, 3) := by decide +kernel
theorem dX8_step_209 : decode cX8_step 209 = .ok (.iconst 1, 1) := by decide +kernel
theorem dX8_step_210 : decode cX8_step 210 = .ok (.iadd, 1) := by decide +kernel
theorem dX8_step_211 : decode cX8_step 211 = .ok (.putfield 66, 3) := by decide +kernel
theorem dX8_step_214 : decode cX8_step 214 = .ok (.goto (-74), 3) := by decide +kernel
theorem dX8_step_217 : decode cX8_step 217 = .ok (.aload_n 0, 1) := by decide +kernel
theorem dX8_step_218 : decode cX8_step 218 = .ok (.iconst 2, 1) := by decide +kernel
theorem dX8_step_219 : decode cX8_step 219 = .ok (.putfield 63, 3) := by decide +kernel
theorem dX8_step_222 : decode cX8_step 222 = .ok (.aload_n 0, 1) := by decide +kernel
theorem dX8_step_223 : decode cX8_step 223 = .ok (.getfield 66, 3) := by decide +kernel
theorem dX8_step_226 : decode cX8_step 226 = .ok (.aload_n 0, 1) := by decide +kernel
theorem dX8_step_227 : decode cX8_step 227 = .ok (.getfield 57, 3) := by decide +kernel
theorem dX8_step_230 : decode cX8_step 230 = .ok (.isub, 1) := by decide +kernel
theorem dX8_step_231 : decode cX8_step 231 = .ok (.iconst 2, 1) := by decide +kernel
theorem dX8_step_232 : decode cX8_step 232 = .ok (.if_icmp .le 37, 3) := by decide +kernel
theorem dX8_step_235 : decode cX8_step 235 = .ok (.aload_n 0, 1) := by decide +kernel
theorem dX8_step_236 : decode cX8_step 236 = .ok (.iconst 1, 1) := by decide +kernel
theorem dX8_step_237 : decode cX8_step 237 = .ok (.invokevirtual 84, 3) := by decide +kernel
theorem dX8_step_240 : decode cX8_step 240 = .ok (.goto 29, 3) := by decide +kernel
theorem dX8_step_243 : decode cX8_step 243 = .ok (.aload_n 0, 1) := by decide +kernel
theorem dX8_step_244 : decode cX8_step 244 = .ok (.iconst 3, 1) := by decide +kernel
theorem dX8_step_245 : decode cX8_step 245 = .ok (.putfield 63, 3) := by decide +kernel
theorem dX8_step_248 : decode cX8_step 248 = .ok (.aload_n 0, 1) := by decide +kernel
theorem dX8_step_249 : decode cX8_step 249 = .ok (.dup, 1) := by decide +kernel
theorem dX8_step_250 : decode cX8_step 250 = .ok (.getfield 66, 3) := by decide +kernel
theorem dX8_step_253 : decode cX8_step 253 = .ok (.iconst 1, 1) := by decide +kernel
theorem dX8_step_254 : decode cX8_step 254 = .ok (.iadd, 1) := by decide +kernel
theorem dX8_step_255 : decode cX8_step 255 = .ok (.putfield 66, 3) := by decide +kernel
theorem dX8_step_258 : decode cX8_step 258 = .ok (.iload_n 1, 1) := by decide +kernel
theorem dX8_step_259 : decode cX8_step 259 = .ok (.bipush 59, 2) := by decide +kernel
theorem dX8_step_261 : decode cX8_step 261 = .ok (.if_icmp .eq 8, 3) := by decide +kernel
theorem dX8_step_264 : decode cX8_step 264 = .ok (.aload_n 0, 1) := by decide +kernel
theorem dX8_step_265 : decode cX8_step 265 = .ok (.iconst 1, 1) := by decide +kernel
theorem dX8_step_266 : decode cX8_step 266 = .ok (.invokevirtual 84, 3) := by decide +kernel
theorem dX8_step_269 : decode cX8_step 269 = .ok (.return_, 1) := by decide +kernel
theorem dX8_other_0 : decode cX8_other 0 = .ok (.aload_n 0, 1) := by decide +kernel
theorem dX8_other_1 : decode cX8_other 1 = .ok (.getfield 54, 3) := by decide +kernel
theorem dX8_other_4 : decode cX8_other 4 = .ok (.ifCond .ne 16, 3) := by decide +kernel
theorem dX8_other_7 : decode cX8_other 7 = .ok (.aload_n 0, 1) := by decide +kernel
theorem dX8_other_8 : decode cX8_other 8 = .ok (.getfield 63, 3) := by decide +kernel
theorem dX8_other_11 : decode cX8_other 11 = .ok (.iconst 2, 1) := by decide +kernel
theorem dX8_other_12 : decode cX8_other 12 = .ok (.if_icmp .eq 8, 3) := by decide +kernel
theorem dX8_other_15 : decode cX8_other 15 = .ok (.aload_n 0, 1) := by decide +kernel
theorem dX8_other_16 : decode cX8_other 16 = .ok (.iconst 2, 1) := by decide +kernel
theorem dX8_other_17 : decode cX8_other 17 = .ok (.invokevirtual 84, 3) := by decide +kernel
theorem dX8_other_20 : decode cX8_other 20 = .ok (.aload_n 0, 1) := by decide +kernel
theorem dX8_other_21 : decode cX8_other 21 = .ok (.getfield 54, 3) := by decide +kernel
theorem dX8_other_24 : decode cX8_other 24 = .ok (.ifCond .ne 23, 3) := by decide +kernel
theorem dX8_other_27 : decode cX8_other 27 = .ok (.aload_n 0, 1) := by decide +kernel
theorem dX8_other_28 : decode cX8_other 28 = .ok (.getfield 73, 3) := by decide +kernel
theorem dX8_other_31 : decode cX8_other 31 = .ok (.i2l, 1) := by decide +kernel
theorem dX8_other_32 : decode cX8_other 32 = .ok (.iload_n 1, 1) := by decide +kernel
theorem dX8_other_33 : decode cX8_other 33 = .ok (.i2l, 1) := by decide +kernel
theorem dX8_other_34 : decode cX8_other 34 = .ok (.iload_n 2, 1) := by decide +kernel
theorem dX8_other_35 : decode cX8_other 35 = .ok (.i2l, 1) := by decide +kernel
theorem dX8_other_36 : decode cX8_other 36 = .ok (.invokestatic 46, 3) := by decide +kernel
theorem dX8_other_39 : decode cX8_other 39 = .ok (.ifCond .ne 8, 3) := by decide +kernel
theorem dX8_other_42 : decode cX8_other 42 = .ok (.aload_n 0, 1) := by decide +kernel
theorem dX8_other_43 : decode cX8_other 43 = .ok (.iconst 3, 1) := by decide +kernel
theorem dX8_other_44 : decode cX8_other 44 = .ok (.invokevirtual 84, 3) := by decide +kernel
theorem dX8_other_47 : decode cX8_other 47 = .ok (.aload_n 0, 1) := by decide +kernel
theorem dX8_other_48 : decode cX8_other 48 = .ok (.getfield 54, 3) := by decide +kernel
theorem dX8_other_51 : decode cX8_other 51 = .ok (.ifCond .ne 20, 3) := by decide +kernel
theorem dX8_other_54 : decode cX8_other 54 = .ok (.iload_n 3, 1) := by decide +kernel
theorem dX8_other_55 : decode cX8_other 55 = .ok (.aload_n 0, 1) := by decide +kernel
theorem dX8_other_56 : decode cX8_other 56 = .ok (.getfield 73, 3) := by decide +kernel
theorem dX8_other_59 : decode cX8_other 59 = .ok (.ishr, 1) := by decide +kernel
theorem dX8_other_60 : decode cX8_other 60 = .ok (.iconst 1, 1) := by decide +kernel
theorem dX8_other_61 : decode cX8_other 61 = .ok (.iand, 1) := by decide +kernel
theorem dX8_other_62 : decode cX8_other 62 = .ok (.iconst 1, 1) := by decide +kernel
theorem dX8_other_63 : decode cX8_other 63 = .ok (.if_icmp .ne 8, 3) := by decide +kernel
theorem dX8_other_66 : decode cX8_other 66 = .ok (.aload_n 0, 1) := by decide +kernel
theorem dX8_other_67 : decode cX8_other 67 = .ok (.iconst 4, 1) := by decide +kernel
theorem dX8_other_68 : decode cX8_other 68 = .ok (.invokevirtual 84, 3) := by decide +kernel
theorem dX8_other_71 : decode cX8_other 71 = .ok (.aload_n 0, 1) := by decide +kernel
theorem dX8_other_72 : decode cX8_other 72 = .ok (.getfield 54, 3) := by decide +kernel
theorem dX8_other_75 : decode cX8_other 75 = .ok (.ifCond .ne 10, 3) := by decide +kernel
theorem dX8_other_78 : decode cX8_other 78 = .ok (.aload_n 0, 1) := by decide +kernel
theorem dX8_other_79 : decode cX8_other 79 = .ok (.getfield 73, 3) := by decide +kernel
theorem dX8_other_82 : decode cX8_other 82 = .ok (.goto 4, 3) := by decide +kernel
theorem dX8_other_85 : decode cX8_other 85 = .ok (.iload_n 1, 1) := by decide +kernel
theorem dX8_other_86 : decode cX8_other 86 = .ok (.istore 4, 2) := by decide +kernel
theorem dX8_other_88 : decode cX8_other 88 = .ok (.aload_n 0, 1) := by decide +kernel
theorem dX8_other_89 : decode cX8_other 89 = .ok (.invokevirtual 88, 3) := by decide +kernel
theorem dX8_other_92 : decode cX8_other 92 = .ok (.iload 4, 2) := by decide +kernel
theorem dX8_other_94 : decode cX8_other 94 = .ok (.ireturn, 1) := by decide +kernel
theorem dX8_thingHere_0 : decode cX8_thingHere 0 = .ok (.aload_n 0, 1) := by decide +kernel
theorem dX8_thingHere_1 : decode cX8_thingHere 1 = .ok (.iconst 0, 1) := by decide +kernel
theorem dX8_thingHere_2 : decode cX8_thingHere 2 = .ok (.iconst 5, 1) := by decide +kernel
theorem dX8_thingHere_3 : decode cX8_thingHere 3 = .ok (.iload_n 1, 1) := by decide +kernel
theorem dX8_thingHere_4 : decode cX8_thingHere 4 = .ok (.invokevirtual 91, 3) := by decide +kernel
theorem dX8_thingHere_7 : decode cX8_thingHere 7 = .ok (.istore_n 2, 1) := by decide +kernel
theorem dX8_thingHere_8 : decode cX8_thingHere 8 = .ok (.aload_n 0, 1) := by decide +kernel
theorem dX8_thingHere_9 : decode cX8_thingHere 9 = .ok (.iload_n 2, 1) := by decide +kernel
theorem dX8_thingHere_10 : decode cX8_thingHere 10 = .ok (.aload_n 0, 1) := by decide +kernel
theorem dX8_thingHere_11 : decode cX8_thingHere 11 = .ok (.getfield 95, 3) := by decide +kernel
theorem dX8_thingHere_14 : decode cX8_thingHere 14 = .ok (.if_icmp .le 7, 3) := by decide +kernel
theorem dX8_thingHere_17 : decode cX8_thingHere 17 = .ok (.iload_n 2, 1) := by decide +kernel
theorem dX8_thingHere_18 : decode cX8_thingHere 18 = .ok (.goto 7, 3) := by decide +kernel
theorem dX8_thingHere_21 : decode cX8_thingHere 21 = .ok (.aload_n 0, 1) := by decide +kernel
theorem dX8_thingHere_22 : decode cX8_thingHere 22 = .ok (.getfield 95, 3) := by decide +kernel
theorem dX8_thingHere_25 : decode cX8_thingHere 25 = .ok (.putfield 95, 3) := by decide +kernel
theorem dX8_thingHere_28 : decode cX8_thingHere 28 = .ok (.iload_n 2, 1) := by decide +kernel
theorem dX8_thingHere_29 : decode cX8_thingHere 29 = .ok (.ireturn, 1) := by decide +kernel
theorem dX8_readBan_0 : decode cX8_readBan 0 = .ok (.bipush 27, 2) := by decide +kernel
theorem dX8_readBan_2 : decode cX8_readBan 2 = .ok (.iconst 2, 1) := by decide +kernel
theorem dX8_readBan_3 : decode cX8_readBan 3 = .ok (.aload_n 0, 1) := by decide +kernel
theorem dX8_readBan_4 : decode cX8_readBan 4 = .ok (.getfield 13, 3) := by decide +kernel
theorem dX8_readBan_7 : decode cX8_readBan 7 = .ok (.bipush 35, 2) := by decide +kernel
theorem dX8_readBan_9 : decode cX8_readBan 9 = .ok (.iaload, 1) := by decide +kernel
theorem dX8_readBan_10 : decode cX8_readBan 10 = .ok (.imul, 1) := by decide +kernel
theorem dX8_readBan_11 : decode cX8_readBan 11 = .ok (.iadd, 1) := by decide +kernel
theorem dX8_readBan_12 : decode cX8_readBan 12 = .ok (.istore_n 1, 1) := by decide +kernel
theorem dX8_readBan_13 : decode cX8_readBan 13 = .ok (.aload_n 0, 1) := by decide +kernel
theorem dX8_readBan_14 : decode cX8_readBan 14 = .ok (.iconst 0, 1) := by decide +kernel
theorem dX8_readBan_15 : decode cX8_readBan 15 = .ok (.invokevirtual 98, 3) := by decide +kernel
theorem dX8_readBan_18 : decode cX8_readBan 18 = .ok (.istore_n 2, 1) := by decide +kernel
theorem dX8_readBan_19 : decode cX8_readBan 19 = .ok (.aload_n 0, 1) := by decide +kernel
theorem dX8_readBan_20 : decode cX8_readBan 20 = .ok (.getfield 54, 3) := by decide +kernel
theorem dX8_readBan_23 : decode cX8_readBan 23 = .ok (.ifCond .ne 24, 3) := by decide +kernel
theorem dX8_readBan_26 : decode cX8_readBan 26 = .ok (.aload_n 0, 1) := by decide +kernel
theorem dX8_readBan_27 : decode cX8_readBan 27 = .ok (.getfield 63, 3) := by decide +kernel
theorem dX8_readBan_30 : decode cX8_readBan 30 = .ok (.iconst 2, 1) := by decide +kernel
theorem dX8_readBan_31 : decode cX8_readBan 31 = .ok (.if_icmp .ne 16, 3) := by decide +kernel
theorem dX8_readBan_34 : decode cX8_readBan 34 = .ok (.aload_n 0, 1) := by decide +kernel
theorem dX8_readBan_35 : decode cX8_readBan 35 = .ok (.getfield 73, 3) := by decide +kernel
theorem dX8_readBan_38 : decode cX8_readBan 38 = .ok (.iload_n 2, 1) := by decide +kernel
theorem dX8_readBan_39 : decode cX8_readBan 39 = .ok (.if_icmp .ne 8, 3) := by decide +kernel
theorem dX8_readBan_42 : decode cX8_readBan 42 = .ok (.aload_n 0, 1) := by decide +kernel
theorem dX8_readBan_43 : decode cX8_readBan 43 = .ok (.iconst 3, 1) := by decide +kernel
theorem dX8_readBan_44 : decode cX8_readBan 44 = .ok (.invokevirtual 84, 3) := by decide +kernel
theorem dX8_readBan_47 : decode cX8_readBan 47 = .ok (.aload_n 0, 1) := by decide +kernel
theorem dX8_readBan_48 : decode cX8_readBan 48 = .ok (.getfield 13, 3) := by decide +kernel
theorem dX8_readBan_51 : decode cX8_readBan 51 = .ok (.iload_n 1, 1) := by decide +kernel
theorem dX8_readBan_52 : decode cX8_readBan 52 = .ok (.iload_n 2, 1) := by decide +kernel
theorem dX8_readBan_53 : decode cX8_readBan 53 = .ok (.iastore, 1) := by decide +kernel
theorem dX8_readBan_54 : decode cX8_readBan 54 = .ok (.aload_n 0, 1) := by decide +kernel
theorem dX8_readBan_55 : decode cX8_readBan 55 = .ok (.getfield 13, 3) := by decide +kernel
theorem dX8_readBan_58 : decode cX8_readBan 58 = .ok (.iload_n 1, 1) := by decide +kernel
theorem dX8_readBan_59 : decode cX8_readBan 59 = .ok (.iconst 1, 1) := by decide +kernel
theorem dX8_readBan_60 : decode cX8_readBan 60 = .ok (.iadd, 1) := by decide +kernel
theorem dX8_readBan_61 : decode cX8_readBan 61 = .ok (.aload_n 0, 1) := by decide +kernel
theorem dX8_readBan_62 : decode cX8_readBan 62 = .ok (.iconst 0, 1) := by decide +kernel
theorem dX8_readBan_63 : decode cX8_readBan 63 = .ok (.invokevirtual 98, 3) := by decide +kernel
theorem dX8_readBan_66 : decode cX8_readBan 66 = .ok (.iastore, 1) := by decide +kernel
theorem dX8_readBan_67 : decode cX8_readBan 67 = .ok (.aload_n 0, 1) := by decide +kernel
theorem dX8_readBan_68 : decode cX8_readBan 68 = .ok (.getfield 13, 3) := by decide +kernel
theorem dX8_readBan_71 : decode cX8_readBan 71 = .ok (.bipush 35, 2) := by decide +kernel
theorem dX8_readBan_73 : decode cX8_readBan 73 = .ok (.dup2, 1) := by decide +kernel
theorem dX8_readBan_74 : decode cX8_readBan 74 = .ok (.iaload, 1) := by decide +kernel
theorem dX8_readBan_75 : decode cX8_readBan 75 = .ok (.iconst 1, 1) := by decide +kernel
theorem dX8_readBan_76 : decode cX8_readBan 76 = .ok (.iadd, 1) := by decide +kernel
theorem dX8_readBan_77 : decode cX8_readBan 77 = .ok (.iastore, 1) := by decide +kernel
theorem dX8_readBan_78 : decode cX8_readBan 78 = .ok (.return_, 1) := by decide +kernel
theorem dX8_readMore_0 : decode cX8_readMore 0 = .ok (.iload_n 1, 1) := by decide +kernel
theorem dX8_readMore_1 : decode cX8_readMore 1 = .ok (.iconst 4, 1) := by decide +kernel
theorem dX8_readMore_2 : decode cX8_readMore 2 = .ok (.if_icmp .gt 78, 3) := by decide +kernel
theorem dX8_readMore_5 : decode cX8_readMore 5 = .ok (.aload_n 0, 1) := by decide +kernel
theorem dX8_readMore_6 : decode cX8_readMore 6 = .ok (.getfield 101, 3) := by decide +kernel
theorem dX8_readMore_9 : decode cX8_readMore 9 = .ok (.istore_n 2, 1) := by decide +kernel
theorem dX8_readMore_10 : decode cX8_readMore 10 = .ok (.aload_n 0, 1) := by decide +kernel
theorem dX8_readMore_11 : decode cX8_readMore 11 = .ok (.getfield 13, 3) := by decide +kernel
theorem dX8_readMore_14 : decode cX8_readMore 14 = .ok (.iload_n 2, 1) := by decide +kernel
theorem dX8_readMore_15 : decode cX8_readMore 15 = .ok (.iload_n 1, 1) := by decide +kernel
theorem dX8_readMore_16 : decode cX8_readMore 16 = .ok (.iastore, 1) := by decide +kernel
theorem dX8_readMore_17 : decode cX8_readMore 17 = .ok (.aload_n 0, 1) := by decide +kernel
theorem dX8_readMore_18 : decode cX8_readMore 18 = .ok (.getfield 13, 3) := by decide +kernel
theorem dX8_readMore_21 : decode cX8_readMore 21 = .ok (.bipush 6, 2) := by decide +kernel
theorem dX8_readMore_23 : decode cX8_readMore 23 = .ok (.iload_n 2, 1) := by decide +kernel
theorem dX8_readMore_24 : decode cX8_readMore 24 = .ok (.iadd, 1) := by decide +kernel
theorem dX8_readMore_25 : decode cX8_readMore 25 = .ok (.iload_n 1, 1) := by decide +kernel
theorem dX8_readMore_26 : decode cX8_readMore 26 = .ok (.iconst 1, 1) := by decide +kernel
theorem dX8_readMore_27 : decode cX8_readMore 27 = .ok (.if_icmp .lt 13, 3) := by decide +kernel
theorem dX8_readMore_30 : decode cX8_readMore 30 = .ok (.aload_n 0, 1) := by decide +kernel
theorem dX8_readMore_31 : decode cX8_readMore 31 = .ok (.iconst 0, 1) := by decide +kernel
theorem dX8_readMore_32 : decode cX8_readMore 32 = .ok (.invokevirtual 98, 3) := by decide +kernel
theorem dX8_readMore_35 : decode cX8_readMore 35 = .ok (.iload_n 2, 1) := by decide +kernel
theorem dX8_readMore_36 : decode cX8_readMore 36 = .ok (.isub, 1) := by decide +kernel
theorem dX8_readMore_37 : decode cX8_readMore 37 = .ok (.goto 4, 3) := by decide +kernel
theorem dX8_readMore_40 : decode cX8_readMore 40 = .ok (.iconst 0, 1) := by decide +kernel
theorem dX8_readMore_41 : decode cX8_readMore 41 = .ok (.iastore, 1) := by decide +kernel
theorem dX8_readMore_42 : decode cX8_readMore 42 = .ok (.aload_n 0, 1) := by decide +kernel
theorem dX8_readMore_43 : decode cX8_readMore 43 = .ok (.getfield 13, 3) := by decide +kernel
theorem dX8_readMore_46 : decode cX8_readMore 46 = .ok (.bipush 12, 2) := by decide +kernel
theorem dX8_readMore_48 : decode cX8_readMore 48 = .ok (.iload_n 2, 1) := by decide +kernel
theorem dX8_readMore_49 : decode cX8_readMore 49 = .ok (.iadd, 1) := by decide +kernel
theorem dX8_readMore_50 : decode cX8_readMore 50 = .ok (.iload_n 1, 1) := by decide +kernel
theorem dX8_readMore_51 : decode cX8_readMore 51 = .ok (.iconst 3, 1) := by decide +kernel
theorem dX8_readMore_52 : decode cX8_readMore 52 = .ok (.if_icmp .lt 13, 3) := by decide +kernel
theorem dX8_readMore_55 : decode cX8_readMore 55 = .ok (.aload_n 0, 1) := by decide +kernel
theorem dX8_readMore_56 : decode cX8_readMore 56 = .ok (.iconst 0, 1) := by decide +kernel
theorem dX8_readMore_57 : decode cX8_readMore 57 = .ok (.invokevirtual 98, 3) := by decide +kernel
theorem dX8_readMore_60 : decode cX8_readMore 60 = .ok (.iload_n 2, 1) := by decide +kernel
theorem dX8_readMore_61 : decode cX8_readMore 61 = .ok (.isub, 1) := by decide +kernel
theorem dX8_readMore_62 : decode cX8_readMore 62 = .ok (.goto 4, 3) := by decide +kernel
theorem dX8_readMore_65 : decode cX8_readMore 65 = .ok (.iconst 0, 1) := by decide +kernel
theorem dX8_readMore_66 : decode cX8_readMore 66 = .ok (.iastore, 1) := by decide +kernel
theorem dX8_readMore_67 : decode cX8_readMore 67 = .ok (.aload_n 0, 1) := by decide +kernel
theorem dX8_readMore_68 : decode cX8_readMore 68 = .ok (.dup, 1) := by decide +kernel
theorem dX8_readMore_69 : decode cX8_readMore 69 = .ok (.getfield 101, 3) := by decide +kernel
theorem dX8_readMore_72 : decode cX8_readMore 72 = .ok (.iconst 1, 1) := by decide +kernel
theorem dX8_readMore_73 : decode cX8_readMore 73 = .ok (.iadd, 1) := by decide +kernel
theorem dX8_readMore_74 : decode cX8_readMore 74 = .ok (.putfield 101, 3) := by decide +kernel
theorem dX8_readMore_77 : decode cX8_readMore 77 = .ok (.goto 94, 3) := by decide +kernel
theorem dX8_readMore_80 : decode cX8_readMore 80 = .ok (.iload_n 1, 1) := by decide +kernel
theorem dX8_readMore_81 : decode cX8_readMore 81 = .ok (.iconst 5, 1) := by decide +kernel
theorem dX8_readMore_82 : decode cX8_readMore 82 = .ok (.if_icmp .ne 29, 3) := by decide +kernel
theorem dX8_readMore_85 : decode cX8_readMore 85 = .ok (.aload_n 0, 1) := by decide +kernel
theorem dX8_readMore_86 : decode cX8_readMore 86 = .ok (.getfield 13, 3) := by decide +kernel
theorem dX8_readMore_89 : decode cX8_readMore 89 = .ok (.bipush 18, 2) := by decide +kernel
theorem dX8_readMore_91 : decode cX8_readMore 91 = .ok (.dup2, 1) := by decide +kernel
theorem dX8_readMore_92 : decode cX8_readMore 92 = .ok (.iaload, 1) := by decide +kernel
theorem dX8_readMore_93 : decode cX8_readMore 93 = .ok (.iconst 1, 1) := by decide +kernel
theorem dX8_readMore_94 : decode cX8_readMore 94 = .ok (.aload_n 0, 1) := by decide +kernel
theorem dX8_readMore_95 : decode cX8_readMore 95 = .ok (.aload_n 0, 1) := by decide +kernel
theorem dX8_readMore_96 : decode cX8_readMore 96 = .ok (.getfield 13, 3) := by decide +kernel
theorem dX8_readMore_99 : decode cX8_readMore 99 = .ok (.bipush 18, 2) := by decide +kernel
theorem dX8_readMore_101 : decode cX8_readMore 101 = .ok (.iaload, 1) := by decide +kernel
theorem dX8_readMore_102 : decode cX8_readMore 102 = .ok (.invokevirtual 98, 3) := by decide +kernel
theorem dX8_readMore_105 : decode cX8_readMore 105 = .ok (.ishl, 1) := by decide +kernel
theorem dX8_readMore_106 : decode cX8_readMore 106 = .ok (.ior, 1) := by decide +kernel
theorem dX8_readMore_107 : decode cX8_readMore 107 = .ok (.iastore, 1) := by decide +kernel
theorem dX8_readMore_108 : decode cX8_readMore 108 = .ok (.goto 63, 3) := by decide +kernel
theorem dX8_readMore_111 : decode cX8_readMore 111 = .ok (.iload_n 1, 1) := by decide +kernel
theorem dX8_readMore_112 : decode cX8_readMore 112 = .ok (.bipush 6, 2) := by decide +kernel
theorem dX8_readMore_114 : decode cX8_readMore 114 = .ok (.if_icmp .ne 53, 3) := by decide +kernel
theorem dX8_readMore_117 : decode cX8_readMore 117 = .ok (.aload_n 0, 1) := by decide +kernel
theorem dX8_readMore_118 : decode cX8_readMore 118 = .ok (.getfield 13, 3) := by decide +kernel
theorem dX8_readMore_121 : decode cX8_readMore 121 = .ok (.bipush 19, 2) := by decide +kernel
theorem dX8_readMore_123 : decode cX8_readMore 123 = .ok (.aload_n 0, 1) := by decide +kernel
theorem dX8_readMore_124 : decode cX8_readMore 124 = .ok (.getfield 104, 3) := by decide +kernel
theorem dX8_readMore_127 : decode cX8_readMore 127 = .ok (.iadd, 1) := by decide +kernel
theorem dX8_readMore_128 : decode cX8_readMore 128 = .ok (.aload_n 0, 1) := by decide +kernel
theorem dX8_readMore_129 : decode cX8_readMore 129 = .ok (.iconst 0, 1) := by decide +kernel
theorem dX8_readMore_130 : decode cX8_readMore 130 = .ok (.invokevirtual 98, 3) := by decide +kernel
theorem dX8_readMore_133 : decode cX8_readMore 133 = .ok (.iastore, 1) := by decide +kernel
theorem dX8_readMore_134 : decode cX8_readMore 134 = .ok (.aload_n 0, 1) := by decide +kernel
theorem dX8_readMore_135 : decode cX8_readMore 135 = .ok (.getfield 13, 3) := by decide +kernel
theorem dX8_readMore_138 : decode cX8_readMore 138 = .ok (.bipush 23, 2) := by decide +kernel
theorem dX8_readMore_140 : decode cX8_readMore 140 = .ok (.aload_n 0, 1) := by decide +kernel
theorem dX8_readMore_141 : decode cX8_readMore 141 = .ok (.getfield 104, 3) := by decide +kernel
theorem dX8_readMore_144 : decode cX8_readMore 144 = .ok (.iadd, 1) := by decide +kernel
theorem dX8_readMore_145 : decode cX8_readMore 145 = .ok (.aload_n 0, 1) := by decide +kernel
theorem dX8_readMore_146 : decode cX8_readMore 146 = .ok (.iconst 0, 1) := by decide +kernel
theorem dX8_readMore_147 : decode cX8_readMore 147 = .ok (.bipush 9, 2) := by decide +kernel
theorem dX8_readMore_149 : decode cX8_readMore 149 = .ok (.iconst 0, 1) := by decide +kernel
theorem dX8_readMore_150 : decode cX8_readMore 150 = .ok (.invokevirtual 91, 3) := by decide +kernel
theorem dX8_readMore_153 : decode cX8_readMore 153 = .ok (.iastore, 1) := by decide +kernel
theorem dX8_readMore_154 : decode cX8_readMore 154 = .ok (.aload_n 0, 1) := by decide +kernel
theorem dX8_readMore_155 : decode cX8_readMore 155 = .ok (.dup, 1) := by decide +kernel
theorem dX8_readMore_156 : decode cX8_readMore 156 = .ok (.getfield 104, 3) := by decide +kernel
theorem dX8_readMore_159 : decode cX8_readMore 159 = .ok (.iconst 1, 1) := by decide +kernel
theorem dX8_readMore_160 : decode cX8_readMore 160 = .ok (.iadd, 1) := by decide +kernel
theorem dX8_readMore_161 : decode cX8_readMore 161 = .ok (.putfield 104, 3) := by decide +kernel
theorem dX8_readMore_164 : decode cX8_readMore 164 = .ok (.goto 7, 3) := by decide +kernel
theorem dX8_readMore_167 : decode cX8_readMore 167 = .ok (.aload_n 0, 1) := by decide +kernel
theorem dX8_readMore_168 : decode cX8_readMore 168 = .ok (.invokevirtual 107, 3) := by decide +kernel
theorem dX8_readMore_171 : decode cX8_readMore 171 = .ok (.return_, 1) := by decide +kernel
theorem dX8_readLine_0 : decode cX8_readLine 0 = .ok (.aload_n 0, 1) := by decide +kernel
theorem dX8_readLine_1 : decode cX8_readLine 1 = .ok (.invokevirtual 110, 3) := by decide +kernel
theorem dX8_readLine_4 : decode cX8_readLine 4 = .ok (.istore_n 1, 1) := by decide +kernel
theorem dX8_readLine_5 : decode cX8_readLine 5 = .ok (.iload_n 1, 1) := by decide +kernel
theorem dX8_readLine_6 : decode cX8_readLine 6 = .ok (.i2l, 1) := by decide +kernel
theorem dX8_readLine_7 : decode cX8_readLine 7 = .ok (.lconst 0, 1) := by decide +kernel
theorem dX8_readLine_8 : decode cX8_readLine 8 = .ok (.ldc2_w 114, 3) := by decide +kernel
theorem dX8_readLine_11 : decode cX8_readLine 11 = .ok (.invokestatic 46, 3) := by decide +kernel
theorem dX8_readLine_14 : decode cX8_readLine 14 = .ok (.ifCond .ne 9, 3) := by decide +kernel
theorem dX8_readLine_17 : decode cX8_readLine 17 = .ok (.aload_n 0, 1) := by decide +kernel
theorem dX8_readLine_18 : decode cX8_readLine 18 = .ok (.iconst 2, 1) := by decide +kernel
theorem dX8_readLine_19 : decode cX8_readLine 19 = .ok (.invokevirtual 84, 3) := by decide +kernel
theorem dX8_readLine_22 : decode cX8_readLine 22 = .ok (.return_, 1) := by decide +kernel
theorem dX8_readLine_23 : decode cX8_readLine 23 = .ok (.iload_n 1, 1) := by decide +kernel
theorem dX8_readLine_24 : decode cX8_readLine 24 = .ok (.iconst 4, 1) := by decide +kernel
theorem dX8_readLine_25 : decode cX8_readLine 25 = .ok (.if_icmp .gt 12, 3) := by decide +kernel
theorem dX8_readLine_28 : decode cX8_readLine 28 = .ok (.aload_n 0, 1) := by decide +kernel
theorem dX8_readLine_29 : decode cX8_readLine 29 = .ok (.getfield 101, 3) := by decide +kernel
theorem dX8_readLine_32 : decode cX8_readLine 32 = .ok (.bipush 6, 2) := by decide +kernel
theorem dX8_readLine_34 : decode cX8_readLine 34 = .ok (.if_icmp .eq 34, 3) := by decide +kernel
theorem dX8_readLine_37 : decode cX8_readLine 37 = .ok (.iload_n 1, 1) := by decide +kernel
theorem dX8_readLine_38 : decode cX8_readLine 38 = .ok (.bipush 6, 2) := by decide +kernel
theorem dX8_readLine_40 : decode cX8_readLine 40 = .ok (.if_icmp .ne 11, 3) := by decide +kernel
theorem dX8_readLine_43 : decode cX8_readLine 43 = .ok (.aload_n 0, 1) := by decide +kernel
theorem dX8_readLine_44 : decode cX8_readLine 44 = .ok (.getfield 104, 3) := by decide +kernel
theorem dX8_readLine_47 : decode cX8_readLine 47 = .ok (.iconst 4, 1) := by decide +kernel
theorem dX8_readLine_48 : decode cX8_readLine 48 = .ok (.if_icmp .eq 20, 3) := by decide +kernel
theorem dX8_readLine_51 : decode cX8_readLine 51 = .ok (.iload_n 1, 1) := by decide +kernel
theorem dX8_readLine_52 : decode cX8_readLine 52 = .ok (.bipush 7, 2) := by decide +kernel
theorem dX8_readLine_54 : decode cX8_readLine 54 = .ok (.if_icmp .ne 19, 3) := by decide +kernel
theorem dX8_readLine_57 : decode cX8_readLine 57 = .ok (.aload_n 0, 1) := by decide +kernel
theorem dX8_readLine_58 : decode cX8_readLine 58 = .ok (.getfield 13, 3) := by decide +kernel
theorem dX8_readLine_61 : decode cX8_readLine 61 = .ok (.bipush 35, 2) := by decide +kernel
theorem dX8_readLine_63 : decode cX8_readLine 63 = .ok (.iaload, 1) := by decide +kernel
theorem dX8_readLine_64 : decode cX8_readLine 64 = .ok (.iconst 4, 1) := by decide +kernel
theorem dX8_readLine_65 : decode cX8_readLine 65 = .ok (.if_icmp .ne 8, 3) := by decide +kernel
theorem dX8_readLine_68 : decode cX8_readLine 68 = .ok (.aload_n 0, 1) := by decide +kernel
theorem dX8_readLine_69 : decode cX8_readLine 69 = .ok (.iconst 5, 1) := by decide +kernel
theorem dX8_readLine_70 : decode cX8_readLine 70 = .ok (.invokevirtual 84, 3) := by decide +kernel
theorem dX8_readLine_73 : decode cX8_readLine 73 = .ok (.aload_n 0, 1) := by decide +kernel
theorem dX8_readLine_74 : decode cX8_readLine 74 = .ok (.invokevirtual 88, 3) := by decide +kernel
theorem dX8_readLine_77 : decode cX8_readLine 77 = .ok (.aload_n 0, 1) := by decide +kernel
theorem dX8_readLine_78 : decode cX8_readLine 78 = .ok (.getfield 54, 3) := by decide +kernel
theorem dX8_readLine_81 : decode cX8_readLine 81 = .ok (.ifCond .le 4, 3) := by decide +kernel
theorem dX8_readLine_84 : decode cX8_readLine 84 = .ok (.return_, 1) := by decide +kernel
theorem dX8_readLine_85 : decode cX8_readLine 85 = .ok (.aload_n 0, 1) := by decide +kernel
theorem dX8_readLine_86 : decode cX8_readLine 86 = .ok (.iload_n 1, 1) := by decide +kernel
theorem dX8_readLine_87 : decode cX8_readLine 87 = .ok (.invokevirtual 116, 3) := by decide +kernel
theorem dX8_readLine_90 : decode cX8_readLine 90 = .ok (.aload_n 0, 1) := by decide +kernel
theorem dX8_readLine_91 : decode cX8_readLine 91 = .ok (.getfield 54, 3) := by decide +kernel
theorem dX8_readLine_94 : decode cX8_readLine 94 = .ok (.ifCond .ne 16, 3) := by decide +kernel
theorem dX8_readLine_97 : decode cX8_readLine 97 = .ok (.aload_n 0, 1) := by decide +kernel
theorem dX8_readLine_98 : decode cX8_readLine 98 = .ok (.getfield 63, 3) := by decide +kernel
theorem dX8_readLine_101 : decode cX8_readLine 101 = .ok (.iconst 3, 1) := by decide +kernel
theorem dX8_readLine_102 : decode cX8_readLine 102 = .ok (.if_icmp .eq 8, 3) := by decide +kernel
theorem dX8_readLine_105 : decode cX8_readLine 105 = .ok (.aload_n 0, 1) := by decide +kernel
theorem dX8_readLine_106 : decode cX8_readLine 106 = .ok (.iconst 2, 1) := by decide +kernel
theorem dX8_readLine_107 : decode cX8_readLine 107 = .ok (.invokevirtual 84, 3) := by decide +kernel
theorem dX8_readLine_110 : decode cX8_readLine 110 = .ok (.aload_n 0, 1) := by decide +kernel
theorem dX8_readLine_111 : decode cX8_readLine 111 = .ok (.invokevirtual 88, 3) := by decide +kernel
theorem dX8_readLine_114 : decode cX8_readLine 114 = .ok (.return_, 1) := by decide +kernel
theorem dX8_text_0 : decode cX8_text 0 = .ok (.aload_n 0, 1) := by decide +kernel
theorem dX8_text_1 : decode cX8_text 1 = .ok (.iconst 0, 1) := by decide +kernel
theorem dX8_text_2 : decode cX8_text 2 = .ok (.putfield 54, 3) := by decide +kernel
theorem dX8_text_5 : decode cX8_text 5 = .ok (.aload_n 0, 1) := by decide +kernel
theorem dX8_text_6 : decode cX8_text 6 = .ok (.iconst 0, 1) := by decide +kernel
theorem dX8_text_7 : decode cX8_text 7 = .ok (.putfield 66, 3) := by decide +kernel
theorem dX8_text_10 : decode cX8_text 10 = .ok (.aload_n 0, 1) := by decide +kernel
theorem dX8_text_11 : decode cX8_text 11 = .ok (.iconst 0, 1) := by decide +kernel
theorem dX8_text_12 : decode cX8_text 12 = .ok (.putfield 101, 3) := by decide +kernel
theorem dX8_text_15 : decode cX8_text 15 = .ok (.aload_n 0, 1) := by decide +kernel
theorem dX8_text_16 : decode cX8_text 16 = .ok (.iconst 0, 1) := by decide +kernel
theorem dX8_text_17 : decode cX8_text 17 = .ok (.putfield 104, 3) := by decide +kernel
theorem dX8_text_20 : decode cX8_text 20 = .ok (.aload_n 0, 1) := by decide +kernel
theorem dX8_text_21 : decode cX8_text 21 = .ok (.iconst (-1), 1) := by decide +kernel
theorem dX8_text_22 : decode cX8_text 22 = .ok (.putfield 95, 3) := by decide +kernel
theorem dX8_text_25 : decode cX8_text 25 = .ok (.iconst 0, 1) := by decide +kernel
theorem dX8_text_26 : decode cX8_text 26 = .ok (.istore_n 1, 1) := by decide +kernel
theorem dX8_text_27 : decode cX8_text 27 = .ok (.iconst 0, 1) := by decide +kernel
theorem dX8_text_28 : decode cX8_text 28 = .ok (.istore_n 2, 1) := by decide +kernel
theorem dX8_text_29 : decode cX8_text 29 = .ok (.iload_n 2, 1) := by decide +kernel
theorem dX8_text_30 : decode cX8_text 30 = .ok (.bipush 37, 2) := by decide +kernel
theorem dX8_text_32 : decode cX8_text 32 = .ok (.if_icmp .ge 16, 3) := by decide +kernel
theorem dX8_text_35 : decode cX8_text 35 = .ok (.aload_n 0, 1) := by decide +kernel
theorem dX8_text_36 : decode cX8_text 36 = .ok (.getfield 13, 3) := by decide +kernel
theorem dX8_text_39 : decode cX8_text 39 = .ok (.iload_n 2, 1) := by decide +kernel
theorem dX8_text_40 : decode cX8_text 40 = .ok (.iconst 0, 1) := by decide +kernel
theorem dX8_text_41 : decode cX8_text 41 = .ok (.iastore, 1) := by decide +kernel
theorem dX8_text_42 : decode cX8_text 42 = .ok (.iinc 2 1, 3) := by decide +kernel
theorem dX8_text_45 : decode cX8_text 45 = .ok (.goto (-16), 3) := by decide +kernel
theorem dX8_text_48 : decode cX8_text 48 = .ok (.aload_n 0, 1) := by decide +kernel
theorem dX8_text_49 : decode cX8_text 49 = .ok (.invokevirtual 88, 3) := by decide +kernel
theorem dX8_text_52 : decode cX8_text 52 = .ok (.aload_n 0, 1) := by decide +kernel
theorem dX8_text_53 : decode cX8_text 53 = .ok (.getfield 54, 3) := by decide +kernel
theorem dX8_text_56 : decode cX8_text 56 = .ok (.ifCond .ne 20, 3) := by decide +kernel
theorem dX8_text_59 : decode cX8_text 59 = .ok (.aload_n 0, 1) := by decide +kernel
theorem dX8_text_60 : decode cX8_text 60 = .ok (.getfield 63, 3) := by decide +kernel
theorem dX8_text_63 : decode cX8_text 63 = .ok (.ifCond .eq 13, 3) := by decide +kernel
theorem dX8_text_66 : decode cX8_text 66 = .ok (.aload_n 0, 1) := by decide +kernel
theorem dX8_text_67 : decode cX8_text 67 = .ok (.invokevirtual 119, 3) := by decide +kernel
theorem dX8_text_70 : decode cX8_text 70 = .ok (.iinc 1 1, 3) := by decide +kernel
theorem dX8_text_73 : decode cX8_text 73 = .ok (.goto (-21), 3) := by decide +kernel
theorem dX8_text_76 : decode cX8_text 76 = .ok (.aload_n 0, 1) := by decide +kernel
theorem dX8_text_77 : decode cX8_text 77 = .ok (.getfield 54, 3) := by decide +kernel
theorem dX8_text_80 : decode cX8_text 80 = .ok (.ifCond .ne 20, 3) := by decide +kernel
theorem dX8_text_83 : decode cX8_text 83 = .ok (.aload_n 0, 1) := by decide +kernel
theorem dX8_text_84 : decode cX8_text 84 = .ok (.getfield 95, 3) := by decide +kernel
theorem dX8_text_87 : decode cX8_text 87 = .ok (.aload_n 0, 1) := by decide +kernel
theorem dX8_text_88 : decode cX8_text 88 = .ok (.getfield 101, 3) := by decide +kernel
theorem dX8_text_91 : decode cX8_text 91 = .ok (.if_icmp .lt 9, 3) := by decide +kernel
theorem dX8_text_94 : decode cX8_text 94 = .ok (.aload_n 0, 1) := by decide +kernel
theorem dX8_text_95 : decode cX8_text 95 = .ok (.bipush 6, 2) := by decide +kernel
theorem dX8_text_97 : decode cX8_text 97 = .ok (.invokevirtual 84, 3) := by decide +kernel
theorem dX8_text_100 : decode cX8_text 100 = .ok (.aload_n 0, 1) := by decide +kernel
theorem dX8_text_101 : decode cX8_text 101 = .ok (.iconst 0, 1) := by decide +kernel
theorem dX8_text_102 : decode cX8_text 102 = .ok (.putfield 50, 3) := by decide +kernel
theorem dX8_text_105 : decode cX8_text 105 = .ok (.aload_n 0, 1) := by decide +kernel
theorem dX8_text_106 : decode cX8_text 106 = .ok (.aload_n 0, 1) := by decide +kernel
theorem dX8_text_107 : decode cX8_text 107 = .ok (.getfield 54, 3) := by decide +kernel
theorem dX8_text_110 : decode cX8_text 110 = .ok (.putfield 122, 3) := by decide +kernel
theorem dX8_text_113 : decode cX8_text 113 = .ok (.aload_n 0, 1) := by decide +kernel
theorem dX8_text_114 : decode cX8_text 114 = .ok (.getfield 54, 3) := by decide +kernel
theorem dX8_text_117 : decode cX8_text 117 = .ok (.ifCond .le 11, 3) := by decide +kernel
theorem dX8_text_120 : decode cX8_text 120 = .ok (.bipush (-10), 2) := by decide +kernel
theorem dX8_text_122 : decode cX8_text 122 = .ok (.aload_n 0, 1) := by decide +kernel
theorem dX8_text_123 : decode cX8_text 123 = .ok (.getfield 60, 3) := by decide +kernel
theorem dX8_text_126 : decode cX8_text 126 = .ok (.isub, 1) := by decide +kernel
theorem dX8_text_127 : decode cX8_text 127 = .ok (.ireturn, 1) := by decide +kernel
theorem dX8_text_128 : decode cX8_text 128 = .ok (.iconst 0, 1) := by decide +kernel
theorem dX8_text_129 : decode cX8_text 129 = .ok (.istore_n 2, 1) := by decide +kernel
theorem dX8_text_130 : decode cX8_text 130 = .ok (.iload_n 2, 1) := by decide +kernel
theorem dX8_text_131 : decode cX8_text 131 = .ok (.bipush 37, 2) := by decide +kernel
theorem dX8_text_133 : decode cX8_text 133 = .ok (.if_icmp .ge 21, 3) := by decide +kernel
theorem dX8_text_136 : decode cX8_text 136 = .ok (.aload_n 0, 1) := by decide +kernel
theorem dX8_text_137 : decode cX8_text 137 = .ok (.getfield 7, 3) := by decide +kernel
theorem dX8_text_140 : decode cX8_text 140 = .ok (.iload_n 2, 1) := by decide +kernel
theorem dX8_text_141 : decode cX8_text 141 = .ok (.aload_n 0, 1) := by decide +kernel
theorem dX8_text_142 : decode cX8_text 142 = .ok (.getfield 13, 3) := by decide +kernel
theorem dX8_text_145 : decode cX8_text 145 = .ok (.iload_n 2, 1) := by decide +kernel
theorem dX8_text_146 : decode cX8_text 146 = .ok (.iaload, 1) := by decide +kernel
theorem dX8_text_147 : decode cX8_text 147 = .ok (.iastore, 1) := by decide +kernel
theorem dX8_text_148 : decode cX8_text 148 = .ok (.iinc 2 1, 3) := by decide +kernel
theorem dX8_text_151 : decode cX8_text 151 = .ok (.goto (-21), 3) := by decide +kernel
theorem dX8_text_154 : decode cX8_text 154 = .ok (.aload_n 0, 1) := by decide +kernel
theorem dX8_text_155 : decode cX8_text 155 = .ok (.aload_n 0, 1) := by decide +kernel
theorem dX8_text_156 : decode cX8_text 156 = .ok (.getfield 101, 3) := by decide +kernel
theorem dX8_text_159 : decode cX8_text 159 = .ok (.putfield 125, 3) := by decide +kernel
theorem dX8_text_162 : decode cX8_text 162 = .ok (.aload_n 0, 1) := by decide +kernel
theorem dX8_text_163 : decode cX8_text 163 = .ok (.aload_n 0, 1) := by decide +kernel
theorem dX8_text_164 : decode cX8_text 164 = .ok (.getfield 104, 3) := by decide +kernel
theorem dX8_text_167 : decode cX8_text 167 = .ok (.putfield 128, 3) := by decide +kernel
theorem dX8_text_170 : decode cX8_text 170 = .ok (.aload_n 0, 1) := by decide +kernel
theorem dX8_text_171 : decode cX8_text 171 = .ok (.iconst 0, 1) := by decide +kernel
theorem dX8_text_172 : decode cX8_text 172 = .ok (.putfield 131, 3) := by decide +kernel
theorem dX8_text_175 : decode cX8_text 175 = .ok (.aload_n 0, 1) := by decide +kernel
theorem dX8_text_176 : decode cX8_text 176 = .ok (.getfield 31, 3) := by decide +kernel
theorem dX8_text_179 : decode cX8_text 179 = .ok (.iconst 0, 1) := by decide +kernel
theorem dX8_text_180 : decode cX8_text 180 = .ok (.iconst 0, 1) := by decide +kernel
theorem dX8_text_181 : decode cX8_text 181 = .ok (.bastore, 1) := by decide +kernel
theorem dX8_text_182 : decode cX8_text 182 = .ok (.aload_n 0, 1) := by decide +kernel
theorem dX8_text_183 : decode cX8_text 183 = .ok (.getfield 31, 3) := by decide +kernel
theorem dX8_text_186 : decode cX8_text 186 = .ok (.iconst 1, 1) := by decide +kernel
theorem dX8_text_187 : decode cX8_text 187 = .ok (.iconst 0, 1) := by decide +kernel
theorem dX8_text_188 : decode cX8_text 188 = .ok (.bastore, 1) := by decide +kernel
theorem dX8_text_189 : decode cX8_text 189 = .ok (.iload_n 1, 1) := by decide +kernel
theorem dX8_text_190 : decode cX8_text 190 = .ok (.ireturn, 1) := by decide +kernel
theorem dX8_fault_0 : decode cX8_fault 0 = .ok (.aload_n 0, 1) := by decide +kernel
theorem dX8_fault_1 : decode cX8_fault 1 = .ok (.getfield 122, 3) := by decide +kernel
theorem dX8_fault_4 : decode cX8_fault 4 = .ok (.ireturn, 1) := by decide +kernel
theorem dX8_isThing_0 : decode cX8_isThing 0 = .ok (.iload_n 1, 1) := by decide +kernel
theorem dX8_isThing_1 : decode cX8_isThing 1 = .ok (.i2l, 1) := by decide +kernel
theorem dX8_isThing_2 : decode cX8_isThing 2 = .ok (.lconst 0, 1) := by decide +kernel
theorem dX8_isThing_3 : decode cX8_isThing 3 = .ok (.aload_n 0, 1) := by decide +kernel
theorem dX8_isThing_4 : decode cX8_isThing 4 = .ok (.getfield 125, 3) := by decide +kernel
theorem dX8_isThing_7 : decode cX8_isThing 7 = .ok (.iconst 1, 1) := by decide +kernel
theorem dX8_isThing_8 : decode cX8_isThing 8 = .ok (.isub, 1) := by decide +kernel
theorem dX8_isThing_9 : decode cX8_isThing 9 = .ok (.i2l, 1) := by decide +kernel
theorem dX8_isThing_10 : decode cX8_isThing 10 = .ok (.invokestatic 46, 3) := by decide +kernel
theorem dX8_isThing_13 : decode cX8_isThing 13 = .ok (.ireturn, 1) := by decide +kernel
theorem dX8_isGuest_0 : decode cX8_isGuest 0 = .ok (.iload_n 1, 1) := by decide +kernel
theorem dX8_isGuest_1 : decode cX8_isGuest 1 = .ok (.i2l, 1) := by decide +kernel
theorem dX8_isGuest_2 : decode cX8_isGuest 2 = .ok (.lconst 0, 1) := by decide +kernel
theorem dX8_isGuest_3 : decode cX8_isGuest 3 = .ok (.aload_n 0, 1) := by decide +kernel
theorem dX8_isGuest_4 : decode cX8_isGuest 4 = .ok (.getfield 128, 3) := by decide +kernel
theorem dX8_isGuest_7 : decode cX8_isGuest 7 = .ok (.iconst 1, 1) := by decide +kernel
theorem dX8_isGuest_8 : decode cX8_isGuest 8 = .ok (.isub, 1) := by decide +kernel
theorem dX8_isGuest_9 : decode cX8_isGuest 9 = .ok (.i2l, 1) := by decide +kernel
theorem dX8_isGuest_10 : decode cX8_isGuest 10 = .ok (.invokestatic 46, 3) := by decide +kernel
theorem dX8_isGuest_13 : decode cX8_isGuest 13 = .ok (.ireturn, 1) := by decide +kernel
theorem dX8_isBan_0 : decode cX8_isBan 0 = .ok (.iload_n 1, 1) := by decide +kernel
theorem dX8_isBan_1 : decode cX8_isBan 1 = .ok (.i2l, 1) := by decide +kernel
theorem dX8_isBan_2 : decode cX8_isBan 2 = .ok (.lconst 0, 1) := by decide +kernel
theorem dX8_isBan_3 : decode cX8_isBan 3 = .ok (.aload_n 0, 1) := by decide +kernel
theorem dX8_isBan_4 : decode cX8_isBan 4 = .ok (.getfield 7, 3) := by decide +kernel
theorem dX8_isBan_7 : decode cX8_isBan 7 = .ok (.bipush 35, 2) := by decide +kernel
theorem dX8_isBan_9 : decode cX8_isBan 9 = .ok (.iaload, 1) := by decide +kernel
theorem dX8_isBan_10 : decode cX8_isBan 10 = .ok (.iconst 1, 1) := by decide +kernel
theorem dX8_isBan_11 : decode cX8_isBan 11 = .ok (.isub, 1) := by decide +kernel
theorem dX8_isBan_12 : decode cX8_isBan 12 = .ok (.i2l, 1) := by decide +kernel
theorem dX8_isBan_13 : decode cX8_isBan 13 = .ok (.invokestatic 46, 3) := by decide +kernel
theorem dX8_isBan_16 : decode cX8_isBan 16 = .ok (.ireturn, 1) := by decide +kernel
theorem dX8_states_0 : decode cX8_states 0 = .ok (.iconst 1, 1) := by decide +kernel
theorem dX8_states_1 : decode cX8_states 1 = .ok (.aload_n 0, 1) := by decide +kernel
theorem dX8_states_2 : decode cX8_states 2 = .ok (.getfield 125, 3) := by decide +kernel
theorem dX8_states_5 : decode cX8_states 5 = .ok (.ishl, 1) := by decide +kernel
theorem dX8_states_6 : decode cX8_states 6 = .ok (.ireturn, 1) := by decide +kernel
theorem dX8_isState_0 : decode cX8_isState 0 = .ok (.iload_n 1, 1) := by decide +kernel
theorem dX8_isState_1 : decode cX8_isState 1 = .ok (.i2l, 1) := by decide +kernel
theorem dX8_isState_2 : decode cX8_isState 2 = .ok (.lconst 0, 1) := by decide +kernel
theorem dX8_isState_3 : decode cX8_isState 3 = .ok (.aload_n 0, 1) := by decide +kernel
theorem dX8_isState_4 : decode cX8_isState 4 = .ok (.invokevirtual 134, 3) := by decide +kernel
theorem dX8_isState_7 : decode cX8_isState 7 = .ok (.iconst 1, 1) := by decide +kernel
theorem dX8_isState_8 : decode cX8_isState 8 = .ok (.isub, 1) := by decide +kernel
theorem dX8_isState_9 : decode cX8_isState 9 = .ok (.i2l, 1) := by decide +kernel
theorem dX8_isState_10 : decode cX8_isState 10 = .ok (.invokestatic 46, 3) := by decide +kernel
theorem dX8_isState_13 : decode cX8_isState 13 = .ok (.ireturn, 1) := by decide +kernel
theorem dX8_firstOf_0 : decode cX8_firstOf 0 = .ok (.aload_n 0, 1) := by decide +kernel
theorem dX8_firstOf_1 : decode cX8_firstOf 1 = .ok (.getfield 7, 3) := by decide +kernel
theorem dX8_firstOf_4 : decode cX8_firstOf 4 = .ok (.bipush 6, 2) := by decide +kernel
theorem dX8_firstOf_6 : decode cX8_firstOf 6 = .ok (.iload_n 1, 1) := by decide +kernel
theorem dX8_firstOf_7 : decode cX8_firstOf 7 = .ok (.iadd, 1) := by decide +kernel
theorem dX8_firstOf_8 : decode cX8_firstOf 8 = .ok (.iaload, 1) := by decide +kernel
theorem dX8_firstOf_9 : decode cX8_firstOf 9 = .ok (.iload_n 1, 1) := by decide +kernel
theorem dX8_firstOf_10 : decode cX8_firstOf 10 = .ok (.iadd, 1) := by decide +kernel
theorem dX8_firstOf_11 : decode cX8_firstOf 11 = .ok (.ireturn, 1) := by decide +kernel
theorem dX8_secondOf_0 : decode cX8_secondOf 0 = .ok (.aload_n 0, 1) := by decide +kernel
theorem dX8_secondOf_1 : decode cX8_secondOf 1 = .ok (.getfield 7, 3) := by decide +kernel
theorem dX8_secondOf_4 : decode cX8_secondOf 4 = .ok (.bipush 12, 2) := by decide +kernel
theorem dX8_secondOf_6 : decode cX8_secondOf 6 = .ok (.iload_n 1, 1) := by decide +kernel
theorem dX8_secondOf_7 : decode cX8_secondOf 7 = .ok (.iadd, 1) := by decide +kernel
theorem dX8_secondOf_8 : decode cX8_secondOf 8 = .ok (.iaload, 1) := by decide +kernel
theorem dX8_secondOf_9 : decode cX8_secondOf 9 = .ok (.iload_n 1, 1) := by decide +kernel
theorem dX8_secondOf_10 : decode cX8_secondOf 10 = .ok (.iadd, 1) := by decide +kernel
theorem dX8_secondOf_11 : decode cX8_secondOf 11 = .ok (.ireturn, 1) := by decide +kernel
theorem dX8_willBe_0 : decode cX8_willBe 0 = .ok (.iload_n 1, 1) := by decide +kernel
theorem dX8_willBe_1 : decode cX8_willBe 1 = .ok (.aload_n 0, 1) := by decide +kernel
theorem dX8_willBe_2 : decode cX8_willBe 2 = .ok (.iload_n 2, 1) := by decide +kernel
theorem dX8_willBe_3 : decode cX8_willBe 3 = .ok (.invokevirtual 137, 3) := by decide +kernel
theorem dX8_willBe_6 : decode cX8_willBe 6 = .ok (.ishr, 1) := by decide +kernel
theorem dX8_willBe_7 : decode cX8_willBe 7 = .ok (.iconst 1, 1) := by decide +kernel
theorem dX8_willBe_8 : decode cX8_willBe 8 = .ok (.iand, 1) := by decide +kernel
theorem dX8_willBe_9 : decode cX8_willBe 9 = .ok (.iconst 1, 1) := by decide +kernel
theorem dX8_willBe_10 : decode cX8_willBe 10 = .ok (.if_icmp .ne 7, 3) := by decide +kernel
theorem dX8_willBe_13 : decode cX8_willBe 13 = .ok (.iconst 1, 1) := by decide +kernel
theorem dX8_willBe_14 : decode cX8_willBe 14 = .ok (.goto 4, 3) := by decide +kernel
theorem dX8_willBe_17 : decode cX8_willBe 17 = .ok (.iconst 0, 1) := by decide +kernel
theorem dX8_willBe_18 : decode cX8_willBe 18 = .ok (.istore_n 3, 1) := by decide +kernel
theorem dX8_willBe_19 : decode cX8_willBe 19 = .ok (.iload_n 1, 1) := by decide +kernel
theorem dX8_willBe_20 : decode cX8_willBe 20 = .ok (.aload_n 0, 1) := by decide +kernel
theorem dX8_willBe_21 : decode cX8_willBe 21 = .ok (.iload_n 2, 1) := by decide +kernel
theorem dX8_willBe_22 : decode cX8_willBe 22 = .ok (.invokevirtual 140, 3) := by decide +kernel
theorem dX8_willBe_25 : decode cX8_willBe 25 = .ok (.ishr, 1) := by decide +kernel
theorem dX8_willBe_26 : decode cX8_willBe 26 = .ok (.iconst 1, 1) := by decide +kernel
theorem dX8_willBe_27 : decode cX8_willBe 27 = .ok (.iand, 1) := by decide +kernel
theorem dX8_willBe_28 : decode cX8_willBe 28 = .ok (.iconst 1, 1) := by decide +kernel
theorem dX8_willBe_29 : decode cX8_willBe 29 = .ok (.if_icmp .ne 7, 3) := by decide +kernel
theorem dX8_willBe_32 : decode cX8_willBe 32 = .ok (.iconst 1, 1) := by decide +kernel
theorem dX8_willBe_33 : decode cX8_willBe 33 = .ok (.goto 4, 3) := by decide +kernel
theorem dX8_willBe_36 : decode cX8_willBe 36 = .ok (.iconst 0, 1) := by decide +kernel
theorem dX8_willBe_37 : decode cX8_willBe 37 = .ok (.istore 4, 2) := by decide +kernel
theorem dX8_willBe_39 : decode cX8_willBe 39 = .ok (.aload_n 0, 1) := by decide +kernel
theorem dX8_willBe_40 : decode cX8_willBe 40 = .ok (.getfield 7, 3) := by decide +kernel
theorem dX8_willBe_43 : decode cX8_willBe 43 = .ok (.iload_n 2, 1) := by decide +kernel
theorem dX8_willBe_44 : decode cX8_willBe 44 = .ok (.iaload, 1) := by decide +kernel
theorem dX8_willBe_45 : decode cX8_willBe 45 = .ok (.tableswitch 73 0 3 #[31, 46, 48, 58], 31) := by decide +kernel
theorem dX8_willBe_76 : decode cX8_willBe 76 = .ok (.iload_n 1, 1) := by decide +kernel
theorem dX8_willBe_77 : decode cX8_willBe 77 = .ok (.iload_n 2, 1) := by decide +kernel
theorem dX8_willBe_78 : decode cX8_willBe 78 = .ok (.ishr, 1) := by decide +kernel
theorem dX8_willBe_79 : decode cX8_willBe 79 = .ok (.iconst 1, 1) := by decide +kernel
theorem dX8_willBe_80 : decode cX8_willBe 80 = .ok (.iand, 1) := by decide +kernel
theorem dX8_willBe_81 : decode cX8_willBe 81 = .ok (.iconst 1, 1) := by decide +kernel
theorem dX8_willBe_82 : decode cX8_willBe 82 = .ok (.if_icmp .ne 7, 3) := by decide +kernel
theorem dX8_willBe_85 : decode cX8_willBe 85 = .ok (.iconst 1, 1) := by decide +kernel
theorem dX8_willBe_86 : decode cX8_willBe 86 = .ok (.goto 4, 3) := by decide +kernel
theorem dX8_willBe_89 : decode cX8_willBe 89 = .ok (.iconst 0, 1) := by decide +kernel
theorem dX8_willBe_90 : decode cX8_willBe 90 = .ok (.ireturn, 1) := by decide +kernel
theorem dX8_willBe_91 : decode cX8_willBe 91 = .ok (.iload_n 3, 1) := by decide +kernel
theorem dX8_willBe_92 : decode cX8_willBe 92 = .ok (.ireturn, 1) := by decide +kernel
theorem dX8_willBe_93 : decode cX8_willBe 93 = .ok (.iload_n 3, 1) := by decide +kernel
theorem dX8_willBe_94 : decode cX8_willBe 94 = .ok (.ifCond .ne 7, 3) := by decide +kernel
theorem dX8_willBe_97 : decode cX8_willBe 97 = .ok (.iconst 1, 1) := by decide +kernel
theorem dX8_willBe_98 : decode cX8_willBe 98 = .ok (.goto 4, 3) := by decide +kernel
theorem dX8_willBe_101 : decode cX8_willBe 101 = .ok (.iconst 0, 1) := by decide +kernel
theorem dX8_willBe_102 : decode cX8_willBe 102 = .ok (.ireturn, 1) := by decide +kernel
theorem dX8_willBe_103 : decode cX8_willBe 103 = .ok (.iload_n 3, 1) := by decide +kernel
theorem dX8_willBe_104 : decode cX8_willBe 104 = .ok (.ifCond .eq 12, 3) := by decide +kernel
theorem dX8_willBe_107 : decode cX8_willBe 107 = .ok (.iload 4, 2) := by decide +kernel
theorem dX8_willBe_109 : decode cX8_willBe 109 = .ok (.ifCond .ne 7, 3) := by decide +kernel
theorem dX8_willBe_112 : decode cX8_willBe 112 = .ok (.iconst 1, 1) := by decide +kernel
theorem dX8_willBe_113 : decode cX8_willBe 113 = .ok (.goto 4, 3) := by decide +kernel
theorem dX8_willBe_116 : decode cX8_willBe 116 = .ok (.iconst 0, 1) := by decide +kernel
theorem dX8_willBe_117 : decode cX8_willBe 117 = .ok (.ireturn, 1) := by decide +kernel
theorem dX8_willBe_118 : decode cX8_willBe 118 = .ok (.iload_n 3, 1) := by decide +kernel
theorem dX8_willBe_119 : decode cX8_willBe 119 = .ok (.ifCond .ne 8, 3) := by decide +kernel
theorem dX8_willBe_122 : decode cX8_willBe 122 = .ok (.iload 4, 2) := by decide +kernel
theorem dX8_willBe_124 : decode cX8_willBe 124 = .ok (.ifCond .eq 7, 3) := by decide +kernel
theorem dX8_willBe_127 : decode cX8_willBe 127 = .ok (.iconst 1, 1) := by decide +kernel
theorem dX8_willBe_128 : decode cX8_willBe 128 = .ok (.goto 4, 3) := by decide +kernel
theorem dX8_willBe_131 : decode cX8_willBe 131 = .ok (.iconst 0, 1) := by decide +kernel
theorem dX8_willBe_132 : decode cX8_willBe 132 = .ok (.ireturn, 1) := by decide +kernel
theorem dX8_nextOf_0 : decode cX8_nextOf 0 = .ok (.iconst 0, 1) := by decide +kernel
theorem dX8_nextOf_1 : decode cX8_nextOf 1 = .ok (.istore_n 2, 1) := by decide +kernel
theorem dX8_nextOf_2 : decode cX8_nextOf 2 = .ok (.iconst 0, 1) := by decide +kernel
theorem dX8_nextOf_3 : decode cX8_nextOf 3 = .ok (.istore_n 3, 1) := by decide +kernel
theorem dX8_nextOf_4 : decode cX8_nextOf 4 = .ok (.iload_n 3, 1) := by decide +kernel
theorem dX8_nextOf_5 : decode cX8_nextOf 5 = .ok (.aload_n 0, 1) := by decide +kernel
theorem dX8_nextOf_6 : decode cX8_nextOf 6 = .ok (.getfield 125, 3) := by decide +kernel
theorem dX8_nextOf_9 : decode cX8_nextOf 9 = .ok (.if_icmp .ge 28, 3) := by decide +kernel
theorem dX8_nextOf_12 : decode cX8_nextOf 12 = .ok (.iload_n 2, 1) := by decide +kernel
theorem dX8_nextOf_13 : decode cX8_nextOf 13 = .ok (.aload_n 0, 1) := by decide +kernel
theorem dX8_nextOf_14 : decode cX8_nextOf 14 = .ok (.iload_n 1, 1) := by decide +kernel
theorem dX8_nextOf_15 : decode cX8_nextOf 15 = .ok (.iload_n 3, 1) := by decide +kernel
theorem dX8_nextOf_16 : decode cX8_nextOf 16 = .ok (.invokevirtual 143, 3) := by decide +kernel
theorem dX8_nextOf_19 : decode cX8_nextOf 19 = .ok (.ifCond .eq 9, 3) := by decide +kernel
theorem dX8_nextOf_22 : decode cX8_nextOf 22 = .ok (.iconst 1, 1) := by decide +kernel
theorem dX8_nextOf_23 : decode cX8_nextOf 23 = .ok (.iload_n 3, 1) := by decide +kernel
theorem dX8_nextOf_24 : decode cX8_nextOf 24 = .ok (.ishl, 1) := by decide +kernel
theorem dX8_nextOf_25 : decode cX8_nextOf 25 = .ok (.goto 4, 3) := by decide +kernel
theorem dX8_nextOf_28 : decode cX8_nextOf 28 = .ok (.iconst 0, 1) := by decide +kernel
theorem dX8_nextOf_29 : decode cX8_nextOf 29 = .ok (.ior, 1) := by decide +kernel
theorem dX8_nextOf_30 : decode cX8_nextOf 30 = .ok (.istore_n 2, 1) := by decide +kernel
theorem dX8_nextOf_31 : decode cX8_nextOf 31 = .ok (.iinc 3 1, 3) := by decide +kernel
theorem dX8_nextOf_34 : decode cX8_nextOf 34 = .ok (.goto (-30), 3) := by decide +kernel
theorem dX8_nextOf_37 : decode cX8_nextOf 37 = .ok (.iload_n 2, 1) := by decide +kernel
theorem dX8_nextOf_38 : decode cX8_nextOf 38 = .ok (.ireturn, 1) := by decide +kernel
theorem dX8_afterYears_0 : decode cX8_afterYears 0 = .ok (.iload_n 1, 1) := by decide +kernel
theorem dX8_afterYears_1 : decode cX8_afterYears 1 = .ok (.istore_n 3, 1) := by decide +kernel
theorem dX8_afterYears_2 : decode cX8_afterYears 2 = .ok (.iconst 0, 1) := by decide +kernel
theorem dX8_afterYears_3 : decode cX8_afterYears 3 = .ok (.istore 4, 2) := by decide +kernel
theorem dX8_afterYears_5 : decode cX8_afterYears 5 = .ok (.iload 4, 2) := by decide +kernel
theorem dX8_afterYears_7 : decode cX8_afterYears 7 = .ok (.iload_n 2, 1) := by decide +kernel
theorem dX8_afterYears_8 : decode cX8_afterYears 8 = .ok (.if_icmp .ge 15, 3) := by decide +kernel
theorem dX8_afterYears_11 : decode cX8_afterYears 11 = .ok (.aload_n 0, 1) := by decide +kernel
theorem dX8_afterYears_12 : decode cX8_afterYears 12 = .ok (.iload_n 3, 1) := by decide +kernel
theorem dX8_afterYears_13 : decode cX8_afterYears 13 = .ok (.invokevirtual 147, 3) := by decide +kernel
theorem dX8_afterYears_16 : decode cX8_afterYears 16 = .ok (.istore_n 3, 1) := by decide +kernel
theorem dX8_afterYears_17 : decode cX8_afterYears 17 = .ok (.iinc 4 1, 3) := by decide +kernel
theorem dX8_afterYears_20 : decode cX8_afterYears 20 = .ok (.goto (-15), 3) := by decide +kernel
theorem dX8_afterYears_23 : decode cX8_afterYears 23 = .ok (.iload_n 3, 1) := by decide +kernel
theorem dX8_afterYears_24 : decode cX8_afterYears 24 = .ok (.ireturn, 1) := by decide +kernel
theorem dX8_isBroken_0 : decode cX8_isBroken 0 = .ok (.iload_n 1, 1) := by decide +kernel
theorem dX8_isBroken_1 : decode cX8_isBroken 1 = .ok (.aload_n 0, 1) := by decide +kernel
theorem dX8_isBroken_2 : decode cX8_isBroken 2 = .ok (.getfield 7, 3) := by decide +kernel
theorem dX8_isBroken_5 : decode cX8_isBroken 5 = .ok (.bipush 27, 2) := by decide +kernel
theorem dX8_isBroken_7 : decode cX8_isBroken 7 = .ok (.iconst 2, 1) := by decide +kernel
theorem dX8_isBroken_8 : decode cX8_isBroken 8 = .ok (.iload_n 2, 1) := by decide +kernel
theorem dX8_isBroken_9 : decode cX8_isBroken 9 = .ok (.imul, 1) := by decide +kernel
theorem dX8_isBroken_10 : decode cX8_isBroken 10 = .ok (.iadd, 1) := by decide +kernel
theorem dX8_isBroken_11 : decode cX8_isBroken 11 = .ok (.iaload, 1) := by decide +kernel
theorem dX8_isBroken_12 : decode cX8_isBroken 12 = .ok (.ishr, 1) := by decide +kernel
theorem dX8_isBroken_13 : decode cX8_isBroken 13 = .ok (.iconst 1, 1) := by decide +kernel
theorem dX8_isBroken_14 : decode cX8_isBroken 14 = .ok (.iand, 1) := by decide +kernel
theorem dX8_isBroken_15 : decode cX8_isBroken 15 = .ok (.iconst 1, 1) := by decide +kernel
theorem dX8_isBroken_16 : decode cX8_isBroken 16 = .ok (.if_icmp .ne 28, 3) := by decide +kernel
theorem dX8_isBroken_19 : decode cX8_isBroken 19 = .ok (.iload_n 1, 1) := by decide +kernel
theorem dX8_isBroken_20 : decode cX8_isBroken 20 = .ok (.aload_n 0, 1) := by decide +kernel
theorem dX8_isBroken_21 : decode cX8_isBroken 21 = .ok (.getfield 7, 3) := by decide +kernel
theorem dX8_isBroken_24 : decode cX8_isBroken 24 = .ok (.bipush 27, 2) := by decide +kernel
theorem dX8_isBroken_26 : decode cX8_isBroken 26 = .ok (.iconst 2, 1) := by decide +kernel
theorem dX8_isBroken_27 : decode cX8_isBroken 27 = .ok (.iload_n 2, 1) := by decide +kernel
theorem dX8_isBroken_28 : decode cX8_isBroken 28 = .ok (.imul, 1) := by decide +kernel
theorem dX8_isBroken_29 : decode cX8_isBroken 29 = .ok (.iadd, 1) := by decide +kernel
theorem dX8_isBroken_30 : decode cX8_isBroken 30 = .ok (.iconst 1, 1) := by decide +kernel
theorem dX8_isBroken_31 : decode cX8_isBroken 31 = .ok (.iadd, 1) := by decide +kernel
theorem dX8_isBroken_32 : decode cX8_isBroken 32 = .ok (.iaload, 1) := by decide +kernel
theorem dX8_isBroken_33 : decode cX8_isBroken 33 = .ok (.ishr, 1) := by decide +kernel
theorem dX8_isBroken_34 : decode cX8_isBroken 34 = .ok (.iconst 1, 1) := by decide +kernel
theorem dX8_isBroken_35 : decode cX8_isBroken 35 = .ok (.iand, 1) := by decide +kernel
theorem dX8_isBroken_36 : decode cX8_isBroken 36 = .ok (.iconst 1, 1) := by decide +kernel
theorem dX8_isBroken_37 : decode cX8_isBroken 37 = .ok (.if_icmp .ne 7, 3) := by decide +kernel
theorem dX8_isBroken_40 : decode cX8_isBroken 40 = .ok (.iconst 1, 1) := by decide +kernel
theorem dX8_isBroken_41 : decode cX8_isBroken 41 = .ok (.goto 4, 3) := by decide +kernel
theorem dX8_isBroken_44 : decode cX8_isBroken 44 = .ok (.iconst 0, 1) := by decide +kernel
theorem dX8_isBroken_45 : decode cX8_isBroken 45 = .ok (.ireturn, 1) := by decide +kernel
theorem dX8_isAllowed_0 : decode cX8_isAllowed 0 = .ok (.iconst 1, 1) := by decide +kernel
theorem dX8_isAllowed_1 : decode cX8_isAllowed 1 = .ok (.istore_n 2, 1) := by decide +kernel
theorem dX8_isAllowed_2 : decode cX8_isAllowed 2 = .ok (.iconst 0, 1) := by decide +kernel
theorem dX8_isAllowed_3 : decode cX8_isAllowed 3 = .ok (.istore_n 3, 1) := by decide +kernel
theorem dX8_isAllowed_4 : decode cX8_isAllowed 4 = .ok (.iload_n 3, 1) := by decide +kernel
theorem dX8_isAllowed_5 : decode cX8_isAllowed 5 = .ok (.aload_n 0, 1) := by decide +kernel
theorem dX8_isAllowed_6 : decode cX8_isAllowed 6 = .ok (.getfield 7, 3) := by decide +kernel
theorem dX8_isAllowed_9 : decode cX8_isAllowed 9 = .ok (.bipush 35, 2) := by decide +kernel
theorem dX8_isAllowed_11 : decode cX8_isAllowed 11 = .ok (.iaload, 1) := by decide +kernel
theorem dX8_isAllowed_12 : decode cX8_isAllowed 12 = .ok (.if_icmp .ge 28, 3) := by decide +kernel
theorem dX8_isAllowed_15 : decode cX8_isAllowed 15 = .ok (.iload_n 2, 1) := by decide +kernel
theorem dX8_isAllowed_16 : decode cX8_isAllowed 16 = .ok (.ifCond .eq 16, 3) := by decide +kernel
theorem dX8_isAllowed_19 : decode cX8_isAllowed 19 = .ok (.aload_n 0, 1) := by decide +kernel
theorem dX8_isAllowed_20 : decode cX8_isAllowed 20 = .ok (.iload_n 1, 1) := by decide +kernel
theorem dX8_isAllowed_21 : decode cX8_isAllowed 21 = .ok (.iload_n 3, 1) := by decide +kernel
theorem dX8_isAllowed_22 : decode cX8_isAllowed 22 = .ok (.invokevirtual 150, 3) := by decide +kernel
theorem dX8_isAllowed_25 : decode cX8_isAllowed 25 = .ok (.ifCond .ne 7, 3) := by decide +kernel
theorem dX8_isAllowed_28 : decode cX8_isAllowed 28 = .ok (.iconst 1, 1) := by decide +kernel
theorem dX8_isAllowed_29 : decode cX8_isAllowed 29 = .ok (.goto 4, 3) := by decide +kernel
theorem dX8_isAllowed_32 : decode cX8_isAllowed 32 = .ok (.iconst 0, 1) := by decide +kernel
theorem dX8_isAllowed_33 : decode cX8_isAllowed 33 = .ok (.istore_n 2, 1) := by decide +kernel
theorem dX8_isAllowed_34 : decode cX8_isAllowed 34 = .ok (.iinc 3 1, 3) := by decide +kernel
theorem dX8_isAllowed_37 : decode cX8_isAllowed 37 = .ok (.goto (-33), 3) := by decide +kernel
theorem dX8_isAllowed_40 : decode cX8_isAllowed 40 = .ok (.iload_n 2, 1) := by decide +kernel
theorem dX8_isAllowed_41 : decode cX8_isAllowed 41 = .ok (.ireturn, 1) := by decide +kernel
theorem dX8_agrees_0 : decode cX8_agrees 0 = .ok (.aload_n 0, 1) := by decide +kernel
theorem dX8_agrees_1 : decode cX8_agrees 1 = .ok (.iload_n 1, 1) := by decide +kernel
theorem dX8_agrees_2 : decode cX8_agrees 2 = .ok (.invokevirtual 147, 3) := by decide +kernel
theorem dX8_agrees_5 : decode cX8_agrees 5 = .ok (.iload_n 1, 1) := by decide +kernel
theorem dX8_agrees_6 : decode cX8_agrees 6 = .ok (.if_icmp .ne 7, 3) := by decide +kernel
theorem dX8_agrees_9 : decode cX8_agrees 9 = .ok (.iconst 1, 1) := by decide +kernel
theorem dX8_agrees_10 : decode cX8_agrees 10 = .ok (.goto 4, 3) := by decide +kernel
theorem dX8_agrees_13 : decode cX8_agrees 13 = .ok (.iconst 0, 1) := by decide +kernel
theorem dX8_agrees_14 : decode cX8_agrees 14 = .ok (.ireturn, 1) := by decide +kernel
theorem dX8_rule_0 : decode cX8_rule 0 = .ok (.aload_n 0, 1) := by decide +kernel
theorem dX8_rule_1 : decode cX8_rule 1 = .ok (.getfield 7, 3) := by decide +kernel
theorem dX8_rule_4 : decode cX8_rule 4 = .ok (.bipush 18, 2) := by decide +kernel
theorem dX8_rule_6 : decode cX8_rule 6 = .ok (.iaload, 1) := by decide +kernel
theorem dX8_rule_7 : decode cX8_rule 7 = .ok (.istore_n 2, 1) := by decide +kernel
theorem dX8_rule_8 : decode cX8_rule 8 = .ok (.iload_n 1, 1) := by decide +kernel
theorem dX8_rule_9 : decode cX8_rule 9 = .ok (.tableswitch 99 0 6 #[43, 48, 53, 61, 69, 71, 85], 43) := by decide +kernel
theorem dX8_rule_52 : decode cX8_rule 52 = .ok (.aload_n 0, 1) := by decide +kernel
theorem dX8_rule_53 : decode cX8_rule 53 = .ok (.getfield 125, 3) := by decide +kernel
theorem dX8_rule_56 : decode cX8_rule 56 = .ok (.ireturn, 1) := by decide +kernel
theorem dX8_rule_57 : decode cX8_rule 57 = .ok (.aload_n 0, 1) := by decide +kernel
theorem dX8_rule_58 : decode cX8_rule 58 = .ok (.getfield 128, 3) := by decide +kernel
theorem dX8_rule_61 : decode cX8_rule 61 = .ok (.ireturn, 1) := by decide +kernel
theorem dX8_rule_62 : decode cX8_rule 62 = .ok (.aload_n 0, 1) := by decide +kernel
theorem dX8_rule_63 : decode cX8_rule 63 = .ok (.getfield 7, 3) := by decide +kernel
theorem dX8_rule_66 : decode cX8_rule 66 = .ok (.bipush 35, 2) := by decide +kernel
theorem dX8_rule_68 : decode cX8_rule 68 = .ok (.iaload, 1) := by decide +kernel
theorem dX8_rule_69 : decode cX8_rule 69 = .ok (.ireturn, 1) := by decide +kernel
theorem dX8_rule_70 : decode cX8_rule 70 = .ok (.aload_n 0, 1) := by decide +kernel
theorem dX8_rule_71 : decode cX8_rule 71 = .ok (.getfield 7, 3) := by decide +kernel
theorem dX8_rule_74 : decode cX8_rule 74 = .ok (.bipush 36, 2) := by decide +kernel
theorem dX8_rule_76 : decode cX8_rule 76 = .ok (.iaload, 1) := by decide +kernel
theorem dX8_rule_77 : decode cX8_rule 77 = .ok (.ireturn, 1) := by decide +kernel
theorem dX8_rule_78 : decode cX8_rule 78 = .ok (.iload_n 2, 1) := by decide +kernel
theorem dX8_rule_79 : decode cX8_rule 79 = .ok (.ireturn, 1) := by decide +kernel
theorem dX8_rule_80 : decode cX8_rule 80 = .ok (.aload_n 0, 1) := by decide +kernel
theorem dX8_rule_81 : decode cX8_rule 81 = .ok (.iload_n 2, 1) := by decide +kernel
theorem dX8_rule_82 : decode cX8_rule 82 = .ok (.invokevirtual 153, 3) := by decide +kernel
theorem dX8_rule_85 : decode cX8_rule 85 = .ok (.ifCond .eq 7, 3) := by decide +kernel
theorem dX8_rule_88 : decode cX8_rule 88 = .ok (.iconst 1, 1) := by decide +kernel
theorem dX8_rule_89 : decode cX8_rule 89 = .ok (.goto 4, 3) := by decide +kernel
theorem dX8_rule_92 : decode cX8_rule 92 = .ok (.iconst 0, 1) := by decide +kernel
theorem dX8_rule_93 : decode cX8_rule 93 = .ok (.ireturn, 1) := by decide +kernel
theorem dX8_rule_94 : decode cX8_rule 94 = .ok (.aload_n 0, 1) := by decide +kernel
theorem dX8_rule_95 : decode cX8_rule 95 = .ok (.iload_n 2, 1) := by decide +kernel
theorem dX8_rule_96 : decode cX8_rule 96 = .ok (.invokevirtual 157, 3) := by decide +kernel
theorem dX8_rule_99 : decode cX8_rule 99 = .ok (.ifCond .eq 7, 3) := by decide +kernel
theorem dX8_rule_102 : decode cX8_rule 102 = .ok (.iconst 1, 1) := by decide +kernel
theorem dX8_rule_103 : decode cX8_rule 103 = .ok (.goto 4, 3) := by decide +kernel
theorem dX8_rule_106 : decode cX8_rule 106 = .ok (.iconst 0, 1) := by decide +kernel
theorem dX8_rule_107 : decode cX8_rule 107 = .ok (.ireturn, 1) := by decide +kernel
theorem dX8_rule_108 : decode cX8_rule 108 = .ok (.iconst (-1), 1) := by decide +kernel
theorem dX8_rule_109 : decode cX8_rule 109 = .ok (.ireturn, 1) := by decide +kernel
theorem dX8_thing_0 : decode cX8_thing 0 = .ok (.aload_n 0, 1) := by decide +kernel
theorem dX8_thing_1 : decode cX8_thing 1 = .ok (.iload_n 1, 1) := by decide +kernel
theorem dX8_thing_2 : decode cX8_thing 2 = .ok (.invokevirtual 160, 3) := by decide +kernel
theorem dX8_thing_5 : decode cX8_thing 5 = .ok (.ifCond .ne 5, 3) := by decide +kernel
theorem dX8_thing_8 : decode cX8_thing 8 = .ok (.iconst (-1), 1) := by decide +kernel
theorem dX8_thing_9 : decode cX8_thing 9 = .ok (.ireturn, 1) := by decide +kernel
theorem dX8_thing_10 : decode cX8_thing 10 = .ok (.iload_n 2, 1) := by decide +kernel
theorem dX8_thing_11 : decode cX8_thing 11 = .ok (.tableswitch 85 0 4 #[33, 40, 46, 52, 64], 33) := by decide +kernel
theorem dX8_thing_44 : decode cX8_thing 44 = .ok (.aload_n 0, 1) := by decide +kernel
theorem dX8_thing_45 : decode cX8_thing 45 = .ok (.getfield 7, 3) := by decide +kernel
theorem dX8_thing_48 : decode cX8_thing 48 = .ok (.iload_n 1, 1) := by decide +kernel
theorem dX8_thing_49 : decode cX8_thing 49 = .ok (.iaload, 1) := by decide +kernel
theorem dX8_thing_50 : decode cX8_thing 50 = .ok (.ireturn, 1) := by decide +kernel
theorem dX8_thing_51 : decode cX8_thing 51 = .ok (.aload_n 0, 1) := by decide +kernel
theorem dX8_thing_52 : decode cX8_thing 52 = .ok (.iload_n 1, 1) := by decide +kernel
theorem dX8_thing_53 : decode cX8_thing 53 = .ok (.invokevirtual 137, 3) := by decide +kernel
theorem dX8_thing_56 : decode cX8_thing 56 = .ok (.ireturn, 1) := by decide +kernel
theorem dX8_thing_57 : decode cX8_thing 57 = .ok (.aload_n 0, 1) := by decide +kernel
theorem dX8_thing_58 : decode cX8_thing 58 = .ok (.iload_n 1, 1) := by decide +kernel
theorem dX8_thing_59 : decode cX8_thing 59 = .ok (.invokevirtual 140, 3) := by decide +kernel
theorem dX8_thing_62 : decode cX8_thing 62 = .ok (.ireturn, 1) := by decide +kernel
theorem dX8_thing_63 : decode cX8_thing 63 = .ok (.aload_n 0, 1) := by decide +kernel
theorem dX8_thing_64 : decode cX8_thing 64 = .ok (.getfield 7, 3) := by decide +kernel
theorem dX8_thing_67 : decode cX8_thing 67 = .ok (.bipush 18, 2) := by decide +kernel
theorem dX8_thing_69 : decode cX8_thing 69 = .ok (.iaload, 1) := by decide +kernel
theorem dX8_thing_70 : decode cX8_thing 70 = .ok (.iload_n 1, 1) := by decide +kernel
theorem dX8_thing_71 : decode cX8_thing 71 = .ok (.ishr, 1) := by decide +kernel
theorem dX8_thing_72 : decode cX8_thing 72 = .ok (.iconst 1, 1) := by decide +kernel
theorem dX8_thing_73 : decode cX8_thing 73 = .ok (.iand, 1) := by decide +kernel
theorem dX8_thing_74 : decode cX8_thing 74 = .ok (.ireturn, 1) := by decide +kernel
theorem dX8_thing_75 : decode cX8_thing 75 = .ok (.aload_n 0, 1) := by decide +kernel
theorem dX8_thing_76 : decode cX8_thing 76 = .ok (.aload_n 0, 1) := by decide +kernel
theorem dX8_thing_77 : decode cX8_thing 77 = .ok (.getfield 7, 3) := by decide +kernel
theorem dX8_thing_80 : decode cX8_thing 80 = .ok (.bipush 18, 2) := by decide +kernel
theorem dX8_thing_82 : decode cX8_thing 82 = .ok (.iaload, 1) := by decide +kernel
theorem dX8_thing_83 : decode cX8_thing 83 = .ok (.iload_n 1, 1) := by decide +kernel
theorem dX8_thing_84 : decode cX8_thing 84 = .ok (.invokevirtual 143, 3) := by decide +kernel
theorem dX8_thing_87 : decode cX8_thing 87 = .ok (.ifCond .eq 7, 3) := by decide +kernel
theorem dX8_thing_90 : decode cX8_thing 90 = .ok (.iconst 1, 1) := by decide +kernel
theorem dX8_thing_91 : decode cX8_thing 91 = .ok (.goto 4, 3) := by decide +kernel
theorem dX8_thing_94 : decode cX8_thing 94 = .ok (.iconst 0, 1) := by decide +kernel
theorem dX8_thing_95 : decode cX8_thing 95 = .ok (.ireturn, 1) := by decide +kernel
theorem dX8_thing_96 : decode cX8_thing 96 = .ok (.iconst (-1), 1) := by decide +kernel
theorem dX8_thing_97 : decode cX8_thing 97 = .ok (.ireturn, 1) := by decide +kernel
theorem dX8_guest_0 : decode cX8_guest 0 = .ok (.aload_n 0, 1) := by decide +kernel
theorem dX8_guest_1 : decode cX8_guest 1 = .ok (.iload_n 1, 1) := by decide +kernel
theorem dX8_guest_2 : decode cX8_guest 2 = .ok (.invokevirtual 163, 3) := by decide +kernel
theorem dX8_guest_5 : decode cX8_guest 5 = .ok (.ifCond .eq 29, 3) := by decide +kernel
theorem dX8_guest_8 : decode cX8_guest 8 = .ok (.iload_n 2, 1) := by decide +kernel
theorem dX8_guest_9 : decode cX8_guest 9 = .ok (.i2l, 1) := by decide +kernel
theorem dX8_guest_10 : decode cX8_guest 10 = .ok (.lconst 0, 1) := by decide +kernel
theorem dX8_guest_11 : decode cX8_guest 11 = .ok (.lconst 1, 1) := by decide +kernel
theorem dX8_guest_12 : decode cX8_guest 12 = .ok (.invokestatic 46, 3) := by decide +kernel
theorem dX8_guest_15 : decode cX8_guest 15 = .ok (.ifCond .eq 19, 3) := by decide +kernel
theorem dX8_guest_18 : decode cX8_guest 18 = .ok (.aload_n 0, 1) := by decide +kernel
theorem dX8_guest_19 : decode cX8_guest 19 = .ok (.getfield 7, 3) := by decide +kernel
theorem dX8_guest_22 : decode cX8_guest 22 = .ok (.bipush 19, 2) := by decide +kernel
theorem dX8_guest_24 : decode cX8_guest 24 = .ok (.iconst 4, 1) := by decide +kernel
theorem dX8_guest_25 : decode cX8_guest 25 = .ok (.iload_n 2, 1) := by decide +kernel
theorem dX8_guest_26 : decode cX8_guest 26 = .ok (.imul, 1) := by decide +kernel
theorem dX8_guest_27 : decode cX8_guest 27 = .ok (.iadd, 1) := by decide +kernel
theorem dX8_guest_28 : decode cX8_guest 28 = .ok (.iload_n 1, 1) := by decide +kernel
theorem dX8_guest_29 : decode cX8_guest 29 = .ok (.iadd, 1) := by decide +kernel
theorem dX8_guest_30 : decode cX8_guest 30 = .ok (.iaload, 1) := by decide +kernel
theorem dX8_guest_31 : decode cX8_guest 31 = .ok (.goto 4, 3) := by decide +kernel
theorem dX8_guest_34 : decode cX8_guest 34 = .ok (.iconst (-1), 1) := by decide +kernel
theorem dX8_guest_35 : decode cX8_guest 35 = .ok (.ireturn, 1) := by decide +kernel
theorem dX8_ban_0 : decode cX8_ban 0 = .ok (.aload_n 0, 1) := by decide +kernel
theorem dX8_ban_1 : decode cX8_ban 1 = .ok (.iload_n 1, 1) := by decide +kernel
theorem dX8_ban_2 : decode cX8_ban 2 = .ok (.invokevirtual 166, 3) := by decide +kernel
theorem dX8_ban_5 : decode cX8_ban 5 = .ok (.ifCond .eq 15, 3) := by decide +kernel
theorem dX8_ban_8 : decode cX8_ban 8 = .ok (.iload_n 2, 1) := by decide +kernel
theorem dX8_ban_9 : decode cX8_ban 9 = .ok (.i2l, 1) := by decide +kernel
theorem dX8_ban_10 : decode cX8_ban 10 = .ok (.lconst 0, 1) := by decide +kernel
theorem dX8_ban_11 : decode cX8_ban 11 = .ok (.ldc2_w 169, 3) := by decide +kernel
theorem dX8_ban_14 : decode cX8_ban 14 = .ok (.invokestatic 46, 3) := by decide +kernel
theorem dX8_ban_17 : decode cX8_ban 17 = .ok (.ifCond .ne 5, 3) := by decide +kernel
theorem dX8_ban_20 : decode cX8_ban 20 = .ok (.iconst (-1), 1) := by decide +kernel
theorem dX8_ban_21 : decode cX8_ban 21 = .ok (.ireturn, 1) := by decide +kernel
theorem dX8_ban_22 : decode cX8_ban 22 = .ok (.iload_n 2, 1) := by decide +kernel
theorem dX8_ban_23 : decode cX8_ban 23 = .ok (.iconst 2, 1) := by decide +kernel
theorem dX8_ban_24 : decode cX8_ban 24 = .ok (.if_icmp .ge 19, 3) := by decide +kernel
theorem dX8_ban_27 : decode cX8_ban 27 = .ok (.aload_n 0, 1) := by decide +kernel
theorem dX8_ban_28 : decode cX8_ban 28 = .ok (.getfield 7, 3) := by decide +kernel
theorem dX8_ban_31 : decode cX8_ban 31 = .ok (.bipush 27, 2) := by decide +kernel
theorem dX8_ban_33 : decode cX8_ban 33 = .ok (.iconst 2, 1) := by decide +kernel
theorem dX8_ban_34 : decode cX8_ban 34 = .ok (.iload_n 1, 1) := by decide +kernel
theorem dX8_ban_35 : decode cX8_ban 35 = .ok (.imul, 1) := by decide +kernel
theorem dX8_ban_36 : decode cX8_ban 36 = .ok (.iadd, 1) := by decide +kernel
theorem dX8_ban_37 : decode cX8_ban 37 = .ok (.iload_n 2, 1) := by decide +kernel
theorem dX8_ban_38 : decode cX8_ban 38 = .ok (.iadd, 1) := by decide +kernel
theorem dX8_ban_39 : decode cX8_ban 39 = .ok (.iaload, 1) := by decide +kernel
theorem dX8_ban_40 : decode cX8_ban 40 = .ok (.goto 23, 3) := by decide +kernel
theorem dX8_ban_43 : decode cX8_ban 43 = .ok (.aload_n 0, 1) := by decide +kernel
theorem dX8_ban_44 : decode cX8_ban 44 = .ok (.aload_n 0, 1) := by decide +kernel
theorem dX8_ban_45 : decode cX8_ban 45 = .ok (.getfield 7, 3) := by decide +kernel
theorem dX8_ban_48 : decode cX8_ban 48 = .ok (.bipush 18, 2) := by decide +kernel
theorem dX8_ban_50 : decode cX8_ban 50 = .ok (.iaload, 1) := by decide +kernel
theorem dX8_ban_51 : decode cX8_ban 51 = .ok (.iload_n 1, 1) := by decide +kernel
theorem dX8_ban_52 : decode cX8_ban 52 = .ok (.invokevirtual 150, 3) := by decide +kernel
theorem dX8_ban_55 : decode cX8_ban 55 = .ok (.ifCond .eq 7, 3) := by decide +kernel
theorem dX8_ban_58 : decode cX8_ban 58 = .ok (.iconst 1, 1) := by decide +kernel
theorem dX8_ban_59 : decode cX8_ban 59 = .ok (.goto 4, 3) := by decide +kernel
theorem dX8_ban_62 : decode cX8_ban 62 = .ok (.iconst 0, 1) := by decide +kernel
theorem dX8_ban_63 : decode cX8_ban 63 = .ok (.ireturn, 1) := by decide +kernel
theorem dX8_puts_0 : decode cX8_puts 0 = .ok (.iload_n 1, 1) := by decide +kernel
theorem dX8_puts_1 : decode cX8_puts 1 = .ok (.ifCond .ne 5, 3) := by decide +kernel
theorem dX8_puts_4 : decode cX8_puts 4 = .ok (.iconst (-1), 1) := by decide +kernel
theorem dX8_puts_5 : decode cX8_puts 5 = .ok (.ireturn, 1) := by decide +kernel
theorem dX8_puts_6 : decode cX8_puts 6 = .ok (.aload_n 0, 1) := by decide +kernel
theorem dX8_puts_7 : decode cX8_puts 7 = .ok (.getfield 7, 3) := by decide +kernel
theorem dX8_puts_10 : decode cX8_puts 10 = .ok (.iload_n 2, 1) := by decide +kernel
theorem dX8_puts_11 : decode cX8_puts 11 = .ok (.iaload, 1) := by decide +kernel
theorem dX8_puts_12 : decode cX8_puts 12 = .ok (.iload 4, 2) := by decide +kernel
theorem dX8_puts_14 : decode cX8_puts 14 = .ok (.iadd, 1) := by decide +kernel
theorem dX8_puts_15 : decode cX8_puts 15 = .ok (.istore 5, 2) := by decide +kernel
theorem dX8_puts_17 : decode cX8_puts 17 = .ok (.aload_n 0, 1) := by decide +kernel
theorem dX8_puts_18 : decode cX8_puts 18 = .ok (.getfield 7, 3) := by decide +kernel
theorem dX8_puts_21 : decode cX8_puts 21 = .ok (.iload_n 2, 1) := by decide +kernel
theorem dX8_puts_22 : decode cX8_puts 22 = .ok (.iload_n 3, 1) := by decide +kernel
theorem dX8_puts_23 : decode cX8_puts 23 = .ok (.iload 4, 2) := by decide +kernel
theorem dX8_puts_25 : decode cX8_puts 25 = .ok (.isub, 1) := by decide +kernel
theorem dX8_puts_26 : decode cX8_puts 26 = .ok (.iastore, 1) := by decide +kernel
theorem dX8_puts_27 : decode cX8_puts 27 = .ok (.iload 5, 2) := by decide +kernel
theorem dX8_puts_29 : decode cX8_puts 29 = .ok (.ireturn, 1) := by decide +kernel
theorem dX8_alter_0 : decode cX8_alter 0 = .ok (.aload_n 0, 1) := by decide +kernel
theorem dX8_alter_1 : decode cX8_alter 1 = .ok (.iload_n 1, 1) := by decide +kernel
theorem dX8_alter_2 : decode cX8_alter 2 = .ok (.invokevirtual 160, 3) := by decide +kernel
theorem dX8_alter_5 : decode cX8_alter 5 = .ok (.ifCond .ne 5, 3) := by decide +kernel
theorem dX8_alter_8 : decode cX8_alter 8 = .ok (.iconst (-1), 1) := by decide +kernel
theorem dX8_alter_9 : decode cX8_alter 9 = .ok (.ireturn, 1) := by decide +kernel
theorem dX8_alter_10 : decode cX8_alter 10 = .ok (.iload_n 2, 1) := by decide +kernel
theorem dX8_alter_11 : decode cX8_alter 11 = .ok (.tableswitch 85 0 3 #[29, 46, 62, 78], 29) := by decide +kernel
theorem dX8_alter_40 : decode cX8_alter 40 = .ok (.aload_n 0, 1) := by decide +kernel
theorem dX8_alter_41 : decode cX8_alter 41 = .ok (.iload_n 3, 1) := by decide +kernel
theorem dX8_alter_42 : decode cX8_alter 42 = .ok (.i2l, 1) := by decide +kernel
theorem dX8_alter_43 : decode cX8_alter 43 = .ok (.lconst 0, 1) := by decide +kernel
theorem dX8_alter_44 : decode cX8_alter 44 = .ok (.ldc2_w 171, 3) := by decide +kernel
theorem dX8_alter_47 : decode cX8_alter 47 = .ok (.invokestatic 46, 3) := by decide +kernel
theorem dX8_alter_50 : decode cX8_alter 50 = .ok (.iload_n 1, 1) := by decide +kernel
theorem dX8_alter_51 : decode cX8_alter 51 = .ok (.iload_n 3, 1) := by decide +kernel
theorem dX8_alter_52 : decode cX8_alter 52 = .ok (.iconst 0, 1) := by decide +kernel
theorem dX8_alter_53 : decode cX8_alter 53 = .ok (.invokevirtual 173, 3) := by decide +kernel
theorem dX8_alter_56 : decode cX8_alter 56 = .ok (.ireturn, 1) := by decide +kernel
theorem dX8_alter_57 : decode cX8_alter 57 = .ok (.aload_n 0, 1) := by decide +kernel
theorem dX8_alter_58 : decode cX8_alter 58 = .ok (.aload_n 0, 1) := by decide +kernel
theorem dX8_alter_59 : decode cX8_alter 59 = .ok (.iload_n 3, 1) := by decide +kernel
theorem dX8_alter_60 : decode cX8_alter 60 = .ok (.invokevirtual 160, 3) := by decide +kernel
theorem dX8_alter_63 : decode cX8_alter 63 = .ok (.bipush 6, 2) := by decide +kernel
theorem dX8_alter_65 : decode cX8_alter 65 = .ok (.iload_n 1, 1) := by decide +kernel
theorem dX8_alter_66 : decode cX8_alter 66 = .ok (.iadd, 1) := by decide +kernel
theorem dX8_alter_67 : decode cX8_alter 67 = .ok (.iload_n 3, 1) := by decide +kernel
theorem dX8_alter_68 : decode cX8_alter 68 = .ok (.iload_n 1, 1) := by decide +kernel
theorem dX8_alter_69 : decode cX8_alter 69 = .ok (.invokevirtual 173, 3) := by decide +kernel
theorem dX8_alter_72 : decode cX8_alter 72 = .ok (.ireturn, 1) := by decide +kernel
theorem dX8_alter_73 : decode cX8_alter 73 = .ok (.aload_n 0, 1) := by decide +kernel
theorem dX8_alter_74 : decode cX8_alter 74 = .ok (.aload_n 0, 1) := by decide +kernel
theorem dX8_alter_75 : decode cX8_alter 75 = .ok (.iload_n 3, 1) := by decide +kernel
theorem dX8_alter_76 : decode cX8_alter 76 = .ok (.invokevirtual 160, 3) := by decide +kernel
theorem dX8_alter_79 : decode cX8_alter 79 = .ok (.bipush 12, 2) := by decide +kernel
theorem dX8_alter_81 : decode cX8_alter 81 = .ok (.iload_n 1, 1) := by decide +kernel
theorem dX8_alter_82 : decode cX8_alter 82 = .ok (.iadd, 1) := by decide +kernel
theorem dX8_alter_83 : decode cX8_alter 83 = .ok (.iload_n 3, 1) := by decide +kernel
theorem dX8_alter_84 : decode cX8_alter 84 = .ok (.iload_n 1, 1) := by decide +kernel
theorem dX8_alter_85 : decode cX8_alter 85 = .ok (.invokevirtual 173, 3) := by decide +kernel
theorem dX8_alter_88 : decode cX8_alter 88 = .ok (.ireturn, 1) := by decide +kernel
theorem dX8_alter_89 : decode cX8_alter 89 = .ok (.aload_n 0, 1) := by decide +kernel
theorem dX8_alter_90 : decode cX8_alter 90 = .ok (.iload_n 1, 1) := by decide +kernel
theorem dX8_alter_91 : decode cX8_alter 91 = .ok (.iload_n 3, 1) := by decide +kernel
theorem dX8_alter_92 : decode cX8_alter 92 = .ok (.invokevirtual 177, 3) := by decide +kernel
theorem dX8_alter_95 : decode cX8_alter 95 = .ok (.ireturn, 1) := by decide +kernel
theorem dX8_alter_96 : decode cX8_alter 96 = .ok (.iconst (-1), 1) := by decide +kernel
theorem dX8_alter_97 : decode cX8_alter 97 = .ok (.ireturn, 1) := by decide +kernel
theorem dX8_becomes_0 : decode cX8_becomes 0 = .ok (.iload_n 2, 1) := by decide +kernel
theorem dX8_becomes_1 : decode cX8_becomes 1 = .ok (.i2l, 1) := by decide +kernel
theorem dX8_becomes_2 : decode cX8_becomes 2 = .ok (.lconst 0, 1) := by decide +kernel
theorem dX8_becomes_3 : decode cX8_becomes 3 = .ok (.lconst 1, 1) := by decide +kernel
theorem dX8_becomes_4 : decode cX8_becomes 4 = .ok (.invokestatic 46, 3) := by decide +kernel
theorem dX8_becomes_7 : decode cX8_becomes 7 = .ok (.ifCond .ne 5, 3) := by decide +kernel
theorem dX8_becomes_10 : decode cX8_becomes 10 = .ok (.iconst (-1), 1) := by decide +kernel
theorem dX8_becomes_11 : decode cX8_becomes 11 = .ok (.ireturn, 1) := by decide +kernel
theorem dX8_becomes_12 : decode cX8_becomes 12 = .ok (.aload_n 0, 1) := by decide +kernel
theorem dX8_becomes_13 : decode cX8_becomes 13 = .ok (.getfield 7, 3) := by decide +kernel
theorem dX8_becomes_16 : decode cX8_becomes 16 = .ok (.bipush 18, 2) := by decide +kernel
theorem dX8_becomes_18 : decode cX8_becomes 18 = .ok (.iaload, 1) := by decide +kernel
theorem dX8_becomes_19 : decode cX8_becomes 19 = .ok (.iload_n 1, 1) := by decide +kernel
theorem dX8_becomes_20 : decode cX8_becomes 20 = .ok (.ishr, 1) := by decide +kernel
theorem dX8_becomes_21 : decode cX8_becomes 21 = .ok (.iconst 1, 1) := by decide +kernel
theorem dX8_becomes_22 : decode cX8_becomes 22 = .ok (.iand, 1) := by decide +kernel
theorem dX8_becomes_23 : decode cX8_becomes 23 = .ok (.istore_n 3, 1) := by decide +kernel
theorem dX8_becomes_24 : decode cX8_becomes 24 = .ok (.aload_n 0, 1) := by decide +kernel
theorem dX8_becomes_25 : decode cX8_becomes 25 = .ok (.getfield 7, 3) := by decide +kernel
theorem dX8_becomes_28 : decode cX8_becomes 28 = .ok (.bipush 18, 2) := by decide +kernel
theorem dX8_becomes_30 : decode cX8_becomes 30 = .ok (.aload_n 0, 1) := by decide +kernel
theorem dX8_becomes_31 : decode cX8_becomes 31 = .ok (.getfield 7, 3) := by decide +kernel
theorem dX8_becomes_34 : decode cX8_becomes 34 = .ok (.bipush 18, 2) := by decide +kernel
theorem dX8_becomes_36 : decode cX8_becomes 36 = .ok (.iaload, 1) := by decide +kernel
theorem dX8_becomes_37 : decode cX8_becomes 37 = .ok (.iconst 1, 1) := by decide +kernel
theorem dX8_becomes_38 : decode cX8_becomes 38 = .ok (.iload_n 1, 1) := by decide +kernel
theorem dX8_becomes_39 : decode cX8_becomes 39 = .ok (.ishl, 1) := by decide +kernel
theorem dX8_becomes_40 : decode cX8_becomes 40 = .ok (.iconst (-1), 1) := by decide +kernel
theorem dX8_becomes_41 : decode cX8_becomes 41 = .ok (.ixor, 1) := by decide +kernel
theorem dX8_becomes_42 : decode cX8_becomes 42 = .ok (.iand, 1) := by decide +kernel
theorem dX8_becomes_43 : decode cX8_becomes 43 = .ok (.iload_n 2, 1) := by decide +kernel
theorem dX8_becomes_44 : decode cX8_becomes 44 = .ok (.iload_n 1, 1) := by decide +kernel
theorem dX8_becomes_45 : decode cX8_becomes 45 = .ok (.ishl, 1) := by decide +kernel
theorem dX8_becomes_46 : decode cX8_becomes 46 = .ok (.ior, 1) := by decide +kernel
theorem dX8_becomes_47 : decode cX8_becomes 47 = .ok (.iastore, 1) := by decide +kernel
theorem dX8_becomes_48 : decode cX8_becomes 48 = .ok (.iload_n 3, 1) := by decide +kernel
theorem dX8_becomes_49 : decode cX8_becomes 49 = .ok (.ireturn, 1) := by decide +kernel
theorem dX8_hire_0 : decode cX8_hire 0 = .ok (.aload_n 0, 1) := by decide +kernel
theorem dX8_hire_1 : decode cX8_hire 1 = .ok (.aload_n 0, 1) := by decide +kernel
theorem dX8_hire_2 : decode cX8_hire 2 = .ok (.iload_n 1, 1) := by decide +kernel
theorem dX8_hire_3 : decode cX8_hire 3 = .ok (.invokevirtual 163, 3) := by decide +kernel
theorem dX8_hire_6 : decode cX8_hire 6 = .ok (.ifCond .eq 36, 3) := by decide +kernel
theorem dX8_hire_9 : decode cX8_hire 9 = .ok (.iload_n 2, 1) := by decide +kernel
theorem dX8_hire_10 : decode cX8_hire 10 = .ok (.ifCond .ne 11, 3) := by decide +kernel
theorem dX8_hire_13 : decode cX8_hire 13 = .ok (.aload_n 0, 1) := by decide +kernel
theorem dX8_hire_14 : decode cX8_hire 14 = .ok (.iload_n 3, 1) := by decide +kernel
theorem dX8_hire_15 : decode cX8_hire 15 = .ok (.invokevirtual 160, 3) := by decide +kernel
theorem dX8_hire_18 : decode cX8_hire 18 = .ok (.ifCond .ne 20, 3) := by decide +kernel
theorem dX8_hire_21 : decode cX8_hire 21 = .ok (.iload_n 2, 1) := by decide +kernel
theorem dX8_hire_22 : decode cX8_hire 22 = .ok (.iconst 1, 1) := by decide +kernel
theorem dX8_hire_23 : decode cX8_hire 23 = .ok (.if_icmp .ne 19, 3) := by decide +kernel
theorem dX8_hire_26 : decode cX8_hire 26 = .ok (.iload_n 3, 1) := by decide +kernel
theorem dX8_hire_27 : decode cX8_hire 27 = .ok (.i2l, 1) := by decide +kernel
theorem dX8_hire_28 : decode cX8_hire 28 = .ok (.lconst 0, 1) := by decide +kernel
theorem dX8_hire_29 : decode cX8_hire 29 = .ok (.ldc2_w 181, 3) := by decide +kernel
theorem dX8_hire_32 : decode cX8_hire 32 = .ok (.invokestatic 46, 3) := by decide +kernel
theorem dX8_hire_35 : decode cX8_hire 35 = .ok (.ifCond .eq 7, 3) := by decide +kernel
theorem dX8_hire_38 : decode cX8_hire 38 = .ok (.iconst 1, 1) := by decide +kernel
theorem dX8_hire_39 : decode cX8_hire 39 = .ok (.goto 4, 3) := by decide +kernel
theorem dX8_hire_42 : decode cX8_hire 42 = .ok (.iconst 0, 1) := by decide +kernel
theorem dX8_hire_43 : decode cX8_hire 43 = .ok (.bipush 19, 2) := by decide +kernel
theorem dX8_hire_45 : decode cX8_hire 45 = .ok (.iconst 4, 1) := by decide +kernel
theorem dX8_hire_46 : decode cX8_hire 46 = .ok (.iload_n 2, 1) := by decide +kernel
theorem dX8_hire_47 : decode cX8_hire 47 = .ok (.imul, 1) := by decide +kernel
theorem dX8_hire_48 : decode cX8_hire 48 = .ok (.iadd, 1) := by decide +kernel
theorem dX8_hire_49 : decode cX8_hire 49 = .ok (.iload_n 1, 1) := by decide +kernel
theorem dX8_hire_50 : decode cX8_hire 50 = .ok (.iadd, 1) := by decide +kernel
theorem dX8_hire_51 : decode cX8_hire 51 = .ok (.iload_n 3, 1) := by decide +kernel
theorem dX8_hire_52 : decode cX8_hire 52 = .ok (.iconst 0, 1) := by decide +kernel
theorem dX8_hire_53 : decode cX8_hire 53 = .ok (.invokevirtual 173, 3) := by decide +kernel
theorem dX8_hire_56 : decode cX8_hire 56 = .ok (.ireturn, 1) := by decide +kernel
theorem dX8_forbid_0 : decode cX8_forbid 0 = .ok (.aload_n 0, 1) := by decide +kernel
theorem dX8_forbid_1 : decode cX8_forbid 1 = .ok (.iload_n 1, 1) := by decide +kernel
theorem dX8_forbid_2 : decode cX8_forbid 2 = .ok (.invokevirtual 160, 3) := by decide +kernel
theorem dX8_forbid_5 : decode cX8_forbid 5 = .ok (.ifCond .eq 16, 3) := by decide +kernel
theorem dX8_forbid_8 : decode cX8_forbid 8 = .ok (.aload_n 0, 1) := by decide +kernel
theorem dX8_forbid_9 : decode cX8_forbid 9 = .ok (.iload_n 2, 1) := by decide +kernel
theorem dX8_forbid_10 : decode cX8_forbid 10 = .ok (.invokevirtual 160, 3) := by decide +kernel
theorem dX8_forbid_13 : decode cX8_forbid 13 = .ok (.ifCond .eq 8, 3) := by decide +kernel
theorem dX8_forbid_16 : decode cX8_forbid 16 = .ok (.iload_n 1, 1) := by decide +kernel
theorem dX8_forbid_17 : decode cX8_forbid 17 = .ok (.iload_n 2, 1) := by decide +kernel
theorem dX8_forbid_18 : decode cX8_forbid 18 = .ok (.if_icmp .ne 5, 3) := by decide +kernel
theorem dX8_forbid_21 : decode cX8_forbid 21 = .ok (.iconst (-1), 1) := by decide +kernel
theorem dX8_forbid_22 : decode cX8_forbid 22 = .ok (.ireturn, 1) := by decide +kernel
theorem dX8_forbid_23 : decode cX8_forbid 23 = .ok (.aload_n 0, 1) := by decide +kernel
theorem dX8_forbid_24 : decode cX8_forbid 24 = .ok (.getfield 7, 3) := by decide +kernel
theorem dX8_forbid_27 : decode cX8_forbid 27 = .ok (.bipush 35, 2) := by decide +kernel
theorem dX8_forbid_29 : decode cX8_forbid 29 = .ok (.iaload, 1) := by decide +kernel
theorem dX8_forbid_30 : decode cX8_forbid 30 = .ok (.iconst 4, 1) := by decide +kernel
theorem dX8_forbid_31 : decode cX8_forbid 31 = .ok (.if_icmp .ne 6, 3) := by decide +kernel
theorem dX8_forbid_34 : decode cX8_forbid 34 = .ok (.bipush (-3), 2) := by decide +kernel
theorem dX8_forbid_36 : decode cX8_forbid 36 = .ok (.ireturn, 1) := by decide +kernel
theorem dX8_forbid_37 : decode cX8_forbid 37 = .ok (.aload_n 0, 1) := by decide +kernel
theorem dX8_forbid_38 : decode cX8_forbid 38 = .ok (.getfield 7, 3) := by decide +kernel
theorem dX8_forbid_41 : decode cX8_forbid 41 = .ok (.bipush 27, 2) := by decide +kernel
theorem dX8_forbid_43 : decode cX8_forbid 43 = .ok (.iconst 2, 1) := by decide +kernel
theorem dX8_forbid_44 : decode cX8_forbid 44 = .ok (.aload_n 0, 1) := by decide +kernel
theorem dX8_forbid_45 : decode cX8_forbid 45 = .ok (.getfield 7, 3) := by decide +kernel
theorem dX8_forbid_48 : decode cX8_forbid 48 = .ok (.bipush 35, 2) := by decide +kernel
theorem dX8_forbid_50 : decode cX8_forbid 50 = .ok (.iaload, 1) := by decide +kernel
theorem dX8_forbid_51 : decode cX8_forbid 51 = .ok (.imul, 1) := by decide +kernel
theorem dX8_forbid_52 : decode cX8_forbid 52 = .ok (.iadd, 1) := by decide +kernel
theorem dX8_forbid_53 : decode cX8_forbid 53 = .ok (.iload_n 1, 1) := by decide +kernel
theorem dX8_forbid_54 : decode cX8_forbid 54 = .ok (.iastore, 1) := by decide +kernel
theorem dX8_forbid_55 : decode cX8_forbid 55 = .ok (.aload_n 0, 1) := by decide +kernel
theorem dX8_forbid_56 : decode cX8_forbid 56 = .ok (.getfield 7, 3) := by decide +kernel
theorem dX8_forbid_59 : decode cX8_forbid 59 = .ok (.bipush 27, 2) := by decide +kernel
theorem dX8_forbid_61 : decode cX8_forbid 61 = .ok (.iconst 2, 1) := by decide +kernel
theorem dX8_forbid_62 : decode cX8_forbid 62 = .ok (.aload_n 0, 1) := by decide +kernel
theorem dX8_forbid_63 : decode cX8_forbid 63 = .ok (.getfield 7, 3) := by decide +kernel
theorem dX8_forbid_66 : decode cX8_forbid 66 = .ok (.bipush 35, 2) := by decide +kernel
theorem dX8_forbid_68 : decode cX8_forbid 68 = .ok (.iaload, 1) := by decide +kernel
theorem dX8_forbid_69 : decode cX8_forbid 69 = .ok (.imul, 1) := by decide +kernel
theorem dX8_forbid_70 : decode cX8_forbid 70 = .ok (.iadd, 1) := by decide +kernel
theorem dX8_forbid_71 : decode cX8_forbid 71 = .ok (.iconst 1, 1) := by decide +kernel
theorem dX8_forbid_72 : decode cX8_forbid 72 = .ok (.iadd, 1) := by decide +kernel
theorem dX8_forbid_73 : decode cX8_forbid 73 = .ok (.iload_n 2, 1) := by decide +kernel
theorem dX8_forbid_74 : decode cX8_forbid 74 = .ok (.iastore, 1) := by decide +kernel
theorem dX8_forbid_75 : decode cX8_forbid 75 = .ok (.aload_n 0, 1) := by decide +kernel
theorem dX8_forbid_76 : decode cX8_forbid 76 = .ok (.getfield 7, 3) := by decide +kernel
theorem dX8_forbid_79 : decode cX8_forbid 79 = .ok (.bipush 35, 2) := by decide +kernel
theorem dX8_forbid_81 : decode cX8_forbid 81 = .ok (.dup2, 1) := by decide +kernel
theorem dX8_forbid_82 : decode cX8_forbid 82 = .ok (.iaload, 1) := by decide +kernel
theorem dX8_forbid_83 : decode cX8_forbid 83 = .ok (.iconst 1, 1) := by decide +kernel
theorem dX8_forbid_84 : decode cX8_forbid 84 = .ok (.iadd, 1) := by decide +kernel
theorem dX8_forbid_85 : decode cX8_forbid 85 = .ok (.iastore, 1) := by decide +kernel
theorem dX8_forbid_86 : decode cX8_forbid 86 = .ok (.aload_n 0, 1) := by decide +kernel
theorem dX8_forbid_87 : decode cX8_forbid 87 = .ok (.getfield 7, 3) := by decide +kernel
theorem dX8_forbid_90 : decode cX8_forbid 90 = .ok (.bipush 35, 2) := by decide +kernel
theorem dX8_forbid_92 : decode cX8_forbid 92 = .ok (.iaload, 1) := by decide +kernel
theorem dX8_forbid_93 : decode cX8_forbid 93 = .ok (.ireturn, 1) := by decide +kernel
theorem dX8_lift_0 : decode cX8_lift 0 = .ok (.aload_n 0, 1) := by decide +kernel
theorem dX8_lift_1 : decode cX8_lift 1 = .ok (.iload_n 1, 1) := by decide +kernel
theorem dX8_lift_2 : decode cX8_lift 2 = .ok (.invokevirtual 166, 3) := by decide +kernel
theorem dX8_lift_5 : decode cX8_lift 5 = .ok (.ifCond .ne 5, 3) := by decide +kernel
theorem dX8_lift_8 : decode cX8_lift 8 = .ok (.iconst (-1), 1) := by decide +kernel
theorem dX8_lift_9 : decode cX8_lift 9 = .ok (.ireturn, 1) := by decide +kernel
theorem dX8_lift_10 : decode cX8_lift 10 = .ok (.bipush 27, 2) := by decide +kernel
theorem dX8_lift_12 : decode cX8_lift 12 = .ok (.iconst 2, 1) := by decide +kernel
theorem dX8_lift_13 : decode cX8_lift 13 = .ok (.iload_n 1, 1) := by decide +kernel
theorem dX8_lift_14 : decode cX8_lift 14 = .ok (.imul, 1) := by decide +kernel
theorem dX8_lift_15 : decode cX8_lift 15 = .ok (.iadd, 1) := by decide +kernel
theorem dX8_lift_16 : decode cX8_lift 16 = .ok (.istore_n 2, 1) := by decide +kernel
theorem dX8_lift_17 : decode cX8_lift 17 = .ok (.iload_n 2, 1) := by decide +kernel
theorem dX8_lift_18 : decode cX8_lift 18 = .ok (.bipush 33, 2) := by decide +kernel
theorem dX8_lift_20 : decode cX8_lift 20 = .ok (.if_icmp .ge 23, 3) := by decide +kernel
theorem dX8_lift_23 : decode cX8_lift 23 = .ok (.aload_n 0, 1) := by decide +kernel
theorem dX8_lift_24 : decode cX8_lift 24 = .ok (.getfield 7, 3) := by decide +kernel
theorem dX8_lift_27 : decode cX8_lift 27 = .ok (.iload_n 2, 1) := by decide +kernel
theorem dX8_lift_28 : decode cX8_lift 28 = .ok (.aload_n 0, 1) := by decide +kernel
theorem dX8_lift_29 : decode cX8_lift 29 = .ok (.getfield 7, 3) := by decide +kernel
theorem dX8_lift_32 : decode cX8_lift 32 = .ok (.iload_n 2, 1) := by decide +kernel
theorem dX8_lift_33 : decode cX8_lift 33 = .ok (.iconst 2, 1) := by decide +kernel
theorem dX8_lift_34 : decode cX8_lift 34 = .ok (.iadd, 1) := by decide +kernel
theorem dX8_lift_35 : decode cX8_lift 35 = .ok (.iaload, 1) := by decide +kernel
theorem dX8_lift_36 : decode cX8_lift 36 = .ok (.iastore, 1) := by decide +kernel
theorem dX8_lift_37 : decode cX8_lift 37 = .ok (.iinc 2 1, 3) := by decide +kernel
theorem dX8_lift_40 : decode cX8_lift 40 = .ok (.goto (-23), 3) := by decide +kernel
theorem dX8_lift_43 : decode cX8_lift 43 = .ok (.aload_n 0, 1) := by decide +kernel
theorem dX8_lift_44 : decode cX8_lift 44 = .ok (.getfield 7, 3) := by decide +kernel
theorem dX8_lift_47 : decode cX8_lift 47 = .ok (.bipush 35, 2) := by decide +kernel
theorem dX8_lift_49 : decode cX8_lift 49 = .ok (.dup2, 1) := by decide +kernel
theorem dX8_lift_50 : decode cX8_lift 50 = .ok (.iaload, 1) := by decide +kernel
theorem dX8_lift_51 : decode cX8_lift 51 = .ok (.iconst 1, 1) := by decide +kernel
theorem dX8_lift_52 : decode cX8_lift 52 = .ok (.isub, 1) := by decide +kernel
theorem dX8_lift_53 : decode cX8_lift 53 = .ok (.iastore, 1) := by decide +kernel
theorem dX8_lift_54 : decode cX8_lift 54 = .ok (.aload_n 0, 1) := by decide +kernel
theorem dX8_lift_55 : decode cX8_lift 55 = .ok (.getfield 7, 3) := by decide +kernel
theorem dX8_lift_58 : decode cX8_lift 58 = .ok (.bipush 35, 2) := by decide +kernel
theorem dX8_lift_60 : decode cX8_lift 60 = .ok (.iaload, 1) := by decide +kernel
theorem dX8_lift_61 : decode cX8_lift 61 = .ok (.ireturn, 1) := by decide +kernel
theorem dX8_undoes_0 : decode cX8_undoes 0 = .ok (.aload_n 0, 1) := by decide +kernel
theorem dX8_undoes_1 : decode cX8_undoes 1 = .ok (.iload_n 1, 1) := by decide +kernel
theorem dX8_undoes_2 : decode cX8_undoes 2 = .ok (.invokevirtual 163, 3) := by decide +kernel
theorem dX8_undoes_5 : decode cX8_undoes 5 = .ok (.ifCond .ne 5, 3) := by decide +kernel
theorem dX8_undoes_8 : decode cX8_undoes 8 = .ok (.iconst (-1), 1) := by decide +kernel
theorem dX8_undoes_9 : decode cX8_undoes 9 = .ok (.ireturn, 1) := by decide +kernel
theorem dX8_undoes_10 : decode cX8_undoes 10 = .ok (.aload_n 0, 1) := by decide +kernel
theorem dX8_undoes_11 : decode cX8_undoes 11 = .ok (.getfield 7, 3) := by decide +kernel
theorem dX8_undoes_14 : decode cX8_undoes 14 = .ok (.bipush 18, 2) := by decide +kernel
theorem dX8_undoes_16 : decode cX8_undoes 16 = .ok (.iaload, 1) := by decide +kernel
theorem dX8_undoes_17 : decode cX8_undoes 17 = .ok (.iconst 1, 1) := by decide +kernel
theorem dX8_undoes_18 : decode cX8_undoes 18 = .ok (.aload_n 0, 1) := by decide +kernel
theorem dX8_undoes_19 : decode cX8_undoes 19 = .ok (.getfield 7, 3) := by decide +kernel
theorem dX8_undoes_22 : decode cX8_undoes 22 = .ok (.bipush 19, 2) := by decide +kernel
theorem dX8_undoes_24 : decode cX8_undoes 24 = .ok (.iload_n 1, 1) := by decide +kernel
theorem dX8_undoes_25 : decode cX8_undoes 25 = .ok (.iadd, 1) := by decide +kernel
theorem dX8_undoes_26 : decode cX8_undoes 26 = .ok (.iaload, 1) := by decide +kernel
theorem dX8_undoes_27 : decode cX8_undoes 27 = .ok (.ishl, 1) := by decide +kernel
theorem dX8_undoes_28 : decode cX8_undoes 28 = .ok (.ixor, 1) := by decide +kernel
theorem dX8_undoes_29 : decode cX8_undoes 29 = .ok (.istore_n 2, 1) := by decide +kernel
theorem dX8_undoes_30 : decode cX8_undoes 30 = .ok (.aload_n 0, 1) := by decide +kernel
theorem dX8_undoes_31 : decode cX8_undoes 31 = .ok (.iload_n 2, 1) := by decide +kernel
theorem dX8_undoes_32 : decode cX8_undoes 32 = .ok (.invokevirtual 153, 3) := by decide +kernel
theorem dX8_undoes_35 : decode cX8_undoes 35 = .ok (.ifCond .ne 6, 3) := by decide +kernel
theorem dX8_undoes_38 : decode cX8_undoes 38 = .ok (.bipush (-2), 2) := by decide +kernel
theorem dX8_undoes_40 : decode cX8_undoes 40 = .ok (.ireturn, 1) := by decide +kernel
theorem dX8_undoes_41 : decode cX8_undoes 41 = .ok (.aload_n 0, 1) := by decide +kernel
theorem dX8_undoes_42 : decode cX8_undoes 42 = .ok (.getfield 7, 3) := by decide +kernel
theorem dX8_undoes_45 : decode cX8_undoes 45 = .ok (.bipush 18, 2) := by decide +kernel
theorem dX8_undoes_47 : decode cX8_undoes 47 = .ok (.iload_n 2, 1) := by decide +kernel
theorem dX8_undoes_48 : decode cX8_undoes 48 = .ok (.iastore, 1) := by decide +kernel
theorem dX8_undoes_49 : decode cX8_undoes 49 = .ok (.iload_n 2, 1) := by decide +kernel
theorem dX8_undoes_50 : decode cX8_undoes 50 = .ok (.ireturn, 1) := by decide +kernel
theorem dX8_undo_0 : decode cX8_undo 0 = .ok (.aload_n 0, 1) := by decide +kernel
theorem dX8_undo_1 : decode cX8_undo 1 = .ok (.iload_n 1, 1) := by decide +kernel
theorem dX8_undo_2 : decode cX8_undo 2 = .ok (.invokevirtual 183, 3) := by decide +kernel
theorem dX8_undo_5 : decode cX8_undo 5 = .ok (.ireturn, 1) := by decide +kernel
theorem dX8_go_0 : decode cX8_go 0 = .ok (.iload_n 1, 1) := by decide +kernel
theorem dX8_go_1 : decode cX8_go 1 = .ok (.i2l, 1) := by decide +kernel
theorem dX8_go_2 : decode cX8_go 2 = .ok (.lconst 0, 1) := by decide +kernel
theorem dX8_go_3 : decode cX8_go 3 = .ok (.ldc2_w 186, 3) := by decide +kernel
theorem dX8_go_6 : decode cX8_go 6 = .ok (.invokestatic 46, 3) := by decide +kernel
theorem dX8_go_9 : decode cX8_go 9 = .ok (.ifCond .ne 5, 3) := by decide +kernel
theorem dX8_go_12 : decode cX8_go 12 = .ok (.iconst (-1), 1) := by decide +kernel
theorem dX8_go_13 : decode cX8_go 13 = .ok (.ireturn, 1) := by decide +kernel
theorem dX8_go_14 : decode cX8_go 14 = .ok (.aload_n 0, 1) := by decide +kernel
theorem dX8_go_15 : decode cX8_go 15 = .ok (.getfield 7, 3) := by decide +kernel
theorem dX8_go_18 : decode cX8_go 18 = .ok (.bipush 36, 2) := by decide +kernel
theorem dX8_go_20 : decode cX8_go 20 = .ok (.iaload, 1) := by decide +kernel
theorem dX8_go_21 : decode cX8_go 21 = .ok (.iload_n 1, 1) := by decide +kernel
theorem dX8_go_22 : decode cX8_go 22 = .ok (.iadd, 1) := by decide +kernel
theorem dX8_go_23 : decode cX8_go 23 = .ok (.sipush 999, 3) := by decide +kernel
theorem dX8_go_26 : decode cX8_go 26 = .ok (.if_icmp .le 6, 3) := by decide +kernel
theorem dX8_go_29 : decode cX8_go 29 = .ok (.bipush (-3), 2) := by decide +kernel
theorem dX8_go_31 : decode cX8_go 31 = .ok (.ireturn, 1) := by decide +kernel
theorem dX8_go_32 : decode cX8_go 32 = .ok (.aload_n 0, 1) := by decide +kernel
theorem dX8_go_33 : decode cX8_go 33 = .ok (.getfield 7, 3) := by decide +kernel
theorem dX8_go_36 : decode cX8_go 36 = .ok (.bipush 18, 2) := by decide +kernel
theorem dX8_go_38 : decode cX8_go 38 = .ok (.aload_n 0, 1) := by decide +kernel
theorem dX8_go_39 : decode cX8_go 39 = .ok (.aload_n 0, 1) := by decide +kernel
theorem dX8_go_40 : decode cX8_go 40 = .ok (.getfield 7, 3) := by decide +kernel
theorem dX8_go_43 : decode cX8_go 43 = .ok (.bipush 18, 2) := by decide +kernel
theorem dX8_go_45 : decode cX8_go 45 = .ok (.iaload, 1) := by decide +kernel
theorem dX8_go_46 : decode cX8_go 46 = .ok (.iload_n 1, 1) := by decide +kernel
theorem dX8_go_47 : decode cX8_go 47 = .ok (.invokevirtual 188, 3) := by decide +kernel
theorem dX8_go_50 : decode cX8_go 50 = .ok (.iastore, 1) := by decide +kernel
theorem dX8_go_51 : decode cX8_go 51 = .ok (.aload_n 0, 1) := by decide +kernel
theorem dX8_go_52 : decode cX8_go 52 = .ok (.getfield 7, 3) := by decide +kernel
theorem dX8_go_55 : decode cX8_go 55 = .ok (.bipush 36, 2) := by decide +kernel
theorem dX8_go_57 : decode cX8_go 57 = .ok (.dup2, 1) := by decide +kernel
theorem dX8_go_58 : decode cX8_go 58 = .ok (.iaload, 1) := by decide +kernel
theorem dX8_go_59 : decode cX8_go 59 = .ok (.iload_n 1, 1) := by decide +kernel
theorem dX8_go_60 : decode cX8_go 60 = .ok (.iadd, 1) := by decide +kernel
theorem dX8_go_61 : decode cX8_go 61 = .ok (.iastore, 1) := by decide +kernel
theorem dX8_go_62 : decode cX8_go 62 = .ok (.aload_n 0, 1) := by decide +kernel
theorem dX8_go_63 : decode cX8_go 63 = .ok (.getfield 7, 3) := by decide +kernel
theorem dX8_go_66 : decode cX8_go 66 = .ok (.bipush 18, 2) := by decide +kernel
theorem dX8_go_68 : decode cX8_go 68 = .ok (.iaload, 1) := by decide +kernel
theorem dX8_go_69 : decode cX8_go 69 = .ok (.ireturn, 1) := by decide +kernel
theorem dX8_ahead_0 : decode cX8_ahead 0 = .ok (.iload_n 1, 1) := by decide +kernel
theorem dX8_ahead_1 : decode cX8_ahead 1 = .ok (.i2l, 1) := by decide +kernel
theorem dX8_ahead_2 : decode cX8_ahead 2 = .ok (.lconst 0, 1) := by decide +kernel
theorem dX8_ahead_3 : decode cX8_ahead 3 = .ok (.ldc2_w 186, 3) := by decide +kernel
theorem dX8_ahead_6 : decode cX8_ahead 6 = .ok (.invokestatic 46, 3) := by decide +kernel
theorem dX8_ahead_9 : decode cX8_ahead 9 = .ok (.ifCond .eq 18, 3) := by decide +kernel
theorem dX8_ahead_12 : decode cX8_ahead 12 = .ok (.aload_n 0, 1) := by decide +kernel
theorem dX8_ahead_13 : decode cX8_ahead 13 = .ok (.aload_n 0, 1) := by decide +kernel
theorem dX8_ahead_14 : decode cX8_ahead 14 = .ok (.getfield 7, 3) := by decide +kernel
theorem dX8_ahead_17 : decode cX8_ahead 17 = .ok (.bipush 18, 2) := by decide +kernel
theorem dX8_ahead_19 : decode cX8_ahead 19 = .ok (.iaload, 1) := by decide +kernel
theorem dX8_ahead_20 : decode cX8_ahead 20 = .ok (.iload_n 1, 1) := by decide +kernel
theorem dX8_ahead_21 : decode cX8_ahead 21 = .ok (.invokevirtual 188, 3) := by decide +kernel
theorem dX8_ahead_24 : decode cX8_ahead 24 = .ok (.goto 4, 3) := by decide +kernel
theorem dX8_ahead_27 : decode cX8_ahead 27 = .ok (.iconst (-1), 1) := by decide +kernel
theorem dX8_ahead_28 : decode cX8_ahead 28 = .ok (.ireturn, 1) := by decide +kernel
theorem dX8_next_0 : decode cX8_next 0 = .ok (.aload_n 0, 1) := by decide +kernel
theorem dX8_next_1 : decode cX8_next 1 = .ok (.iload_n 1, 1) := by decide +kernel
theorem dX8_next_2 : decode cX8_next 2 = .ok (.invokevirtual 191, 3) := by decide +kernel
theorem dX8_next_5 : decode cX8_next 5 = .ok (.ifCond .eq 11, 3) := by decide +kernel
theorem dX8_next_8 : decode cX8_next 8 = .ok (.aload_n 0, 1) := by decide +kernel
theorem dX8_next_9 : decode cX8_next 9 = .ok (.iload_n 1, 1) := by decide +kernel
theorem dX8_next_10 : decode cX8_next 10 = .ok (.invokevirtual 147, 3) := by decide +kernel
theorem dX8_next_13 : decode cX8_next 13 = .ok (.goto 4, 3) := by decide +kernel
theorem dX8_next_16 : decode cX8_next 16 = .ok (.iconst (-1), 1) := by decide +kernel
theorem dX8_next_17 : decode cX8_next 17 = .ok (.ireturn, 1) := by decide +kernel
theorem dX8_ringOf_0 : decode cX8_ringOf 0 = .ok (.iload_n 1, 1) := by decide +kernel
theorem dX8_ringOf_1 : decode cX8_ringOf 1 = .ok (.istore_n 2, 1) := by decide +kernel
theorem dX8_ringOf_2 : decode cX8_ringOf 2 = .ok (.iconst 1, 1) := by decide +kernel
theorem dX8_ringOf_3 : decode cX8_ringOf 3 = .ok (.istore_n 3, 1) := by decide +kernel
theorem dX8_ringOf_4 : decode cX8_ringOf 4 = .ok (.iload_n 3, 1) := by decide +kernel
theorem dX8_ringOf_5 : decode cX8_ringOf 5 = .ok (.aload_n 0, 1) := by decide +kernel
theorem dX8_ringOf_6 : decode cX8_ringOf 6 = .ok (.invokevirtual 134, 3) := by decide +kernel
theorem dX8_ringOf_9 : decode cX8_ringOf 9 = .ok (.if_icmp .gt 22, 3) := by decide +kernel
theorem dX8_ringOf_12 : decode cX8_ringOf 12 = .ok (.aload_n 0, 1) := by decide +kernel
theorem dX8_ringOf_13 : decode cX8_ringOf 13 = .ok (.iload_n 2, 1) := by decide +kernel
theorem dX8_ringOf_14 : decode cX8_ringOf 14 = .ok (.invokevirtual 147, 3) := by decide +kernel
theorem dX8_ringOf_17 : decode cX8_ringOf 17 = .ok (.istore_n 2, 1) := by decide +kernel
theorem dX8_ringOf_18 : decode cX8_ringOf 18 = .ok (.iload_n 2, 1) := by decide +kernel
theorem dX8_ringOf_19 : decode cX8_ringOf 19 = .ok (.iload_n 1, 1) := by decide +kernel
theorem dX8_ringOf_20 : decode cX8_ringOf 20 = .ok (.if_icmp .ne 5, 3) := by decide +kernel
theorem dX8_ringOf_23 : decode cX8_ringOf 23 = .ok (.iload_n 3, 1) := by decide +kernel
theorem dX8_ringOf_24 : decode cX8_ringOf 24 = .ok (.ireturn, 1) := by decide +kernel
theorem dX8_ringOf_25 : decode cX8_ringOf 25 = .ok (.iinc 3 1, 3) := by decide +kernel
theorem dX8_ringOf_28 : decode cX8_ringOf 28 = .ok (.goto (-24), 3) := by decide +kernel
theorem dX8_ringOf_31 : decode cX8_ringOf 31 = .ok (.iconst 0, 1) := by decide +kernel
theorem dX8_ringOf_32 : decode cX8_ringOf 32 = .ok (.ireturn, 1) := by decide +kernel
theorem dX8_ring_0 : decode cX8_ring 0 = .ok (.iload_n 1, 1) := by decide +kernel
theorem dX8_ring_1 : decode cX8_ring 1 = .ok (.i2l, 1) := by decide +kernel
theorem dX8_ring_2 : decode cX8_ring 2 = .ok (.lconst 0, 1) := by decide +kernel
theorem dX8_ring_3 : decode cX8_ring 3 = .ok (.ldc2_w 194, 3) := by decide +kernel
theorem dX8_ring_6 : decode cX8_ring 6 = .ok (.invokestatic 46, 3) := by decide +kernel
theorem dX8_ring_9 : decode cX8_ring 9 = .ok (.ifCond .ne 5, 3) := by decide +kernel
theorem dX8_ring_12 : decode cX8_ring 12 = .ok (.iconst (-1), 1) := by decide +kernel
theorem dX8_ring_13 : decode cX8_ring 13 = .ok (.ireturn, 1) := by decide +kernel
theorem dX8_ring_14 : decode cX8_ring 14 = .ok (.aload_n 0, 1) := by decide +kernel
theorem dX8_ring_15 : decode cX8_ring 15 = .ok (.getfield 7, 3) := by decide +kernel
theorem dX8_ring_18 : decode cX8_ring 18 = .ok (.bipush 18, 2) := by decide +kernel
theorem dX8_ring_20 : decode cX8_ring 20 = .ok (.iaload, 1) := by decide +kernel
theorem dX8_ring_21 : decode cX8_ring 21 = .ok (.istore_n 2, 1) := by decide +kernel
theorem dX8_ring_22 : decode cX8_ring 22 = .ok (.iconst 0, 1) := by decide +kernel
theorem dX8_ring_23 : decode cX8_ring 23 = .ok (.istore_n 3, 1) := by decide +kernel
theorem dX8_ring_24 : decode cX8_ring 24 = .ok (.aload_n 0, 1) := by decide +kernel
theorem dX8_ring_25 : decode cX8_ring 25 = .ok (.iload_n 2, 1) := by decide +kernel
theorem dX8_ring_26 : decode cX8_ring 26 = .ok (.invokevirtual 196, 3) := by decide +kernel
theorem dX8_ring_29 : decode cX8_ring 29 = .ok (.ifCond .ne 15, 3) := by decide +kernel
theorem dX8_ring_32 : decode cX8_ring 32 = .ok (.aload_n 0, 1) := by decide +kernel
theorem dX8_ring_33 : decode cX8_ring 33 = .ok (.iload_n 2, 1) := by decide +kernel
theorem dX8_ring_34 : decode cX8_ring 34 = .ok (.invokevirtual 147, 3) := by decide +kernel
theorem dX8_ring_37 : decode cX8_ring 37 = .ok (.istore_n 2, 1) := by decide +kernel
theorem dX8_ring_38 : decode cX8_ring 38 = .ok (.iinc 3 1, 3) := by decide +kernel
theorem dX8_ring_41 : decode cX8_ring 41 = .ok (.goto (-17), 3) := by decide +kernel
theorem dX8_ring_44 : decode cX8_ring 44 = .ok (.iload_n 2, 1) := by decide +kernel
theorem dX8_ring_45 : decode cX8_ring 45 = .ok (.istore 4, 2) := by decide +kernel
theorem dX8_ring_47 : decode cX8_ring 47 = .ok (.iload_n 2, 1) := by decide +kernel
theorem dX8_ring_48 : decode cX8_ring 48 = .ok (.istore 5, 2) := by decide +kernel
theorem dX8_ring_50 : decode cX8_ring 50 = .ok (.iconst 1, 1) := by decide +kernel
theorem dX8_ring_51 : decode cX8_ring 51 = .ok (.istore 6, 2) := by decide +kernel
theorem dX8_ring_53 : decode cX8_ring 53 = .ok (.iload 6, 2) := by decide +kernel
theorem dX8_ring_55 : decode cX8_ring 55 = .ok (.aload_n 0, 1) := by decide +kernel
theorem dX8_ring_56 : decode cX8_ring 56 = .ok (.iload_n 2, 1) := by decide +kernel
theorem dX8_ring_57 : decode cX8_ring 57 = .ok (.invokevirtual 196, 3) := by decide +kernel
theorem dX8_ring_60 : decode cX8_ring 60 = .ok (.if_icmp .ge 33, 3) := by decide +kernel
theorem dX8_ring_63 : decode cX8_ring 63 = .ok (.iload 4, 2) := by decide +kernel
theorem dX8_ring_65 : decode cX8_ring 65 = .ok (.aload_n 0, 1) := by decide +kernel
theorem dX8_ring_66 : decode cX8_ring 66 = .ok (.iload_n 2, 1) := by decide +kernel
theorem dX8_ring_67 : decode cX8_ring 67 = .ok (.iload 6, 2) := by decide +kernel
theorem dX8_ring_69 : decode cX8_ring 69 = .ok (.invokevirtual 188, 3) := by decide +kernel
theorem dX8_ring_72 : decode cX8_ring 72 = .ok (.iand, 1) := by decide +kernel
theorem dX8_ring_73 : decode cX8_ring 73 = .ok (.istore 4, 2) := by decide +kernel
theorem dX8_ring_75 : decode cX8_ring 75 = .ok (.iload 5, 2) := by decide +kernel
theorem dX8_ring_77 : decode cX8_ring 77 = .ok (.aload_n 0, 1) := by decide +kernel
theorem dX8_ring_78 : decode cX8_ring 78 = .ok (.iload_n 2, 1) := by decide +kernel
theorem dX8_ring_79 : decode cX8_ring 79 = .ok (.iload 6, 2) := by decide +kernel
theorem dX8_ring_81 : decode cX8_ring 81 = .ok (.invokevirtual 188, 3) := by decide +kernel
theorem dX8_ring_84 : decode cX8_ring 84 = .ok (.ior, 1) := by decide +kernel
theorem dX8_ring_85 : decode cX8_ring 85 = .ok (.istore 5, 2) := by decide +kernel
theorem dX8_ring_87 : decode cX8_ring 87 = .ok (.iinc 6 1, 3) := by decide +kernel
theorem dX8_ring_90 : decode cX8_ring 90 = .ok (.goto (-37), 3) := by decide +kernel
theorem dX8_ring_93 : decode cX8_ring 93 = .ok (.iload_n 1, 1) := by decide +kernel
theorem dX8_ring_94 : decode cX8_ring 94 = .ok (.ifCond .ne 7, 3) := by decide +kernel
theorem dX8_ring_97 : decode cX8_ring 97 = .ok (.iload_n 3, 1) := by decide +kernel
theorem dX8_ring_98 : decode cX8_ring 98 = .ok (.goto 28, 3) := by decide +kernel
theorem dX8_ring_101 : decode cX8_ring 101 = .ok (.iload_n 1, 1) := by decide +kernel
theorem dX8_ring_102 : decode cX8_ring 102 = .ok (.iconst 1, 1) := by decide +kernel
theorem dX8_ring_103 : decode cX8_ring 103 = .ok (.if_icmp .ne 11, 3) := by decide +kernel
theorem dX8_ring_106 : decode cX8_ring 106 = .ok (.aload_n 0, 1) := by decide +kernel
theorem dX8_ring_107 : decode cX8_ring 107 = .ok (.iload_n 2, 1) := by decide +kernel
theorem dX8_ring_108 : decode cX8_ring 108 = .ok (.invokevirtual 196, 3) := by decide +kernel
theorem dX8_ring_111 : decode cX8_ring 111 = .ok (.goto 15, 3) := by decide +kernel
theorem dX8_ring_114 : decode cX8_ring 114 = .ok (.iload_n 1, 1) := by decide +kernel
theorem dX8_ring_115 : decode cX8_ring 115 = .ok (.iconst 2, 1) := by decide +kernel
theorem dX8_ring_116 : decode cX8_ring 116 = .ok (.if_icmp .ne 8, 3) := by decide +kernel
theorem dX8_ring_119 : decode cX8_ring 119 = .ok (.iload 4, 2) := by decide +kernel
theorem dX8_ring_121 : decode cX8_ring 121 = .ok (.goto 5, 3) := by decide +kernel
theorem dX8_ring_124 : decode cX8_ring 124 = .ok (.iload 5, 2) := by decide +kernel
theorem dX8_ring_126 : decode cX8_ring 126 = .ok (.ireturn, 1) := by decide +kernel
theorem dX8_rings_0 : decode cX8_rings 0 = .ok (.iload_n 1, 1) := by decide +kernel
theorem dX8_rings_1 : decode cX8_rings 1 = .ok (.i2l, 1) := by decide +kernel
theorem dX8_rings_2 : decode cX8_rings 2 = .ok (.lconst 0, 1) := by decide +kernel
theorem dX8_rings_3 : decode cX8_rings 3 = .ok (.ldc2_w 194, 3) := by decide +kernel
theorem dX8_rings_6 : decode cX8_rings 6 = .ok (.invokestatic 46, 3) := by decide +kernel
theorem dX8_rings_9 : decode cX8_rings 9 = .ok (.ifCond .ne 5, 3) := by decide +kernel
theorem dX8_rings_12 : decode cX8_rings 12 = .ok (.iconst (-1), 1) := by decide +kernel
theorem dX8_rings_13 : decode cX8_rings 13 = .ok (.ireturn, 1) := by decide +kernel
theorem dX8_rings_14 : decode cX8_rings 14 = .ok (.iconst 0, 1) := by decide +kernel
theorem dX8_rings_15 : decode cX8_rings 15 = .ok (.istore_n 2, 1) := by decide +kernel
theorem dX8_rings_16 : decode cX8_rings 16 = .ok (.ldc 199, 2) := by decide +kernel
theorem dX8_rings_18 : decode cX8_rings 18 = .ok (.istore_n 3, 1) := by decide +kernel
theorem dX8_rings_19 : decode cX8_rings 19 = .ok (.iconst 0, 1) := by decide +kernel
theorem dX8_rings_20 : decode cX8_rings 20 = .ok (.istore 4, 2) := by decide +kernel
theorem dX8_rings_22 : decode cX8_rings 22 = .ok (.iconst 0, 1) := by decide +kernel
theorem dX8_rings_23 : decode cX8_rings 23 = .ok (.istore 5, 2) := by decide +kernel
theorem dX8_rings_25 : decode cX8_rings 25 = .ok (.iconst 0, 1) := by decide +kernel
theorem dX8_rings_26 : decode cX8_rings 26 = .ok (.istore 6, 2) := by decide +kernel
theorem dX8_rings_28 : decode cX8_rings 28 = .ok (.iload 6, 2) := by decide +kernel
theorem dX8_rings_30 : decode cX8_rings 30 = .ok (.aload_n 0, 1) := by decide +kernel
theorem dX8_rings_31 : decode cX8_rings 31 = .ok (.invokevirtual 134, 3) := by decide +kernel
theorem dX8_rings_34 : decode cX8_rings 34 = .ok (.if_icmp .ge 137, 3) := by decide +kernel
theorem dX8_rings_37 : decode cX8_rings 37 = .ok (.aload_n 0, 1) := by decide +kernel
theorem dX8_rings_38 : decode cX8_rings 38 = .ok (.iload 6, 2) := by decide +kernel
theorem dX8_rings_40 : decode cX8_rings 40 = .ok (.invokevirtual 196, 3) := by decide +kernel
theorem dX8_rings_43 : decode cX8_rings 43 = .ok (.istore 7, 2) := by decide +kernel
theorem dX8_rings_45 : decode cX8_rings 45 = .ok (.iload 7, 2) := by decide +kernel
theorem dX8_rings_47 : decode cX8_rings 47 = .ok (.ifCond .le 7, 3) := by decide +kernel
theorem dX8_rings_50 : decode cX8_rings 50 = .ok (.iconst 1, 1) := by decide +kernel
theorem dX8_rings_51 : decode cX8_rings 51 = .ok (.goto 4, 3) := by decide +kernel
theorem dX8_rings_54 : decode cX8_rings 54 = .ok (.iconst 0, 1) := by decide +kernel
theorem dX8_rings_55 : decode cX8_rings 55 = .ok (.istore 8, 2) := by decide +kernel
theorem dX8_rings_57 : decode cX8_rings 57 = .ok (.iconst 1, 1) := by decide +kernel
theorem dX8_rings_58 : decode cX8_rings 58 = .ok (.istore 9, 2) := by decide +kernel
theorem dX8_rings_60 : decode cX8_rings 60 = .ok (.iload 9, 2) := by decide +kernel
theorem dX8_rings_62 : decode cX8_rings 62 = .ok (.iload 7, 2) := by decide +kernel
theorem dX8_rings_64 : decode cX8_rings 64 = .ok (.if_icmp .ge 34, 3) := by decide +kernel
theorem dX8_rings_67 : decode cX8_rings 67 = .ok (.iload 8, 2) := by decide +kernel
theorem dX8_rings_69 : decode cX8_rings 69 = .ok (.ifCond .eq 20, 3) := by decide +kernel
theorem dX8_rings_72 : decode cX8_rings 72 = .ok (.aload_n 0, 1) := by decide +kernel
theorem dX8_rings_73 : decode cX8_rings 73 = .ok (.iload 6, 2) := by decide +kernel
theorem dX8_rings_75 : decode cX8_rings 75 = .ok (.iload 9, 2) := by decide +kernel
theorem dX8_rings_77 : decode cX8_rings 77 = .ok (.invokevirtual 188, 3) := by decide +kernel
theorem dX8_rings_80 : decode cX8_rings 80 = .ok (.iload 6, 2) := by decide +kernel
theorem dX8_rings_82 : decode cX8_rings 82 = .ok (.if_icmp .le 7, 3) := by decide +kernel
theorem dX8_rings_85 : decode cX8_rings 85 = .ok (.iconst 1, 1) := by decide +kernel
theorem dX8_rings_86 : decode cX8_rings 86 = .ok (.goto 4, 3) := by decide +kernel
theorem dX8_rings_89 : decode cX8_rings 89 = .ok (.iconst 0, 1) := by decide +kernel
theorem dX8_rings_90 : decode cX8_rings 90 = .ok (.istore 8, 2) := by decide +kernel
theorem dX8_rings_92 : decode cX8_rings 92 = .ok (.iinc 9 1, 3) := by decide +kernel
theorem dX8_rings_95 : decode cX8_rings 95 = .ok (.goto (-35), 3) := by decide +kernel
theorem dX8_rings_98 : decode cX8_rings 98 = .ok (.iload_n 2, 1) := by decide +kernel
theorem dX8_rings_99 : decode cX8_rings 99 = .ok (.iload 8, 2) := by decide +kernel
theorem dX8_rings_101 : decode cX8_rings 101 = .ok (.ifCond .eq 7, 3) := by decide +kernel
theorem dX8_rings_104 : decode cX8_rings 104 = .ok (.iconst 1, 1) := by decide +kernel
theorem dX8_rings_105 : decode cX8_rings 105 = .ok (.goto 4, 3) := by decide +kernel
theorem dX8_rings_108 : decode cX8_rings 108 = .ok (.iconst 0, 1) := by decide +kernel
theorem dX8_rings_109 : decode cX8_rings 109 = .ok (.iadd, 1) := by decide +kernel
theorem dX8_rings_110 : decode cX8_rings 110 = .ok (.istore_n 2, 1) := by decide +kernel
theorem dX8_rings_111 : decode cX8_rings 111 = .ok (.iload 7, 2) := by decide +kernel
theorem dX8_rings_113 : decode cX8_rings 113 = .ok (.ifCond .le 14, 3) := by decide +kernel
theorem dX8_rings_116 : decode cX8_rings 116 = .ok (.iload 7, 2) := by decide +kernel
theorem dX8_rings_118 : decode cX8_rings 118 = .ok (.iload_n 3, 1) := by decide +kernel
theorem dX8_rings_119 : decode cX8_rings 119 = .ok (.if_icmp .ge 8, 3) := by decide +kernel
theorem dX8_rings_122 : decode cX8_rings 122 = .ok (.iload 6, 2) := by decide +kernel
theorem dX8_rings_124 : decode cX8_rings 124 = .ok (.goto 5, 3) := by decide +kernel
theorem dX8_rings_127 : decode cX8_rings 127 = .ok (.iload 4, 2) := by decide +kernel
theorem dX8_rings_129 : decode cX8_rings 129 = .ok (.istore 4, 2) := by decide +kernel
theorem dX8_rings_131 : decode cX8_rings 131 = .ok (.iload 7, 2) := by decide +kernel
theorem dX8_rings_133 : decode cX8_rings 133 = .ok (.ifCond .le 14, 3) := by decide +kernel
theorem dX8_rings_136 : decode cX8_rings 136 = .ok (.iload 7, 2) := by decide +kernel
theorem dX8_rings_138 : decode cX8_rings 138 = .ok (.iload_n 3, 1) := by decide +kernel
theorem dX8_rings_139 : decode cX8_rings 139 = .ok (.if_icmp .ge 8, 3) := by decide +kernel
theorem dX8_rings_142 : decode cX8_rings 142 = .ok (.iload 7, 2) := by decide +kernel
theorem dX8_rings_144 : decode cX8_rings 144 = .ok (.goto 4, 3) := by decide +kernel
theorem dX8_rings_147 : decode cX8_rings 147 = .ok (.iload_n 3, 1) := by decide +kernel
theorem dX8_rings_148 : decode cX8_rings 148 = .ok (.istore_n 3, 1) := by decide +kernel
theorem dX8_rings_149 : decode cX8_rings 149 = .ok (.iload 7, 2) := by decide +kernel
theorem dX8_rings_151 : decode cX8_rings 151 = .ok (.iload 5, 2) := by decide +kernel
theorem dX8_rings_153 : decode cX8_rings 153 = .ok (.if_icmp .le 8, 3) := by decide +kernel
theorem dX8_rings_156 : decode cX8_rings 156 = .ok (.iload 7, 2) := by decide +kernel
theorem dX8_rings_158 : decode cX8_rings 158 = .ok (.goto 5, 3) := by decide +kernel
theorem dX8_rings_161 : decode cX8_rings 161 = .ok (.iload 5, 2) := by decide +kernel
theorem dX8_rings_163 : decode cX8_rings 163 = .ok (.istore 5, 2) := by decide +kernel
theorem dX8_rings_165 : decode cX8_rings 165 = .ok (.iinc 6 1, 3) := by decide +kernel
theorem dX8_rings_168 : decode cX8_rings 168 = .ok (.goto (-140), 3) := by decide +kernel
theorem dX8_rings_171 : decode cX8_rings 171 = .ok (.iload_n 1, 1) := by decide +kernel
theorem dX8_rings_172 : decode cX8_rings 172 = .ok (.ifCond .ne 7, 3) := by decide +kernel
theorem dX8_rings_175 : decode cX8_rings 175 = .ok (.iload_n 2, 1) := by decide +kernel
theorem dX8_rings_176 : decode cX8_rings 176 = .ok (.goto 24, 3) := by decide +kernel
theorem dX8_rings_179 : decode cX8_rings 179 = .ok (.iload_n 1, 1) := by decide +kernel
theorem dX8_rings_180 : decode cX8_rings 180 = .ok (.iconst 1, 1) := by decide +kernel
theorem dX8_rings_181 : decode cX8_rings 181 = .ok (.if_icmp .ne 7, 3) := by decide +kernel
theorem dX8_rings_184 : decode cX8_rings 184 = .ok (.iload_n 3, 1) := by decide +kernel
theorem dX8_rings_185 : decode cX8_rings 185 = .ok (.goto 15, 3) := by decide +kernel
theorem dX8_rings_188 : decode cX8_rings 188 = .ok (.iload_n 1, 1) := by decide +kernel
theorem dX8_rings_189 : decode cX8_rings 189 = .ok (.iconst 2, 1) := by decide +kernel
theorem dX8_rings_190 : decode cX8_rings 190 = .ok (.if_icmp .ne 8, 3) := by decide +kernel
theorem dX8_rings_193 : decode cX8_rings 193 = .ok (.iload 4, 2) := by decide +kernel
theorem dX8_rings_195 : decode cX8_rings 195 = .ok (.goto 5, 3) := by decide +kernel
theorem dX8_rings_198 : decode cX8_rings 198 = .ok (.iload 5, 2) := by decide +kernel
theorem dX8_rings_200 : decode cX8_rings 200 = .ok (.ireturn, 1) := by decide +kernel
theorem dX8_tellsNone_0 : decode cX8_tellsNone 0 = .ok (.aload_n 0, 1) := by decide +kernel
theorem dX8_tellsNone_1 : decode cX8_tellsNone 1 = .ok (.iconst 0, 1) := by decide +kernel
theorem dX8_tellsNone_2 : decode cX8_tellsNone 2 = .ok (.putfield 200, 3) := by decide +kernel
theorem dX8_tellsNone_5 : decode cX8_tellsNone 5 = .ok (.aload_n 0, 1) := by decide +kernel
theorem dX8_tellsNone_6 : decode cX8_tellsNone 6 = .ok (.bipush (-4), 2) := by decide +kernel
theorem dX8_tellsNone_8 : decode cX8_tellsNone 8 = .ok (.putfield 203, 3) := by decide +kernel
theorem dX8_tellsNone_11 : decode cX8_tellsNone 11 = .ok (.aload_n 0, 1) := by decide +kernel
theorem dX8_tellsNone_12 : decode cX8_tellsNone 12 = .ok (.aload_n 0, 1) := by decide +kernel
theorem dX8_tellsNone_13 : decode cX8_tellsNone 13 = .ok (.invokevirtual 134, 3) := by decide +kernel
theorem dX8_tellsNone_16 : decode cX8_tellsNone 16 = .ok (.iconst 1, 1) := by decide +kernel
theorem dX8_tellsNone_17 : decode cX8_tellsNone 17 = .ok (.isub, 1) := by decide +kernel
theorem dX8_tellsNone_18 : decode cX8_tellsNone 18 = .ok (.putfield 206, 3) := by decide +kernel
theorem dX8_tellsNone_21 : decode cX8_tellsNone 21 = .ok (.aload_n 0, 1) := by decide +kernel
theorem dX8_tellsNone_22 : decode cX8_tellsNone 22 = .ok (.iconst 0, 1) := by decide +kernel
theorem dX8_tellsNone_23 : decode cX8_tellsNone 23 = .ok (.putfield 209, 3) := by decide +kernel
theorem dX8_tellsNone_26 : decode cX8_tellsNone 26 = .ok (.return_, 1) := by decide +kernel
theorem dX8_tells_0 : decode cX8_tells 0 = .ok (.aload_n 0, 1) := by decide +kernel
theorem dX8_tells_1 : decode cX8_tells 1 = .ok (.aload_n 0, 1) := by decide +kernel
theorem dX8_tells_2 : decode cX8_tells 2 = .ok (.getfield 200, 3) := by decide +kernel
theorem dX8_tells_5 : decode cX8_tells 5 = .ok (.ifCond .ne 7, 3) := by decide +kernel
theorem dX8_tells_8 : decode cX8_tells 8 = .ok (.iload_n 1, 1) := by decide +kernel
theorem dX8_tells_9 : decode cX8_tells 9 = .ok (.goto 7, 3) := by decide +kernel
theorem dX8_tells_12 : decode cX8_tells 12 = .ok (.aload_n 0, 1) := by decide +kernel
theorem dX8_tells_13 : decode cX8_tells 13 = .ok (.getfield 203, 3) := by decide +kernel
theorem dX8_tells_16 : decode cX8_tells 16 = .ok (.putfield 203, 3) := by decide +kernel
theorem dX8_tells_19 : decode cX8_tells 19 = .ok (.aload_n 0, 1) := by decide +kernel
theorem dX8_tells_20 : decode cX8_tells 20 = .ok (.dup, 1) := by decide +kernel
theorem dX8_tells_21 : decode cX8_tells 21 = .ok (.getfield 200, 3) := by decide +kernel
theorem dX8_tells_24 : decode cX8_tells 24 = .ok (.iconst 1, 1) := by decide +kernel
theorem dX8_tells_25 : decode cX8_tells 25 = .ok (.iadd, 1) := by decide +kernel
theorem dX8_tells_26 : decode cX8_tells 26 = .ok (.putfield 200, 3) := by decide +kernel
theorem dX8_tells_29 : decode cX8_tells 29 = .ok (.aload_n 0, 1) := by decide +kernel
theorem dX8_tells_30 : decode cX8_tells 30 = .ok (.dup, 1) := by decide +kernel
theorem dX8_tells_31 : decode cX8_tells 31 = .ok (.getfield 206, 3) := by decide +kernel
theorem dX8_tells_34 : decode cX8_tells 34 = .ok (.iload_n 1, 1) := by decide +kernel
theorem dX8_tells_35 : decode cX8_tells 35 = .ok (.iand, 1) := by decide +kernel
theorem dX8_tells_36 : decode cX8_tells 36 = .ok (.putfield 206, 3) := by decide +kernel
theorem dX8_tells_39 : decode cX8_tells 39 = .ok (.aload_n 0, 1) := by decide +kernel
theorem dX8_tells_40 : decode cX8_tells 40 = .ok (.dup, 1) := by decide +kernel
theorem dX8_tells_41 : decode cX8_tells 41 = .ok (.getfield 209, 3) := by decide +kernel
theorem dX8_tells_44 : decode cX8_tells 44 = .ok (.iload_n 1, 1) := by decide +kernel
theorem dX8_tells_45 : decode cX8_tells 45 = .ok (.ior, 1) := by decide +kernel
theorem dX8_tells_46 : decode cX8_tells 46 = .ok (.putfield 209, 3) := by decide +kernel
theorem dX8_tells_49 : decode cX8_tells 49 = .ok (.return_, 1) := by decide +kernel
theorem dX8_told_0 : decode cX8_told 0 = .ok (.iload_n 1, 1) := by decide +kernel
theorem dX8_told_1 : decode cX8_told 1 = .ok (.ifCond .ne 10, 3) := by decide +kernel
theorem dX8_told_4 : decode cX8_told 4 = .ok (.aload_n 0, 1) := by decide +kernel
theorem dX8_told_5 : decode cX8_told 5 = .ok (.getfield 200, 3) := by decide +kernel
theorem dX8_told_8 : decode cX8_told 8 = .ok (.goto 43, 3) := by decide +kernel
theorem dX8_told_11 : decode cX8_told 11 = .ok (.aload_n 0, 1) := by decide +kernel
theorem dX8_told_12 : decode cX8_told 12 = .ok (.getfield 200, 3) := by decide +kernel
theorem dX8_told_15 : decode cX8_told 15 = .ok (.ifCond .ne 8, 3) := by decide +kernel
theorem dX8_told_18 : decode cX8_told 18 = .ok (.bipush (-4), 2) := by decide +kernel
theorem dX8_told_20 : decode cX8_told 20 = .ok (.goto 31, 3) := by decide +kernel
theorem dX8_told_23 : decode cX8_told 23 = .ok (.iload_n 1, 1) := by decide +kernel
theorem dX8_told_24 : decode cX8_told 24 = .ok (.iconst 1, 1) := by decide +kernel
theorem dX8_told_25 : decode cX8_told 25 = .ok (.if_icmp .ne 10, 3) := by decide +kernel
theorem dX8_told_28 : decode cX8_told 28 = .ok (.aload_n 0, 1) := by decide +kernel
theorem dX8_told_29 : decode cX8_told 29 = .ok (.getfield 203, 3) := by decide +kernel
theorem dX8_told_32 : decode cX8_told 32 = .ok (.goto 19, 3) := by decide +kernel
theorem dX8_told_35 : decode cX8_told 35 = .ok (.iload_n 1, 1) := by decide +kernel
theorem dX8_told_36 : decode cX8_told 36 = .ok (.iconst 2, 1) := by decide +kernel
theorem dX8_told_37 : decode cX8_told 37 = .ok (.if_icmp .ne 10, 3) := by decide +kernel
theorem dX8_told_40 : decode cX8_told 40 = .ok (.aload_n 0, 1) := by decide +kernel
theorem dX8_told_41 : decode cX8_told 41 = .ok (.getfield 206, 3) := by decide +kernel
theorem dX8_told_44 : decode cX8_told 44 = .ok (.goto 7, 3) := by decide +kernel
theorem dX8_told_47 : decode cX8_told 47 = .ok (.aload_n 0, 1) := by decide +kernel
theorem dX8_told_48 : decode cX8_told 48 = .ok (.getfield 209, 3) := by decide +kernel
theorem dX8_told_51 : decode cX8_told 51 = .ok (.ireturn, 1) := by decide +kernel
theorem dX8_agreeMany_0 : decode cX8_agreeMany 0 = .ok (.aload_n 0, 1) := by decide +kernel
theorem dX8_agreeMany_1 : decode cX8_agreeMany 1 = .ok (.invokevirtual 212, 3) := by decide +kernel
theorem dX8_agreeMany_4 : decode cX8_agreeMany 4 = .ok (.iconst 0, 1) := by decide +kernel
theorem dX8_agreeMany_5 : decode cX8_agreeMany 5 = .ok (.istore_n 1, 1) := by decide +kernel
theorem dX8_agreeMany_6 : decode cX8_agreeMany 6 = .ok (.iload_n 1, 1) := by decide +kernel
theorem dX8_agreeMany_7 : decode cX8_agreeMany 7 = .ok (.aload_n 0, 1) := by decide +kernel
theorem dX8_agreeMany_8 : decode cX8_agreeMany 8 = .ok (.invokevirtual 134, 3) := by decide +kernel
theorem dX8_agreeMany_11 : decode cX8_agreeMany 11 = .ok (.if_icmp .ge 30, 3) := by decide +kernel
theorem dX8_agreeMany_14 : decode cX8_agreeMany 14 = .ok (.aload_n 0, 1) := by decide +kernel
theorem dX8_agreeMany_15 : decode cX8_agreeMany 15 = .ok (.iload_n 1, 1) := by decide +kernel
theorem dX8_agreeMany_16 : decode cX8_agreeMany 16 = .ok (.invokevirtual 157, 3) := by decide +kernel
theorem dX8_agreeMany_19 : decode cX8_agreeMany 19 = .ok (.ifCond .eq 16, 3) := by decide +kernel
theorem dX8_agreeMany_22 : decode cX8_agreeMany 22 = .ok (.aload_n 0, 1) := by decide +kernel
theorem dX8_agreeMany_23 : decode cX8_agreeMany 23 = .ok (.iload_n 1, 1) := by decide +kernel
theorem dX8_agreeMany_24 : decode cX8_agreeMany 24 = .ok (.invokevirtual 153, 3) := by decide +kernel
theorem dX8_agreeMany_27 : decode cX8_agreeMany 27 = .ok (.ifCond .eq 8, 3) := by decide +kernel
theorem dX8_agreeMany_30 : decode cX8_agreeMany 30 = .ok (.aload_n 0, 1) := by decide +kernel
theorem dX8_agreeMany_31 : decode cX8_agreeMany 31 = .ok (.iload_n 1, 1) := by decide +kernel
theorem dX8_agreeMany_32 : decode cX8_agreeMany 32 = .ok (.invokevirtual 215, 3) := by decide +kernel
theorem dX8_agreeMany_35 : decode cX8_agreeMany 35 = .ok (.iinc 1 1, 3) := by decide +kernel
theorem dX8_agreeMany_38 : decode cX8_agreeMany 38 = .ok (.goto (-32), 3) := by decide +kernel
theorem dX8_agreeMany_41 : decode cX8_agreeMany 41 = .ok (.aload_n 0, 1) := by decide +kernel
theorem dX8_agreeMany_42 : decode cX8_agreeMany 42 = .ok (.getfield 200, 3) := by decide +kernel
theorem dX8_agreeMany_45 : decode cX8_agreeMany 45 = .ok (.ireturn, 1) := by decide +kernel
theorem dX8_agree_0 : decode cX8_agree 0 = .ok (.iload_n 1, 1) := by decide +kernel
theorem dX8_agree_1 : decode cX8_agree 1 = .ok (.i2l, 1) := by decide +kernel
theorem dX8_agree_2 : decode cX8_agree 2 = .ok (.lconst 0, 1) := by decide +kernel
theorem dX8_agree_3 : decode cX8_agree 3 = .ok (.ldc2_w 194, 3) := by decide +kernel
theorem dX8_agree_6 : decode cX8_agree 6 = .ok (.invokestatic 46, 3) := by decide +kernel
theorem dX8_agree_9 : decode cX8_agree 9 = .ok (.ifCond .ne 5, 3) := by decide +kernel
theorem dX8_agree_12 : decode cX8_agree 12 = .ok (.iconst (-1), 1) := by decide +kernel
theorem dX8_agree_13 : decode cX8_agree 13 = .ok (.ireturn, 1) := by decide +kernel
theorem dX8_agree_14 : decode cX8_agree 14 = .ok (.aload_n 0, 1) := by decide +kernel
theorem dX8_agree_15 : decode cX8_agree 15 = .ok (.invokevirtual 218, 3) := by decide +kernel
theorem dX8_agree_18 : decode cX8_agree 18 = .ok (.pop, 1) := by decide +kernel
theorem dX8_agree_19 : decode cX8_agree 19 = .ok (.aload_n 0, 1) := by decide +kernel
theorem dX8_agree_20 : decode cX8_agree 20 = .ok (.iload_n 1, 1) := by decide +kernel
theorem dX8_agree_21 : decode cX8_agree 21 = .ok (.invokevirtual 221, 3) := by decide +kernel
theorem dX8_agree_24 : decode cX8_agree 24 = .ok (.ireturn, 1) := by decide +kernel
theorem dX8_comesOf_0 : decode cX8_comesOf 0 = .ok (.aload_n 0, 1) := by decide +kernel
theorem dX8_comesOf_1 : decode cX8_comesOf 1 = .ok (.invokevirtual 212, 3) := by decide +kernel
theorem dX8_comesOf_4 : decode cX8_comesOf 4 = .ok (.iconst 0, 1) := by decide +kernel
theorem dX8_comesOf_5 : decode cX8_comesOf 5 = .ok (.istore_n 2, 1) := by decide +kernel
theorem dX8_comesOf_6 : decode cX8_comesOf 6 = .ok (.iload_n 2, 1) := by decide +kernel
theorem dX8_comesOf_7 : decode cX8_comesOf 7 = .ok (.aload_n 0, 1) := by decide +kernel
theorem dX8_comesOf_8 : decode cX8_comesOf 8 = .ok (.invokevirtual 134, 3) := by decide +kernel
theorem dX8_comesOf_11 : decode cX8_comesOf 11 = .ok (.if_icmp .ge 23, 3) := by decide +kernel
theorem dX8_comesOf_14 : decode cX8_comesOf 14 = .ok (.aload_n 0, 1) := by decide +kernel
theorem dX8_comesOf_15 : decode cX8_comesOf 15 = .ok (.iload_n 2, 1) := by decide +kernel
theorem dX8_comesOf_16 : decode cX8_comesOf 16 = .ok (.invokevirtual 147, 3) := by decide +kernel
theorem dX8_comesOf_19 : decode cX8_comesOf 19 = .ok (.iload_n 1, 1) := by decide +kernel
theorem dX8_comesOf_20 : decode cX8_comesOf 20 = .ok (.if_icmp .ne 8, 3) := by decide +kernel
theorem dX8_comesOf_23 : decode cX8_comesOf 23 = .ok (.aload_n 0, 1) := by decide +kernel
theorem dX8_comesOf_24 : decode cX8_comesOf 24 = .ok (.iload_n 2, 1) := by decide +kernel
theorem dX8_comesOf_25 : decode cX8_comesOf 25 = .ok (.invokevirtual 215, 3) := by decide +kernel
theorem dX8_comesOf_28 : decode cX8_comesOf 28 = .ok (.iinc 2 1, 3) := by decide +kernel
theorem dX8_comesOf_31 : decode cX8_comesOf 31 = .ok (.goto (-25), 3) := by decide +kernel
theorem dX8_comesOf_34 : decode cX8_comesOf 34 = .ok (.return_, 1) := by decide +kernel
theorem dX8_before_0 : decode cX8_before 0 = .ok (.aload_n 0, 1) := by decide +kernel
theorem dX8_before_1 : decode cX8_before 1 = .ok (.iload_n 1, 1) := by decide +kernel
theorem dX8_before_2 : decode cX8_before 2 = .ok (.invokevirtual 191, 3) := by decide +kernel
theorem dX8_before_5 : decode cX8_before 5 = .ok (.ifCond .eq 13, 3) := by decide +kernel
theorem dX8_before_8 : decode cX8_before 8 = .ok (.iload_n 2, 1) := by decide +kernel
theorem dX8_before_9 : decode cX8_before 9 = .ok (.i2l, 1) := by decide +kernel
theorem dX8_before_10 : decode cX8_before 10 = .ok (.lconst 0, 1) := by decide +kernel
theorem dX8_before_11 : decode cX8_before 11 = .ok (.lconst 1, 1) := by decide +kernel
theorem dX8_before_12 : decode cX8_before 12 = .ok (.invokestatic 46, 3) := by decide +kernel
theorem dX8_before_15 : decode cX8_before 15 = .ok (.ifCond .ne 5, 3) := by decide +kernel
theorem dX8_before_18 : decode cX8_before 18 = .ok (.iconst (-1), 1) := by decide +kernel
theorem dX8_before_19 : decode cX8_before 19 = .ok (.ireturn, 1) := by decide +kernel
theorem dX8_before_20 : decode cX8_before 20 = .ok (.aload_n 0, 1) := by decide +kernel
theorem dX8_before_21 : decode cX8_before 21 = .ok (.iload_n 1, 1) := by decide +kernel
theorem dX8_before_22 : decode cX8_before 22 = .ok (.invokevirtual 224, 3) := by decide +kernel
theorem dX8_before_25 : decode cX8_before 25 = .ok (.aload_n 0, 1) := by decide +kernel
theorem dX8_before_26 : decode cX8_before 26 = .ok (.iload_n 2, 1) := by decide +kernel
theorem dX8_before_27 : decode cX8_before 27 = .ok (.invokevirtual 221, 3) := by decide +kernel
theorem dX8_before_30 : decode cX8_before 30 = .ok (.ireturn, 1) := by decide +kernel
theorem dX8_gardens_0 : decode cX8_gardens 0 = .ok (.iconst 0, 1) := by decide +kernel
theorem dX8_gardens_1 : decode cX8_gardens 1 = .ok (.istore_n 1, 1) := by decide +kernel
theorem dX8_gardens_2 : decode cX8_gardens 2 = .ok (.iconst 0, 1) := by decide +kernel
theorem dX8_gardens_3 : decode cX8_gardens 3 = .ok (.istore_n 2, 1) := by decide +kernel
theorem dX8_gardens_4 : decode cX8_gardens 4 = .ok (.iload_n 2, 1) := by decide +kernel
theorem dX8_gardens_5 : decode cX8_gardens 5 = .ok (.aload_n 0, 1) := by decide +kernel
theorem dX8_gardens_6 : decode cX8_gardens 6 = .ok (.invokevirtual 134, 3) := by decide +kernel
theorem dX8_gardens_9 : decode cX8_gardens 9 = .ok (.if_icmp .ge 29, 3) := by decide +kernel
theorem dX8_gardens_12 : decode cX8_gardens 12 = .ok (.aload_n 0, 1) := by decide +kernel
theorem dX8_gardens_13 : decode cX8_gardens 13 = .ok (.iload_n 2, 1) := by decide +kernel
theorem dX8_gardens_14 : decode cX8_gardens 14 = .ok (.invokevirtual 224, 3) := by decide +kernel
theorem dX8_gardens_17 : decode cX8_gardens 17 = .ok (.iload_n 1, 1) := by decide +kernel
theorem dX8_gardens_18 : decode cX8_gardens 18 = .ok (.aload_n 0, 1) := by decide +kernel
theorem dX8_gardens_19 : decode cX8_gardens 19 = .ok (.getfield 200, 3) := by decide +kernel
theorem dX8_gardens_22 : decode cX8_gardens 22 = .ok (.ifCond .ne 7, 3) := by decide +kernel
theorem dX8_gardens_25 : decode cX8_gardens 25 = .ok (.iconst 1, 1) := by decide +kernel
theorem dX8_gardens_26 : decode cX8_gardens 26 = .ok (.goto 4, 3) := by decide +kernel
theorem dX8_gardens_29 : decode cX8_gardens 29 = .ok (.iconst 0, 1) := by decide +kernel
theorem dX8_gardens_30 : decode cX8_gardens 30 = .ok (.iadd, 1) := by decide +kernel
theorem dX8_gardens_31 : decode cX8_gardens 31 = .ok (.istore_n 1, 1) := by decide +kernel
theorem dX8_gardens_32 : decode cX8_gardens 32 = .ok (.iinc 2 1, 3) := by decide +kernel
theorem dX8_gardens_35 : decode cX8_gardens 35 = .ok (.goto (-31), 3) := by decide +kernel
theorem dX8_gardens_38 : decode cX8_gardens 38 = .ok (.iload_n 1, 1) := by decide +kernel
theorem dX8_gardens_39 : decode cX8_gardens 39 = .ok (.ireturn, 1) := by decide +kernel
theorem dX8_clash_0 : decode cX8_clash 0 = .ok (.aload_n 0, 1) := by decide +kernel
theorem dX8_clash_1 : decode cX8_clash 1 = .ok (.getfield 7, 3) := by decide +kernel
theorem dX8_clash_4 : decode cX8_clash 4 = .ok (.bipush 18, 2) := by decide +kernel
theorem dX8_clash_6 : decode cX8_clash 6 = .ok (.iaload, 1) := by decide +kernel
theorem dX8_clash_7 : decode cX8_clash 7 = .ok (.istore_n 1, 1) := by decide +kernel
theorem dX8_clash_8 : decode cX8_clash 8 = .ok (.iconst 0, 1) := by decide +kernel
theorem dX8_clash_9 : decode cX8_clash 9 = .ok (.istore_n 2, 1) := by decide +kernel
theorem dX8_clash_10 : decode cX8_clash 10 = .ok (.iload_n 2, 1) := by decide +kernel
theorem dX8_clash_11 : decode cX8_clash 11 = .ok (.bipush 99, 2) := by decide +kernel
theorem dX8_clash_13 : decode cX8_clash 13 = .ok (.if_icmp .gt 25, 3) := by decide +kernel
theorem dX8_clash_16 : decode cX8_clash 16 = .ok (.aload_n 0, 1) := by decide +kernel
theorem dX8_clash_17 : decode cX8_clash 17 = .ok (.iload_n 1, 1) := by decide +kernel
theorem dX8_clash_18 : decode cX8_clash 18 = .ok (.invokevirtual 153, 3) := by decide +kernel
theorem dX8_clash_21 : decode cX8_clash 21 = .ok (.ifCond .ne 5, 3) := by decide +kernel
theorem dX8_clash_24 : decode cX8_clash 24 = .ok (.iload_n 2, 1) := by decide +kernel
theorem dX8_clash_25 : decode cX8_clash 25 = .ok (.ireturn, 1) := by decide +kernel
theorem dX8_clash_26 : decode cX8_clash 26 = .ok (.aload_n 0, 1) := by decide +kernel
theorem dX8_clash_27 : decode cX8_clash 27 = .ok (.iload_n 1, 1) := by decide +kernel
theorem dX8_clash_28 : decode cX8_clash 28 = .ok (.invokevirtual 147, 3) := by decide +kernel
theorem dX8_clash_31 : decode cX8_clash 31 = .ok (.istore_n 1, 1) := by decide +kernel
theorem dX8_clash_32 : decode cX8_clash 32 = .ok (.iinc 2 1, 3) := by decide +kernel
theorem dX8_clash_35 : decode cX8_clash 35 = .ok (.goto (-25), 3) := by decide +kernel
theorem dX8_clash_38 : decode cX8_clash 38 = .ok (.bipush (-4), 2) := by decide +kernel
theorem dX8_clash_40 : decode cX8_clash 40 = .ok (.ireturn, 1) := by decide +kernel
theorem dX8_goesWay_0 : decode cX8_goesWay 0 = .ok (.aload_n 0, 1) := by decide +kernel
theorem dX8_goesWay_1 : decode cX8_goesWay 1 = .ok (.aload_n 0, 1) := by decide +kernel
theorem dX8_goesWay_2 : decode cX8_goesWay 2 = .ok (.getfield 7, 3) := by decide +kernel
theorem dX8_goesWay_5 : decode cX8_goesWay 5 = .ok (.bipush 18, 2) := by decide +kernel
theorem dX8_goesWay_7 : decode cX8_goesWay 7 = .ok (.iaload, 1) := by decide +kernel
theorem dX8_goesWay_8 : decode cX8_goesWay 8 = .ok (.putfield 227, 3) := by decide +kernel
theorem dX8_goesWay_11 : decode cX8_goesWay 11 = .ok (.aload_n 0, 1) := by decide +kernel
theorem dX8_goesWay_12 : decode cX8_goesWay 12 = .ok (.iconst 0, 1) := by decide +kernel
theorem dX8_goesWay_13 : decode cX8_goesWay 13 = .ok (.putfield 230, 3) := by decide +kernel
theorem dX8_goesWay_16 : decode cX8_goesWay 16 = .ok (.iconst 1, 1) := by decide +kernel
theorem dX8_goesWay_17 : decode cX8_goesWay 17 = .ok (.istore_n 3, 1) := by decide +kernel
theorem dX8_goesWay_18 : decode cX8_goesWay 18 = .ok (.iconst 0, 1) := by decide +kernel
theorem dX8_goesWay_19 : decode cX8_goesWay 19 = .ok (.istore 4, 2) := by decide +kernel
theorem dX8_goesWay_21 : decode cX8_goesWay 21 = .ok (.iload 4, 2) := by decide +kernel
theorem dX8_goesWay_23 : decode cX8_goesWay 23 = .ok (.iload_n 2, 1) := by decide +kernel
theorem dX8_goesWay_24 : decode cX8_goesWay 24 = .ok (.if_icmp .ge 118, 3) := by decide +kernel
theorem dX8_goesWay_27 : decode cX8_goesWay 27 = .ok (.aload_n 0, 1) := by decide +kernel
theorem dX8_goesWay_28 : decode cX8_goesWay 28 = .ok (.iload_n 1, 1) := by decide +kernel
theorem dX8_goesWay_29 : decode cX8_goesWay 29 = .ok (.iload_n 2, 1) := by decide +kernel
theorem dX8_goesWay_30 : decode cX8_goesWay 30 = .ok (.iload 4, 2) := by decide +kernel
theorem dX8_goesWay_32 : decode cX8_goesWay 32 = .ok (.invokevirtual 233, 3) := by decide +kernel
theorem dX8_goesWay_35 : decode cX8_goesWay 35 = .ok (.istore 5, 2) := by decide +kernel
theorem dX8_goesWay_37 : decode cX8_goesWay 37 = .ok (.iload 5, 2) := by decide +kernel
theorem dX8_goesWay_39 : decode cX8_goesWay 39 = .ok (.ifCond .lt 64, 3) := by decide +kernel
theorem dX8_goesWay_42 : decode cX8_goesWay 42 = .ok (.aload_n 0, 1) := by decide +kernel
theorem dX8_goesWay_43 : decode cX8_goesWay 43 = .ok (.dup, 1) := by decide +kernel
theorem dX8_goesWay_44 : decode cX8_goesWay 44 = .ok (.getfield 227, 3) := by decide +kernel
theorem dX8_goesWay_47 : decode cX8_goesWay 47 = .ok (.iconst 1, 1) := by decide +kernel
theorem dX8_goesWay_48 : decode cX8_goesWay 48 = .ok (.aload_n 0, 1) := by decide +kernel
theorem dX8_goesWay_49 : decode cX8_goesWay 49 = .ok (.getfield 7, 3) := by decide +kernel
theorem dX8_goesWay_52 : decode cX8_goesWay 52 = .ok (.bipush 19, 2) := by decide +kernel
theorem dX8_goesWay_54 : decode cX8_goesWay 54 = .ok (.iload 5, 2) := by decide +kernel
theorem dX8_goesWay_56 : decode cX8_goesWay 56 = .ok (.iadd, 1) := by decide +kernel
theorem dX8_goesWay_57 : decode cX8_goesWay 57 = .ok (.iaload, 1) := by decide +kernel
theorem dX8_goesWay_58 : decode cX8_goesWay 58 = .ok (.ishl, 1) := by decide +kernel
theorem dX8_goesWay_59 : decode cX8_goesWay 59 = .ok (.ixor, 1) := by decide +kernel
theorem dX8_goesWay_60 : decode cX8_goesWay 60 = .ok (.putfield 227, 3) := by decide +kernel
theorem dX8_goesWay_63 : decode cX8_goesWay 63 = .ok (.aload_n 0, 1) := by decide +kernel
theorem dX8_goesWay_64 : decode cX8_goesWay 64 = .ok (.dup, 1) := by decide +kernel
theorem dX8_goesWay_65 : decode cX8_goesWay 65 = .ok (.getfield 230, 3) := by decide +kernel
theorem dX8_goesWay_68 : decode cX8_goesWay 68 = .ok (.aload_n 0, 1) := by decide +kernel
theorem dX8_goesWay_69 : decode cX8_goesWay 69 = .ok (.getfield 7, 3) := by decide +kernel
theorem dX8_goesWay_72 : decode cX8_goesWay 72 = .ok (.bipush 23, 2) := by decide +kernel
theorem dX8_goesWay_74 : decode cX8_goesWay 74 = .ok (.iload 5, 2) := by decide +kernel
theorem dX8_goesWay_76 : decode cX8_goesWay 76 = .ok (.iadd, 1) := by decide +kernel
theorem dX8_goesWay_77 : decode cX8_goesWay 77 = .ok (.iaload, 1) := by decide +kernel
theorem dX8_goesWay_78 : decode cX8_goesWay 78 = .ok (.iadd, 1) := by decide +kernel
theorem dX8_goesWay_79 : decode cX8_goesWay 79 = .ok (.putfield 230, 3) := by decide +kernel
theorem dX8_goesWay_82 : decode cX8_goesWay 82 = .ok (.iload_n 3, 1) := by decide +kernel
theorem dX8_goesWay_83 : decode cX8_goesWay 83 = .ok (.ifCond .eq 18, 3) := by decide +kernel
theorem dX8_goesWay_86 : decode cX8_goesWay 86 = .ok (.aload_n 0, 1) := by decide +kernel
theorem dX8_goesWay_87 : decode cX8_goesWay 87 = .ok (.aload_n 0, 1) := by decide +kernel
theorem dX8_goesWay_88 : decode cX8_goesWay 88 = .ok (.getfield 227, 3) := by decide +kernel
theorem dX8_goesWay_91 : decode cX8_goesWay 91 = .ok (.invokevirtual 153, 3) := by decide +kernel
theorem dX8_goesWay_94 : decode cX8_goesWay 94 = .ok (.ifCond .eq 7, 3) := by decide +kernel
theorem dX8_goesWay_97 : decode cX8_goesWay 97 = .ok (.iconst 1, 1) := by decide +kernel
theorem dX8_goesWay_98 : decode cX8_goesWay 98 = .ok (.goto 4, 3) := by decide +kernel
theorem dX8_goesWay_101 : decode cX8_goesWay 101 = .ok (.iconst 0, 1) := by decide +kernel
theorem dX8_goesWay_102 : decode cX8_goesWay 102 = .ok (.istore_n 3, 1) := by decide +kernel
theorem dX8_goesWay_103 : decode cX8_goesWay 103 = .ok (.aload_n 0, 1) := by decide +kernel
theorem dX8_goesWay_104 : decode cX8_goesWay 104 = .ok (.aload_n 0, 1) := by decide +kernel
theorem dX8_goesWay_105 : decode cX8_goesWay 105 = .ok (.aload_n 0, 1) := by decide +kernel
theorem dX8_goesWay_106 : decode cX8_goesWay 106 = .ok (.getfield 227, 3) := by decide +kernel
theorem dX8_goesWay_109 : decode cX8_goesWay 109 = .ok (.invokevirtual 147, 3) := by decide +kernel
theorem dX8_goesWay_112 : decode cX8_goesWay 112 = .ok (.putfield 227, 3) := by decide +kernel
theorem dX8_goesWay_115 : decode cX8_goesWay 115 = .ok (.iload_n 3, 1) := by decide +kernel
theorem dX8_goesWay_116 : decode cX8_goesWay 116 = .ok (.ifCond .eq 18, 3) := by decide +kernel
theorem dX8_goesWay_119 : decode cX8_goesWay 119 = .ok (.aload_n 0, 1) := by decide +kernel
theorem dX8_goesWay_120 : decode cX8_goesWay 120 = .ok (.aload_n 0, 1) := by decide +kernel
theorem dX8_goesWay_121 : decode cX8_goesWay 121 = .ok (.getfield 227, 3) := by decide +kernel
theorem dX8_goesWay_124 : decode cX8_goesWay 124 = .ok (.invokevirtual 153, 3) := by decide +kernel
theorem dX8_goesWay_127 : decode cX8_goesWay 127 = .ok (.ifCond .eq 7, 3) := by decide +kernel
theorem dX8_goesWay_130 : decode cX8_goesWay 130 = .ok (.iconst 1, 1) := by decide +kernel
theorem dX8_goesWay_131 : decode cX8_goesWay 131 = .ok (.goto 4, 3) := by decide +kernel
theorem dX8_goesWay_134 : decode cX8_goesWay 134 = .ok (.iconst 0, 1) := by decide +kernel
theorem dX8_goesWay_135 : decode cX8_goesWay 135 = .ok (.istore_n 3, 1) := by decide +kernel
theorem dX8_goesWay_136 : decode cX8_goesWay 136 = .ok (.iinc 4 1, 3) := by decide +kernel
theorem dX8_goesWay_139 : decode cX8_goesWay 139 = .ok (.goto (-118), 3) := by decide +kernel
theorem dX8_goesWay_142 : decode cX8_goesWay 142 = .ok (.iload_n 3, 1) := by decide +kernel
theorem dX8_goesWay_143 : decode cX8_goesWay 143 = .ok (.ireturn, 1) := by decide +kernel
theorem dX8_whoIn_0 : decode cX8_whoIn 0 = .ok (.iload_n 1, 1) := by decide +kernel
theorem dX8_whoIn_1 : decode cX8_whoIn 1 = .ok (.aload_n 0, 1) := by decide +kernel
theorem dX8_whoIn_2 : decode cX8_whoIn 2 = .ok (.iload_n 2, 1) := by decide +kernel
theorem dX8_whoIn_3 : decode cX8_whoIn 3 = .ok (.iconst 1, 1) := by decide +kernel
theorem dX8_whoIn_4 : decode cX8_whoIn 4 = .ok (.isub, 1) := by decide +kernel
theorem dX8_whoIn_5 : decode cX8_whoIn 5 = .ok (.iload_n 3, 1) := by decide +kernel
theorem dX8_whoIn_6 : decode cX8_whoIn 6 = .ok (.isub, 1) := by decide +kernel
theorem dX8_whoIn_7 : decode cX8_whoIn 7 = .ok (.invokevirtual 236, 3) := by decide +kernel
theorem dX8_whoIn_10 : decode cX8_whoIn 10 = .ok (.idiv, 1) := by decide +kernel
theorem dX8_whoIn_11 : decode cX8_whoIn 11 = .ok (.aload_n 0, 1) := by decide +kernel
theorem dX8_whoIn_12 : decode cX8_whoIn 12 = .ok (.getfield 128, 3) := by decide +kernel
theorem dX8_whoIn_15 : decode cX8_whoIn 15 = .ok (.iconst 1, 1) := by decide +kernel
theorem dX8_whoIn_16 : decode cX8_whoIn 16 = .ok (.iadd, 1) := by decide +kernel
theorem dX8_whoIn_17 : decode cX8_whoIn 17 = .ok (.irem, 1) := by decide +kernel
theorem dX8_whoIn_18 : decode cX8_whoIn 18 = .ok (.iconst 1, 1) := by decide +kernel
theorem dX8_whoIn_19 : decode cX8_whoIn 19 = .ok (.isub, 1) := by decide +kernel
theorem dX8_whoIn_20 : decode cX8_whoIn 20 = .ok (.ireturn, 1) := by decide +kernel
theorem dX8_powerOf_0 : decode cX8_powerOf 0 = .ok (.iconst 1, 1) := by decide +kernel
theorem dX8_powerOf_1 : decode cX8_powerOf 1 = .ok (.istore_n 2, 1) := by decide +kernel
theorem dX8_powerOf_2 : decode cX8_powerOf 2 = .ok (.iconst 0, 1) := by decide +kernel
theorem dX8_powerOf_3 : decode cX8_powerOf 3 = .ok (.istore_n 3, 1) := by decide +kernel
theorem dX8_powerOf_4 : decode cX8_powerOf 4 = .ok (.iload_n 3, 1) := by decide +kernel
theorem dX8_powerOf_5 : decode cX8_powerOf 5 = .ok (.iload_n 1, 1) := by decide +kernel
theorem dX8_powerOf_6 : decode cX8_powerOf 6 = .ok (.if_icmp .ge 18, 3) := by decide +kernel
theorem dX8_powerOf_9 : decode cX8_powerOf 9 = .ok (.iload_n 2, 1) := by decide +kernel
theorem dX8_powerOf_10 : decode cX8_powerOf 10 = .ok (.aload_n 0, 1) := by decide +kernel
theorem dX8_powerOf_11 : decode cX8_powerOf 11 = .ok (.getfield 128, 3) := by decide +kernel
theorem dX8_powerOf_14 : decode cX8_powerOf 14 = .ok (.iconst 1, 1) := by decide +kernel
theorem dX8_powerOf_15 : decode cX8_powerOf 15 = .ok (.iadd, 1) := by decide +kernel
theorem dX8_powerOf_16 : decode cX8_powerOf 16 = .ok (.imul, 1) := by decide +kernel
theorem dX8_powerOf_17 : decode cX8_powerOf 17 = .ok (.istore_n 2, 1) := by decide +kernel
theorem dX8_powerOf_18 : decode cX8_powerOf 18 = .ok (.iinc 3 1, 3) := by decide +kernel
theorem dX8_powerOf_21 : decode cX8_powerOf 21 = .ok (.goto (-17), 3) := by decide +kernel
theorem dX8_powerOf_24 : decode cX8_powerOf 24 = .ok (.iload_n 2, 1) := by decide +kernel
theorem dX8_powerOf_25 : decode cX8_powerOf 25 = .ok (.ireturn, 1) := by decide +kernel
theorem dX8_cheapest_0 : decode cX8_cheapest 0 = .ok (.aload_n 0, 1) := by decide +kernel
theorem dX8_cheapest_1 : decode cX8_cheapest 1 = .ok (.bipush (-4), 2) := by decide +kernel
theorem dX8_cheapest_3 : decode cX8_cheapest 3 = .ok (.putfield 239, 3) := by decide +kernel
theorem dX8_cheapest_6 : decode cX8_cheapest 6 = .ok (.aload_n 0, 1) := by decide +kernel
theorem dX8_cheapest_7 : decode cX8_cheapest 7 = .ok (.ldc 199, 2) := by decide +kernel
theorem dX8_cheapest_9 : decode cX8_cheapest 9 = .ok (.putfield 242, 3) := by decide +kernel
theorem dX8_cheapest_12 : decode cX8_cheapest 12 = .ok (.iconst 0, 1) := by decide +kernel
theorem dX8_cheapest_13 : decode cX8_cheapest 13 = .ok (.istore 4, 2) := by decide +kernel
theorem dX8_cheapest_15 : decode cX8_cheapest 15 = .ok (.iload 4, 2) := by decide +kernel
theorem dX8_cheapest_17 : decode cX8_cheapest 17 = .ok (.aload_n 0, 1) := by decide +kernel
theorem dX8_cheapest_18 : decode cX8_cheapest 18 = .ok (.iload_n 1, 1) := by decide +kernel
theorem dX8_cheapest_19 : decode cX8_cheapest 19 = .ok (.invokevirtual 236, 3) := by decide +kernel
theorem dX8_cheapest_22 : decode cX8_cheapest 22 = .ok (.if_icmp .ge 118, 3) := by decide +kernel
theorem dX8_cheapest_25 : decode cX8_cheapest 25 = .ok (.aload_n 0, 1) := by decide +kernel
theorem dX8_cheapest_26 : decode cX8_cheapest 26 = .ok (.iload 4, 2) := by decide +kernel
theorem dX8_cheapest_28 : decode cX8_cheapest 28 = .ok (.iload_n 1, 1) := by decide +kernel
theorem dX8_cheapest_29 : decode cX8_cheapest 29 = .ok (.invokevirtual 245, 3) := by decide +kernel
theorem dX8_cheapest_32 : decode cX8_cheapest 32 = .ok (.ifCond .eq 39, 3) := by decide +kernel
theorem dX8_cheapest_35 : decode cX8_cheapest 35 = .ok (.iload_n 2, 1) := by decide +kernel
theorem dX8_cheapest_36 : decode cX8_cheapest 36 = .ok (.bipush (-4), 2) := by decide +kernel
theorem dX8_cheapest_38 : decode cX8_cheapest 38 = .ok (.if_icmp .ne 17, 3) := by decide +kernel
theorem dX8_cheapest_41 : decode cX8_cheapest 41 = .ok (.aload_n 0, 1) := by decide +kernel
theorem dX8_cheapest_42 : decode cX8_cheapest 42 = .ok (.aload_n 0, 1) := by decide +kernel
theorem dX8_cheapest_43 : decode cX8_cheapest 43 = .ok (.getfield 227, 3) := by decide +kernel
theorem dX8_cheapest_46 : decode cX8_cheapest 46 = .ok (.invokevirtual 157, 3) := by decide +kernel
theorem dX8_cheapest_49 : decode cX8_cheapest 49 = .ok (.ifCond .eq 22, 3) := by decide +kernel
theorem dX8_cheapest_52 : decode cX8_cheapest 52 = .ok (.goto 15, 3) := by decide +kernel
theorem dX8_cheapest_55 : decode cX8_cheapest 55 = .ok (.aload_n 0, 1) := by decide +kernel
theorem dX8_cheapest_56 : decode cX8_cheapest 56 = .ok (.getfield 227, 3) := by decide +kernel
theorem dX8_cheapest_59 : decode cX8_cheapest 59 = .ok (.iload_n 2, 1) := by decide +kernel
theorem dX8_cheapest_60 : decode cX8_cheapest 60 = .ok (.ishr, 1) := by decide +kernel
theorem dX8_cheapest_61 : decode cX8_cheapest 61 = .ok (.iconst 1, 1) := by decide +kernel
theorem dX8_cheapest_62 : decode cX8_cheapest 62 = .ok (.iand, 1) := by decide +kernel
theorem dX8_cheapest_63 : decode cX8_cheapest 63 = .ok (.iload_n 3, 1) := by decide +kernel
theorem dX8_cheapest_64 : decode cX8_cheapest 64 = .ok (.if_icmp .ne 7, 3) := by decide +kernel
theorem dX8_cheapest_67 : decode cX8_cheapest 67 = .ok (.iconst 1, 1) := by decide +kernel
theorem dX8_cheapest_68 : decode cX8_cheapest 68 = .ok (.goto 4, 3) := by decide +kernel
theorem dX8_cheapest_71 : decode cX8_cheapest 71 = .ok (.iconst 0, 1) := by decide +kernel
theorem dX8_cheapest_72 : decode cX8_cheapest 72 = .ok (.istore 5, 2) := by decide +kernel
theorem dX8_cheapest_74 : decode cX8_cheapest 74 = .ok (.aload_n 0, 1) := by decide +kernel
theorem dX8_cheapest_75 : decode cX8_cheapest 75 = .ok (.iload 5, 2) := by decide +kernel
theorem dX8_cheapest_77 : decode cX8_cheapest 77 = .ok (.ifCond .eq 19, 3) := by decide +kernel
theorem dX8_cheapest_80 : decode cX8_cheapest 80 = .ok (.aload_n 0, 1) := by decide +kernel
theorem dX8_cheapest_81 : decode cX8_cheapest 81 = .ok (.getfield 230, 3) := by decide +kernel
theorem dX8_cheapest_84 : decode cX8_cheapest 84 = .ok (.aload_n 0, 1) := by decide +kernel
theorem dX8_cheapest_85 : decode cX8_cheapest 85 = .ok (.getfield 242, 3) := by decide +kernel
theorem dX8_cheapest_88 : decode cX8_cheapest 88 = .ok (.if_icmp .ge 8, 3) := by decide +kernel
theorem dX8_cheapest_91 : decode cX8_cheapest 91 = .ok (.iload 4, 2) := by decide +kernel
theorem dX8_cheapest_93 : decode cX8_cheapest 93 = .ok (.goto 7, 3) := by decide +kernel
theorem dX8_cheapest_96 : decode cX8_cheapest 96 = .ok (.aload_n 0, 1) := by decide +kernel
theorem dX8_cheapest_97 : decode cX8_cheapest 97 = .ok (.getfield 239, 3) := by decide +kernel
theorem dX8_cheapest_100 : decode cX8_cheapest 100 = .ok (.putfield 239, 3) := by decide +kernel
theorem dX8_cheapest_103 : decode cX8_cheapest 103 = .ok (.aload_n 0, 1) := by decide +kernel
theorem dX8_cheapest_104 : decode cX8_cheapest 104 = .ok (.iload 5, 2) := by decide +kernel
theorem dX8_cheapest_106 : decode cX8_cheapest 106 = .ok (.ifCond .eq 21, 3) := by decide +kernel
theorem dX8_cheapest_109 : decode cX8_cheapest 109 = .ok (.aload_n 0, 1) := by decide +kernel
theorem dX8_cheapest_110 : decode cX8_cheapest 110 = .ok (.getfield 230, 3) := by decide +kernel
theorem dX8_cheapest_113 : decode cX8_cheapest 113 = .ok (.aload_n 0, 1) := by decide +kernel
theorem dX8_cheapest_114 : decode cX8_cheapest 114 = .ok (.getfield 242, 3) := by decide +kernel
theorem dX8_cheapest_117 : decode cX8_cheapest 117 = .ok (.if_icmp .ge 10, 3) := by decide +kernel
theorem dX8_cheapest_120 : decode cX8_cheapest 120 = .ok (.aload_n 0, 1) := by decide +kernel
theorem dX8_cheapest_121 : decode cX8_cheapest 121 = .ok (.getfield 230, 3) := by decide +kernel
theorem dX8_cheapest_124 : decode cX8_cheapest 124 = .ok (.goto 7, 3) := by decide +kernel
theorem dX8_cheapest_127 : decode cX8_cheapest 127 = .ok (.aload_n 0, 1) := by decide +kernel
theorem dX8_cheapest_128 : decode cX8_cheapest 128 = .ok (.getfield 242, 3) := by decide +kernel
theorem dX8_cheapest_131 : decode cX8_cheapest 131 = .ok (.putfield 242, 3) := by decide +kernel
theorem dX8_cheapest_134 : decode cX8_cheapest 134 = .ok (.iinc 4 1, 3) := by decide +kernel
theorem dX8_cheapest_137 : decode cX8_cheapest 137 = .ok (.goto (-122), 3) := by decide +kernel
theorem dX8_cheapest_140 : decode cX8_cheapest 140 = .ok (.return_, 1) := by decide +kernel
theorem dX8_toldWay_0 : decode cX8_toldWay 0 = .ok (.aload_n 0, 1) := by decide +kernel
theorem dX8_toldWay_1 : decode cX8_toldWay 1 = .ok (.getfield 239, 3) := by decide +kernel
theorem dX8_toldWay_4 : decode cX8_toldWay 4 = .ok (.bipush (-4), 2) := by decide +kernel
theorem dX8_toldWay_6 : decode cX8_toldWay 6 = .ok (.if_icmp .eq 8, 3) := by decide +kernel
theorem dX8_toldWay_9 : decode cX8_toldWay 9 = .ok (.iload_n 2, 1) := by decide +kernel
theorem dX8_toldWay_10 : decode cX8_toldWay 10 = .ok (.iload_n 1, 1) := by decide +kernel
theorem dX8_toldWay_11 : decode cX8_toldWay 11 = .ok (.if_icmp .lt 6, 3) := by decide +kernel
theorem dX8_toldWay_14 : decode cX8_toldWay 14 = .ok (.bipush (-4), 2) := by decide +kernel
theorem dX8_toldWay_16 : decode cX8_toldWay 16 = .ok (.ireturn, 1) := by decide +kernel
theorem dX8_toldWay_17 : decode cX8_toldWay 17 = .ok (.aload_n 0, 1) := by decide +kernel
theorem dX8_toldWay_18 : decode cX8_toldWay 18 = .ok (.aload_n 0, 1) := by decide +kernel
theorem dX8_toldWay_19 : decode cX8_toldWay 19 = .ok (.getfield 239, 3) := by decide +kernel
theorem dX8_toldWay_22 : decode cX8_toldWay 22 = .ok (.iload_n 1, 1) := by decide +kernel
theorem dX8_toldWay_23 : decode cX8_toldWay 23 = .ok (.iload_n 2, 1) := by decide +kernel
theorem dX8_toldWay_24 : decode cX8_toldWay 24 = .ok (.invokevirtual 233, 3) := by decide +kernel
theorem dX8_toldWay_27 : decode cX8_toldWay 27 = .ok (.istore_n 3, 1) := by decide +kernel
theorem dX8_toldWay_28 : decode cX8_toldWay 28 = .ok (.iload_n 3, 1) := by decide +kernel
theorem dX8_toldWay_29 : decode cX8_toldWay 29 = .ok (.ifCond .ge 8, 3) := by decide +kernel
theorem dX8_toldWay_32 : decode cX8_toldWay 32 = .ok (.bipush (-4), 2) := by decide +kernel
theorem dX8_toldWay_34 : decode cX8_toldWay 34 = .ok (.goto 4, 3) := by decide +kernel
theorem dX8_toldWay_37 : decode cX8_toldWay 37 = .ok (.iload_n 3, 1) := by decide +kernel
theorem dX8_toldWay_38 : decode cX8_toldWay 38 = .ok (.ireturn, 1) := by decide +kernel
theorem dX8_way_0 : decode cX8_way 0 = .ok (.aload_n 0, 1) := by decide +kernel
theorem dX8_way_1 : decode cX8_way 1 = .ok (.iload_n 1, 1) := by decide +kernel
theorem dX8_way_2 : decode cX8_way 2 = .ok (.invokevirtual 160, 3) := by decide +kernel
theorem dX8_way_5 : decode cX8_way 5 = .ok (.ifCond .eq 37, 3) := by decide +kernel
theorem dX8_way_8 : decode cX8_way 8 = .ok (.iload_n 2, 1) := by decide +kernel
theorem dX8_way_9 : decode cX8_way 9 = .ok (.i2l, 1) := by decide +kernel
theorem dX8_way_10 : decode cX8_way 10 = .ok (.lconst 0, 1) := by decide +kernel
theorem dX8_way_11 : decode cX8_way 11 = .ok (.lconst 1, 1) := by decide +kernel
theorem dX8_way_12 : decode cX8_way 12 = .ok (.invokestatic 46, 3) := by decide +kernel
theorem dX8_way_15 : decode cX8_way 15 = .ok (.ifCond .eq 27, 3) := by decide +kernel
theorem dX8_way_18 : decode cX8_way 18 = .ok (.iload_n 3, 1) := by decide +kernel
theorem dX8_way_19 : decode cX8_way 19 = .ok (.i2l, 1) := by decide +kernel
theorem dX8_way_20 : decode cX8_way 20 = .ok (.lconst 0, 1) := by decide +kernel
theorem dX8_way_21 : decode cX8_way 21 = .ok (.lconst 1, 1) := by decide +kernel
theorem dX8_way_22 : decode cX8_way 22 = .ok (.invokestatic 46, 3) := by decide +kernel
theorem dX8_way_25 : decode cX8_way 25 = .ok (.ifCond .ne 19, 3) := by decide +kernel
theorem dX8_way_28 : decode cX8_way 28 = .ok (.iload_n 3, 1) := by decide +kernel
theorem dX8_way_29 : decode cX8_way 29 = .ok (.i2l, 1) := by decide +kernel
theorem dX8_way_30 : decode cX8_way 30 = .ok (.ldc2_w 248, 3) := by decide +kernel
theorem dX8_way_33 : decode cX8_way 33 = .ok (.ldc2_w 250, 3) := by decide +kernel
theorem dX8_way_36 : decode cX8_way 36 = .ok (.invokestatic 46, 3) := by decide +kernel
theorem dX8_way_39 : decode cX8_way 39 = .ok (.ifCond .ne 5, 3) := by decide +kernel
theorem dX8_way_42 : decode cX8_way 42 = .ok (.iconst (-1), 1) := by decide +kernel
theorem dX8_way_43 : decode cX8_way 43 = .ok (.ireturn, 1) := by decide +kernel
theorem dX8_way_44 : decode cX8_way 44 = .ok (.iconst 0, 1) := by decide +kernel
theorem dX8_way_45 : decode cX8_way 45 = .ok (.istore 4, 2) := by decide +kernel
theorem dX8_way_47 : decode cX8_way 47 = .ok (.aload_n 0, 1) := by decide +kernel
theorem dX8_way_48 : decode cX8_way 48 = .ok (.iconst 0, 1) := by decide +kernel
theorem dX8_way_49 : decode cX8_way 49 = .ok (.iload_n 1, 1) := by decide +kernel
theorem dX8_way_50 : decode cX8_way 50 = .ok (.iload_n 2, 1) := by decide +kernel
theorem dX8_way_51 : decode cX8_way 51 = .ok (.invokevirtual 252, 3) := by decide +kernel
theorem dX8_way_54 : decode cX8_way 54 = .ok (.aload_n 0, 1) := by decide +kernel
theorem dX8_way_55 : decode cX8_way 55 = .ok (.getfield 239, 3) := by decide +kernel
theorem dX8_way_58 : decode cX8_way 58 = .ok (.bipush (-4), 2) := by decide +kernel
theorem dX8_way_60 : decode cX8_way 60 = .ok (.if_icmp .ne 23, 3) := by decide +kernel
theorem dX8_way_63 : decode cX8_way 63 = .ok (.iload 4, 2) := by decide +kernel
theorem dX8_way_65 : decode cX8_way 65 = .ok (.iconst 4, 1) := by decide +kernel
theorem dX8_way_66 : decode cX8_way 66 = .ok (.if_icmp .ge 17, 3) := by decide +kernel
theorem dX8_way_69 : decode cX8_way 69 = .ok (.iinc 4 1, 3) := by decide +kernel
theorem dX8_way_72 : decode cX8_way 72 = .ok (.aload_n 0, 1) := by decide +kernel
theorem dX8_way_73 : decode cX8_way 73 = .ok (.iload 4, 2) := by decide +kernel
theorem dX8_way_75 : decode cX8_way 75 = .ok (.iload_n 1, 1) := by decide +kernel
theorem dX8_way_76 : decode cX8_way 76 = .ok (.iload_n 2, 1) := by decide +kernel
theorem dX8_way_77 : decode cX8_way 77 = .ok (.invokevirtual 252, 3) := by decide +kernel
theorem dX8_way_80 : decode cX8_way 80 = .ok (.goto (-26), 3) := by decide +kernel
theorem dX8_way_83 : decode cX8_way 83 = .ok (.aload_n 0, 1) := by decide +kernel
theorem dX8_way_84 : decode cX8_way 84 = .ok (.getfield 239, 3) := by decide +kernel
theorem dX8_way_87 : decode cX8_way 87 = .ok (.bipush (-4), 2) := by decide +kernel
theorem dX8_way_89 : decode cX8_way 89 = .ok (.if_icmp .ne 6, 3) := by decide +kernel
theorem dX8_way_92 : decode cX8_way 92 = .ok (.bipush (-4), 2) := by decide +kernel
theorem dX8_way_94 : decode cX8_way 94 = .ok (.ireturn, 1) := by decide +kernel
theorem dX8_way_95 : decode cX8_way 95 = .ok (.iload_n 3, 1) := by decide +kernel
theorem dX8_way_96 : decode cX8_way 96 = .ok (.ifCond .ne 8, 3) := by decide +kernel
theorem dX8_way_99 : decode cX8_way 99 = .ok (.iload 4, 2) := by decide +kernel
theorem dX8_way_101 : decode cX8_way 101 = .ok (.goto 25, 3) := by decide +kernel
theorem dX8_way_104 : decode cX8_way 104 = .ok (.iload_n 3, 1) := by decide +kernel
theorem dX8_way_105 : decode cX8_way 105 = .ok (.iconst 1, 1) := by decide +kernel
theorem dX8_way_106 : decode cX8_way 106 = .ok (.if_icmp .ne 10, 3) := by decide +kernel
theorem dX8_way_109 : decode cX8_way 109 = .ok (.aload_n 0, 1) := by decide +kernel
theorem dX8_way_110 : decode cX8_way 110 = .ok (.getfield 242, 3) := by decide +kernel
theorem dX8_way_113 : decode cX8_way 113 = .ok (.goto 13, 3) := by decide +kernel
theorem dX8_way_116 : decode cX8_way 116 = .ok (.aload_n 0, 1) := by decide +kernel
theorem dX8_way_117 : decode cX8_way 117 = .ok (.iload 4, 2) := by decide +kernel
theorem dX8_way_119 : decode cX8_way 119 = .ok (.iload_n 3, 1) := by decide +kernel
theorem dX8_way_120 : decode cX8_way 120 = .ok (.bipush 10, 2) := by decide +kernel
theorem dX8_way_122 : decode cX8_way 122 = .ok (.isub, 1) := by decide +kernel
theorem dX8_way_123 : decode cX8_way 123 = .ok (.invokevirtual 256, 3) := by decide +kernel
theorem dX8_way_126 : decode cX8_way 126 = .ok (.ireturn, 1) := by decide +kernel
theorem dX8_peace_0 : decode cX8_peace 0 = .ok (.iload_n 1, 1) := by decide +kernel
theorem dX8_peace_1 : decode cX8_peace 1 = .ok (.i2l, 1) := by decide +kernel
theorem dX8_peace_2 : decode cX8_peace 2 = .ok (.lconst 0, 1) := by decide +kernel
theorem dX8_peace_3 : decode cX8_peace 3 = .ok (.ldc2_w 171, 3) := by decide +kernel
theorem dX8_peace_6 : decode cX8_peace 6 = .ok (.invokestatic 46, 3) := by decide +kernel
theorem dX8_peace_9 : decode cX8_peace 9 = .ok (.ifCond .eq 21, 3) := by decide +kernel
theorem dX8_peace_12 : decode cX8_peace 12 = .ok (.iload_n 2, 1) := by decide +kernel
theorem dX8_peace_13 : decode cX8_peace 13 = .ok (.ifCond .eq 19, 3) := by decide +kernel
theorem dX8_peace_16 : decode cX8_peace 16 = .ok (.iload_n 2, 1) := by decide +kernel
theorem dX8_peace_17 : decode cX8_peace 17 = .ok (.i2l, 1) := by decide +kernel
theorem dX8_peace_18 : decode cX8_peace 18 = .ok (.ldc2_w 248, 3) := by decide +kernel
theorem dX8_peace_21 : decode cX8_peace 21 = .ok (.ldc2_w 250, 3) := by decide +kernel
theorem dX8_peace_24 : decode cX8_peace 24 = .ok (.invokestatic 46, 3) := by decide +kernel
theorem dX8_peace_27 : decode cX8_peace 27 = .ok (.ifCond .ne 5, 3) := by decide +kernel
theorem dX8_peace_30 : decode cX8_peace 30 = .ok (.iconst (-1), 1) := by decide +kernel
theorem dX8_peace_31 : decode cX8_peace 31 = .ok (.ireturn, 1) := by decide +kernel
theorem dX8_peace_32 : decode cX8_peace 32 = .ok (.aload_n 0, 1) := by decide +kernel
theorem dX8_peace_33 : decode cX8_peace 33 = .ok (.iload_n 1, 1) := by decide +kernel
theorem dX8_peace_34 : decode cX8_peace 34 = .ok (.bipush (-4), 2) := by decide +kernel
theorem dX8_peace_36 : decode cX8_peace 36 = .ok (.iconst 0, 1) := by decide +kernel
theorem dX8_peace_37 : decode cX8_peace 37 = .ok (.invokevirtual 252, 3) := by decide +kernel
theorem dX8_peace_40 : decode cX8_peace 40 = .ok (.iload_n 2, 1) := by decide +kernel
theorem dX8_peace_41 : decode cX8_peace 41 = .ok (.ifCond .eq 15, 3) := by decide +kernel
theorem dX8_peace_44 : decode cX8_peace 44 = .ok (.aload_n 0, 1) := by decide +kernel
theorem dX8_peace_45 : decode cX8_peace 45 = .ok (.iload_n 1, 1) := by decide +kernel
theorem dX8_peace_46 : decode cX8_peace 46 = .ok (.iload_n 2, 1) := by decide +kernel
theorem dX8_peace_47 : decode cX8_peace 47 = .ok (.bipush 10, 2) := by decide +kernel
theorem dX8_peace_49 : decode cX8_peace 49 = .ok (.isub, 1) := by decide +kernel
theorem dX8_peace_50 : decode cX8_peace 50 = .ok (.invokevirtual 256, 3) := by decide +kernel
theorem dX8_peace_53 : decode cX8_peace 53 = .ok (.goto 21, 3) := by decide +kernel
theorem dX8_peace_56 : decode cX8_peace 56 = .ok (.aload_n 0, 1) := by decide +kernel
theorem dX8_peace_57 : decode cX8_peace 57 = .ok (.getfield 239, 3) := by decide +kernel
theorem dX8_peace_60 : decode cX8_peace 60 = .ok (.bipush (-4), 2) := by decide +kernel
theorem dX8_peace_62 : decode cX8_peace 62 = .ok (.if_icmp .ne 8, 3) := by decide +kernel
theorem dX8_peace_65 : decode cX8_peace 65 = .ok (.bipush (-4), 2) := by decide +kernel
theorem dX8_peace_67 : decode cX8_peace 67 = .ok (.goto 7, 3) := by decide +kernel
theorem dX8_peace_70 : decode cX8_peace 70 = .ok (.aload_n 0, 1) := by decide +kernel
theorem dX8_peace_71 : decode cX8_peace 71 = .ok (.getfield 242, 3) := by decide +kernel
theorem dX8_peace_74 : decode cX8_peace 74 = .ok (.ireturn, 1) := by decide +kernel
theorem dX8_amend_0 : decode cX8_amend 0 = .ok (.iload_n 1, 1) := by decide +kernel
theorem dX8_amend_1 : decode cX8_amend 1 = .ok (.i2l, 1) := by decide +kernel
theorem dX8_amend_2 : decode cX8_amend 2 = .ok (.lconst 0, 1) := by decide +kernel
theorem dX8_amend_3 : decode cX8_amend 3 = .ok (.lconst 1, 1) := by decide +kernel
theorem dX8_amend_4 : decode cX8_amend 4 = .ok (.invokestatic 46, 3) := by decide +kernel
theorem dX8_amend_7 : decode cX8_amend 7 = .ok (.ifCond .ne 5, 3) := by decide +kernel
theorem dX8_amend_10 : decode cX8_amend 10 = .ok (.iconst (-1), 1) := by decide +kernel
theorem dX8_amend_11 : decode cX8_amend 11 = .ok (.ireturn, 1) := by decide +kernel
theorem dX8_amend_12 : decode cX8_amend 12 = .ok (.aload_n 0, 1) := by decide +kernel
theorem dX8_amend_13 : decode cX8_amend 13 = .ok (.invokevirtual 218, 3) := by decide +kernel
theorem dX8_amend_16 : decode cX8_amend 16 = .ok (.istore_n 2, 1) := by decide +kernel
theorem dX8_amend_17 : decode cX8_amend 17 = .ok (.bipush (-4), 2) := by decide +kernel
theorem dX8_amend_19 : decode cX8_amend 19 = .ok (.istore_n 3, 1) := by decide +kernel
theorem dX8_amend_20 : decode cX8_amend 20 = .ok (.iconst 0, 1) := by decide +kernel
theorem dX8_amend_21 : decode cX8_amend 21 = .ok (.istore 4, 2) := by decide +kernel
theorem dX8_amend_23 : decode cX8_amend 23 = .ok (.iload 4, 2) := by decide +kernel
theorem dX8_amend_25 : decode cX8_amend 25 = .ok (.aload_n 0, 1) := by decide +kernel
theorem dX8_amend_26 : decode cX8_amend 26 = .ok (.getfield 125, 3) := by decide +kernel
theorem dX8_amend_29 : decode cX8_amend 29 = .ok (.if_icmp .ge 104, 3) := by decide +kernel
theorem dX8_amend_32 : decode cX8_amend 32 = .ok (.aload_n 0, 1) := by decide +kernel
theorem dX8_amend_33 : decode cX8_amend 33 = .ok (.getfield 7, 3) := by decide +kernel
theorem dX8_amend_36 : decode cX8_amend 36 = .ok (.bipush 6, 2) := by decide +kernel
theorem dX8_amend_38 : decode cX8_amend 38 = .ok (.iload 4, 2) := by decide +kernel
theorem dX8_amend_40 : decode cX8_amend 40 = .ok (.iadd, 1) := by decide +kernel
theorem dX8_amend_41 : decode cX8_amend 41 = .ok (.iaload, 1) := by decide +kernel
theorem dX8_amend_42 : decode cX8_amend 42 = .ok (.istore 5, 2) := by decide +kernel
theorem dX8_amend_44 : decode cX8_amend 44 = .ok (.iconst 0, 1) := by decide +kernel
theorem dX8_amend_45 : decode cX8_amend 45 = .ok (.istore 6, 2) := by decide +kernel
theorem dX8_amend_47 : decode cX8_amend 47 = .ok (.iload 6, 2) := by decide +kernel
theorem dX8_amend_49 : decode cX8_amend 49 = .ok (.aload_n 0, 1) := by decide +kernel
theorem dX8_amend_50 : decode cX8_amend 50 = .ok (.getfield 125, 3) := by decide +kernel
theorem dX8_amend_53 : decode cX8_amend 53 = .ok (.if_icmp .ge 62, 3) := by decide +kernel
theorem dX8_amend_56 : decode cX8_amend 56 = .ok (.aload_n 0, 1) := by decide +kernel
theorem dX8_amend_57 : decode cX8_amend 57 = .ok (.getfield 7, 3) := by decide +kernel
theorem dX8_amend_60 : decode cX8_amend 60 = .ok (.bipush 6, 2) := by decide +kernel
theorem dX8_amend_62 : decode cX8_amend 62 = .ok (.iload 4, 2) := by decide +kernel
theorem dX8_amend_64 : decode cX8_amend 64 = .ok (.iadd, 1) := by decide +kernel
theorem dX8_amend_65 : decode cX8_amend 65 = .ok (.iload 6, 2) := by decide +kernel
theorem dX8_amend_67 : decode cX8_amend 67 = .ok (.iload 4, 2) := by decide +kernel
theorem dX8_amend_69 : decode cX8_amend 69 = .ok (.isub, 1) := by decide +kernel
theorem dX8_amend_70 : decode cX8_amend 70 = .ok (.iastore, 1) := by decide +kernel
theorem dX8_amend_71 : decode cX8_amend 71 = .ok (.aload_n 0, 1) := by decide +kernel
theorem dX8_amend_72 : decode cX8_amend 72 = .ok (.invokevirtual 218, 3) := by decide +kernel
theorem dX8_amend_75 : decode cX8_amend 75 = .ok (.istore 7, 2) := by decide +kernel
theorem dX8_amend_77 : decode cX8_amend 77 = .ok (.iload 7, 2) := by decide +kernel
theorem dX8_amend_79 : decode cX8_amend 79 = .ok (.iload_n 2, 1) := by decide +kernel
theorem dX8_amend_80 : decode cX8_amend 80 = .ok (.if_icmp .le 14, 3) := by decide +kernel
theorem dX8_amend_83 : decode cX8_amend 83 = .ok (.bipush 10, 2) := by decide +kernel
theorem dX8_amend_85 : decode cX8_amend 85 = .ok (.iload 4, 2) := by decide +kernel
theorem dX8_amend_87 : decode cX8_amend 87 = .ok (.imul, 1) := by decide +kernel
theorem dX8_amend_88 : decode cX8_amend 88 = .ok (.iload 6, 2) := by decide +kernel
theorem dX8_amend_90 : decode cX8_amend 90 = .ok (.iadd, 1) := by decide +kernel
theorem dX8_amend_91 : decode cX8_amend 91 = .ok (.goto 4, 3) := by decide +kernel
theorem dX8_amend_94 : decode cX8_amend 94 = .ok (.iload_n 3, 1) := by decide +kernel
theorem dX8_amend_95 : decode cX8_amend 95 = .ok (.istore_n 3, 1) := by decide +kernel
theorem dX8_amend_96 : decode cX8_amend 96 = .ok (.iload 7, 2) := by decide +kernel
theorem dX8_amend_98 : decode cX8_amend 98 = .ok (.iload_n 2, 1) := by decide +kernel
theorem dX8_amend_99 : decode cX8_amend 99 = .ok (.if_icmp .le 8, 3) := by decide +kernel
theorem dX8_amend_102 : decode cX8_amend 102 = .ok (.iload 7, 2) := by decide +kernel
theorem dX8_amend_104 : decode cX8_amend 104 = .ok (.goto 4, 3) := by decide +kernel
theorem dX8_amend_107 : decode cX8_amend 107 = .ok (.iload_n 2, 1) := by decide +kernel
theorem dX8_amend_108 : decode cX8_amend 108 = .ok (.istore_n 2, 1) := by decide +kernel
theorem dX8_amend_109 : decode cX8_amend 109 = .ok (.iinc 6 1, 3) := by decide +kernel
theorem dX8_amend_112 : decode cX8_amend 112 = .ok (.goto (-65), 3) := by decide +kernel
theorem dX8_amend_115 : decode cX8_amend 115 = .ok (.aload_n 0, 1) := by decide +kernel
theorem dX8_amend_116 : decode cX8_amend 116 = .ok (.getfield 7, 3) := by decide +kernel
theorem dX8_amend_119 : decode cX8_amend 119 = .ok (.bipush 6, 2) := by decide +kernel
theorem dX8_amend_121 : decode cX8_amend 121 = .ok (.iload 4, 2) := by decide +kernel
theorem dX8_amend_123 : decode cX8_amend 123 = .ok (.iadd, 1) := by decide +kernel
theorem dX8_amend_124 : decode cX8_amend 124 = .ok (.iload 5, 2) := by decide +kernel
theorem dX8_amend_126 : decode cX8_amend 126 = .ok (.iastore, 1) := by decide +kernel
theorem dX8_amend_127 : decode cX8_amend 127 = .ok (.iinc 4 1, 3) := by decide +kernel
theorem dX8_amend_130 : decode cX8_amend 130 = .ok (.goto (-107), 3) := by decide +kernel
theorem dX8_amend_133 : decode cX8_amend 133 = .ok (.iload_n 3, 1) := by decide +kernel
theorem dX8_amend_134 : decode cX8_amend 134 = .ok (.bipush (-4), 2) := by decide +kernel
theorem dX8_amend_136 : decode cX8_amend 136 = .ok (.if_icmp .eq 7, 3) := by decide +kernel
theorem dX8_amend_139 : decode cX8_amend 139 = .ok (.iload_n 1, 1) := by decide +kernel
theorem dX8_amend_140 : decode cX8_amend 140 = .ok (.ifCond .ne 7, 3) := by decide +kernel
theorem dX8_amend_143 : decode cX8_amend 143 = .ok (.iload_n 3, 1) := by decide +kernel
theorem dX8_amend_144 : decode cX8_amend 144 = .ok (.goto 4, 3) := by decide +kernel
theorem dX8_amend_147 : decode cX8_amend 147 = .ok (.iload_n 2, 1) := by decide +kernel
theorem dX8_amend_148 : decode cX8_amend 148 = .ok (.ireturn, 1) := by decide +kernel
theorem dX8_strict_0 : decode cX8_strict 0 = .ok (.iload_n 1, 1) := by decide +kernel
theorem dX8_strict_1 : decode cX8_strict 1 = .ok (.i2l, 1) := by decide +kernel
theorem dX8_strict_2 : decode cX8_strict 2 = .ok (.lconst 0, 1) := by decide +kernel
theorem dX8_strict_3 : decode cX8_strict 3 = .ok (.lconst 1, 1) := by decide +kernel
theorem dX8_strict_4 : decode cX8_strict 4 = .ok (.invokestatic 46, 3) := by decide +kernel
theorem dX8_strict_7 : decode cX8_strict 7 = .ok (.ifCond .ne 5, 3) := by decide +kernel
theorem dX8_strict_10 : decode cX8_strict 10 = .ok (.iconst (-1), 1) := by decide +kernel
theorem dX8_strict_11 : decode cX8_strict 11 = .ok (.ireturn, 1) := by decide +kernel
theorem dX8_strict_12 : decode cX8_strict 12 = .ok (.aload_n 0, 1) := by decide +kernel
theorem dX8_strict_13 : decode cX8_strict 13 = .ok (.invokevirtual 218, 3) := by decide +kernel
theorem dX8_strict_16 : decode cX8_strict 16 = .ok (.istore_n 2, 1) := by decide +kernel
theorem dX8_strict_17 : decode cX8_strict 17 = .ok (.bipush (-4), 2) := by decide +kernel
theorem dX8_strict_19 : decode cX8_strict 19 = .ok (.istore_n 3, 1) := by decide +kernel
theorem dX8_strict_20 : decode cX8_strict 20 = .ok (.iconst 0, 1) := by decide +kernel
theorem dX8_strict_21 : decode cX8_strict 21 = .ok (.istore 4, 2) := by decide +kernel
theorem dX8_strict_23 : decode cX8_strict 23 = .ok (.iload 4, 2) := by decide +kernel
theorem dX8_strict_25 : decode cX8_strict 25 = .ok (.aload_n 0, 1) := by decide +kernel
theorem dX8_strict_26 : decode cX8_strict 26 = .ok (.getfield 125, 3) := by decide +kernel
theorem dX8_strict_29 : decode cX8_strict 29 = .ok (.if_icmp .ge 155, 3) := by decide +kernel
theorem dX8_strict_32 : decode cX8_strict 32 = .ok (.iload 4, 2) := by decide +kernel
theorem dX8_strict_34 : decode cX8_strict 34 = .ok (.iconst 1, 1) := by decide +kernel
theorem dX8_strict_35 : decode cX8_strict 35 = .ok (.iadd, 1) := by decide +kernel
theorem dX8_strict_36 : decode cX8_strict 36 = .ok (.istore 5, 2) := by decide +kernel
theorem dX8_strict_38 : decode cX8_strict 38 = .ok (.iload 5, 2) := by decide +kernel
theorem dX8_strict_40 : decode cX8_strict 40 = .ok (.aload_n 0, 1) := by decide +kernel
theorem dX8_strict_41 : decode cX8_strict 41 = .ok (.getfield 125, 3) := by decide +kernel
theorem dX8_strict_44 : decode cX8_strict 44 = .ok (.if_icmp .ge 134, 3) := by decide +kernel
theorem dX8_strict_47 : decode cX8_strict 47 = .ok (.iconst 0, 1) := by decide +kernel
theorem dX8_strict_48 : decode cX8_strict 48 = .ok (.istore 6, 2) := by decide +kernel
theorem dX8_strict_50 : decode cX8_strict 50 = .ok (.iconst 0, 1) := by decide +kernel
theorem dX8_strict_51 : decode cX8_strict 51 = .ok (.istore 7, 2) := by decide +kernel
theorem dX8_strict_53 : decode cX8_strict 53 = .ok (.iload 7, 2) := by decide +kernel
theorem dX8_strict_55 : decode cX8_strict 55 = .ok (.aload_n 0, 1) := by decide +kernel
theorem dX8_strict_56 : decode cX8_strict 56 = .ok (.invokevirtual 134, 3) := by decide +kernel
theorem dX8_strict_59 : decode cX8_strict 59 = .ok (.if_icmp .ge 71, 3) := by decide +kernel
theorem dX8_strict_62 : decode cX8_strict 62 = .ok (.iload 7, 2) := by decide +kernel
theorem dX8_strict_64 : decode cX8_strict 64 = .ok (.iload 4, 2) := by decide +kernel
theorem dX8_strict_66 : decode cX8_strict 66 = .ok (.ishr, 1) := by decide +kernel
theorem dX8_strict_67 : decode cX8_strict 67 = .ok (.iconst 1, 1) := by decide +kernel
theorem dX8_strict_68 : decode cX8_strict 68 = .ok (.iand, 1) := by decide +kernel
theorem dX8_strict_69 : decode cX8_strict 69 = .ok (.iconst 1, 1) := by decide +kernel
theorem dX8_strict_70 : decode cX8_strict 70 = .ok (.if_icmp .ne 18, 3) := by decide +kernel
theorem dX8_strict_73 : decode cX8_strict 73 = .ok (.iload 7, 2) := by decide +kernel
theorem dX8_strict_75 : decode cX8_strict 75 = .ok (.iload 5, 2) := by decide +kernel
theorem dX8_strict_77 : decode cX8_strict 77 = .ok (.ishr, 1) := by decide +kernel
theorem dX8_strict_78 : decode cX8_strict 78 = .ok (.iconst 1, 1) := by decide +kernel
theorem dX8_strict_79 : decode cX8_strict 79 = .ok (.iand, 1) := by decide +kernel
theorem dX8_strict_80 : decode cX8_strict 80 = .ok (.iconst 1, 1) := by decide +kernel
theorem dX8_strict_81 : decode cX8_strict 81 = .ok (.if_icmp .ne 7, 3) := by decide +kernel
theorem dX8_strict_84 : decode cX8_strict 84 = .ok (.iconst 1, 1) := by decide +kernel
theorem dX8_strict_85 : decode cX8_strict 85 = .ok (.goto 4, 3) := by decide +kernel
theorem dX8_strict_88 : decode cX8_strict 88 = .ok (.iconst 0, 1) := by decide +kernel
theorem dX8_strict_89 : decode cX8_strict 89 = .ok (.istore 8, 2) := by decide +kernel
theorem dX8_strict_91 : decode cX8_strict 91 = .ok (.iload 6, 2) := by decide +kernel
theorem dX8_strict_93 : decode cX8_strict 93 = .ok (.iload 8, 2) := by decide +kernel
theorem dX8_strict_95 : decode cX8_strict 95 = .ok (.ifCond .ne 25, 3) := by decide +kernel
theorem dX8_strict_98 : decode cX8_strict 98 = .ok (.aload_n 0, 1) := by decide +kernel
theorem dX8_strict_99 : decode cX8_strict 99 = .ok (.iload 7, 2) := by decide +kernel
theorem dX8_strict_101 : decode cX8_strict 101 = .ok (.invokevirtual 157, 3) := by decide +kernel
theorem dX8_strict_104 : decode cX8_strict 104 = .ok (.ifCond .eq 16, 3) := by decide +kernel
theorem dX8_strict_107 : decode cX8_strict 107 = .ok (.aload_n 0, 1) := by decide +kernel
theorem dX8_strict_108 : decode cX8_strict 108 = .ok (.iload 7, 2) := by decide +kernel
theorem dX8_strict_110 : decode cX8_strict 110 = .ok (.invokevirtual 153, 3) := by decide +kernel
theorem dX8_strict_113 : decode cX8_strict 113 = .ok (.ifCond .eq 7, 3) := by decide +kernel
theorem dX8_strict_116 : decode cX8_strict 116 = .ok (.iconst 1, 1) := by decide +kernel
theorem dX8_strict_117 : decode cX8_strict 117 = .ok (.goto 4, 3) := by decide +kernel
theorem dX8_strict_120 : decode cX8_strict 120 = .ok (.iconst 0, 1) := by decide +kernel
theorem dX8_strict_121 : decode cX8_strict 121 = .ok (.iadd, 1) := by decide +kernel
theorem dX8_strict_122 : decode cX8_strict 122 = .ok (.istore 6, 2) := by decide +kernel
theorem dX8_strict_124 : decode cX8_strict 124 = .ok (.iinc 7 1, 3) := by decide +kernel
theorem dX8_strict_127 : decode cX8_strict 127 = .ok (.goto (-74), 3) := by decide +kernel
theorem dX8_strict_130 : decode cX8_strict 130 = .ok (.iload 6, 2) := by decide +kernel
theorem dX8_strict_132 : decode cX8_strict 132 = .ok (.ifCond .le 20, 3) := by decide +kernel
theorem dX8_strict_135 : decode cX8_strict 135 = .ok (.iload 6, 2) := by decide +kernel
theorem dX8_strict_137 : decode cX8_strict 137 = .ok (.iload_n 2, 1) := by decide +kernel
theorem dX8_strict_138 : decode cX8_strict 138 = .ok (.if_icmp .ge 14, 3) := by decide +kernel
theorem dX8_strict_141 : decode cX8_strict 141 = .ok (.bipush 10, 2) := by decide +kernel
theorem dX8_strict_143 : decode cX8_strict 143 = .ok (.iload 4, 2) := by decide +kernel
theorem dX8_strict_145 : decode cX8_strict 145 = .ok (.imul, 1) := by decide +kernel
theorem dX8_strict_146 : decode cX8_strict 146 = .ok (.iload 5, 2) := by decide +kernel
theorem dX8_strict_148 : decode cX8_strict 148 = .ok (.iadd, 1) := by decide +kernel
theorem dX8_strict_149 : decode cX8_strict 149 = .ok (.goto 4, 3) := by decide +kernel
theorem dX8_strict_152 : decode cX8_strict 152 = .ok (.iload_n 3, 1) := by decide +kernel
theorem dX8_strict_153 : decode cX8_strict 153 = .ok (.istore_n 3, 1) := by decide +kernel
theorem dX8_strict_154 : decode cX8_strict 154 = .ok (.iload 6, 2) := by decide +kernel
theorem dX8_strict_156 : decode cX8_strict 156 = .ok (.ifCond .le 14, 3) := by decide +kernel
theorem dX8_strict_159 : decode cX8_strict 159 = .ok (.iload 6, 2) := by decide +kernel
theorem dX8_strict_161 : decode cX8_strict 161 = .ok (.iload_n 2, 1) := by decide +kernel
theorem dX8_strict_162 : decode cX8_strict 162 = .ok (.if_icmp .ge 8, 3) := by decide +kernel
theorem dX8_strict_165 : decode cX8_strict 165 = .ok (.iload 6, 2) := by decide +kernel
theorem dX8_strict_167 : decode cX8_strict 167 = .ok (.goto 4, 3) := by decide +kernel
theorem dX8_strict_170 : decode cX8_strict 170 = .ok (.iload_n 2, 1) := by decide +kernel
theorem dX8_strict_171 : decode cX8_strict 171 = .ok (.istore_n 2, 1) := by decide +kernel
theorem dX8_strict_172 : decode cX8_strict 172 = .ok (.iinc 5 1, 3) := by decide +kernel
theorem dX8_strict_175 : decode cX8_strict 175 = .ok (.goto (-137), 3) := by decide +kernel
theorem dX8_strict_178 : decode cX8_strict 178 = .ok (.iinc 4 1, 3) := by decide +kernel
theorem dX8_strict_181 : decode cX8_strict 181 = .ok (.goto (-158), 3) := by decide +kernel
theorem dX8_strict_184 : decode cX8_strict 184 = .ok (.iload_n 3, 1) := by decide +kernel
theorem dX8_strict_185 : decode cX8_strict 185 = .ok (.bipush (-4), 2) := by decide +kernel
theorem dX8_strict_187 : decode cX8_strict 187 = .ok (.if_icmp .eq 7, 3) := by decide +kernel
theorem dX8_strict_190 : decode cX8_strict 190 = .ok (.iload_n 1, 1) := by decide +kernel
theorem dX8_strict_191 : decode cX8_strict 191 = .ok (.ifCond .ne 7, 3) := by decide +kernel
theorem dX8_strict_194 : decode cX8_strict 194 = .ok (.iload_n 3, 1) := by decide +kernel
theorem dX8_strict_195 : decode cX8_strict 195 = .ok (.goto 4, 3) := by decide +kernel
theorem dX8_strict_198 : decode cX8_strict 198 = .ok (.iload_n 2, 1) := by decide +kernel
theorem dX8_strict_199 : decode cX8_strict 199 = .ok (.ireturn, 1) := by decide +kernel
theorem dX8_lowest_0 : decode cX8_lowest 0 = .ok (.lload_n 0, 1) := by decide +kernel
theorem dX8_lowest_1 : decode cX8_lowest 1 = .ok (.lstore 5, 2) := by decide +kernel
theorem dX8_lowest_3 : decode cX8_lowest 3 = .ok (.lload_n 2, 1) := by decide +kernel
theorem dX8_lowest_4 : decode cX8_lowest 4 = .ok (.lstore 7, 2) := by decide +kernel
theorem dX8_lowest_6 : decode cX8_lowest 6 = .ok (.lload 7, 2) := by decide +kernel
theorem dX8_lowest_8 : decode cX8_lowest 8 = .ok (.lconst 0, 1) := by decide +kernel
theorem dX8_lowest_9 : decode cX8_lowest 9 = .ok (.lcmp, 1) := by decide +kernel
theorem dX8_lowest_10 : decode cX8_lowest 10 = .ok (.ifCond .eq 21, 3) := by decide +kernel
theorem dX8_lowest_13 : decode cX8_lowest 13 = .ok (.lload 5, 2) := by decide +kernel
theorem dX8_lowest_15 : decode cX8_lowest 15 = .ok (.lload 7, 2) := by decide +kernel
theorem dX8_lowest_17 : decode cX8_lowest 17 = .ok (.lrem, 1) := by decide +kernel
theorem dX8_lowest_18 : decode cX8_lowest 18 = .ok (.lstore 9, 2) := by decide +kernel
theorem dX8_lowest_20 : decode cX8_lowest 20 = .ok (.lload 7, 2) := by decide +kernel
theorem dX8_lowest_22 : decode cX8_lowest 22 = .ok (.lstore 5, 2) := by decide +kernel
theorem dX8_lowest_24 : decode cX8_lowest 24 = .ok (.lload 9, 2) := by decide +kernel
theorem dX8_lowest_26 : decode cX8_lowest 26 = .ok (.lstore 7, 2) := by decide +kernel
theorem dX8_lowest_28 : decode cX8_lowest 28 = .ok (.goto (-22), 3) := by decide +kernel
theorem dX8_lowest_31 : decode cX8_lowest 31 = .ok (.iload 4, 2) := by decide +kernel
theorem dX8_lowest_33 : decode cX8_lowest 33 = .ok (.ifCond .ne 7, 3) := by decide +kernel
theorem dX8_lowest_36 : decode cX8_lowest 36 = .ok (.lload_n 0, 1) := by decide +kernel
theorem dX8_lowest_37 : decode cX8_lowest 37 = .ok (.goto 4, 3) := by decide +kernel
theorem dX8_lowest_40 : decode cX8_lowest 40 = .ok (.lload_n 2, 1) := by decide +kernel
theorem dX8_lowest_41 : decode cX8_lowest 41 = .ok (.lload 5, 2) := by decide +kernel
theorem dX8_lowest_43 : decode cX8_lowest 43 = .ok (.ldiv, 1) := by decide +kernel
theorem dX8_lowest_44 : decode cX8_lowest 44 = .ok (.lreturn, 1) := by decide +kernel
theorem dX8_bitsOf_0 : decode cX8_bitsOf 0 = .ok (.iconst 0, 1) := by decide +kernel
theorem dX8_bitsOf_1 : decode cX8_bitsOf 1 = .ok (.istore_n 1, 1) := by decide +kernel
theorem dX8_bitsOf_2 : decode cX8_bitsOf 2 = .ok (.iconst 0, 1) := by decide +kernel
theorem dX8_bitsOf_3 : decode cX8_bitsOf 3 = .ok (.istore_n 2, 1) := by decide +kernel
theorem dX8_bitsOf_4 : decode cX8_bitsOf 4 = .ok (.iload_n 2, 1) := by decide +kernel
theorem dX8_bitsOf_5 : decode cX8_bitsOf 5 = .ok (.bipush 6, 2) := by decide +kernel
theorem dX8_bitsOf_7 : decode cX8_bitsOf 7 = .ok (.if_icmp .ge 17, 3) := by decide +kernel
theorem dX8_bitsOf_10 : decode cX8_bitsOf 10 = .ok (.iload_n 1, 1) := by decide +kernel
theorem dX8_bitsOf_11 : decode cX8_bitsOf 11 = .ok (.iload_n 0, 1) := by decide +kernel
theorem dX8_bitsOf_12 : decode cX8_bitsOf 12 = .ok (.iload_n 2, 1) := by decide +kernel
theorem dX8_bitsOf_13 : decode cX8_bitsOf 13 = .ok (.ishr, 1) := by decide +kernel
theorem dX8_bitsOf_14 : decode cX8_bitsOf 14 = .ok (.iconst 1, 1) := by decide +kernel
theorem dX8_bitsOf_15 : decode cX8_bitsOf 15 = .ok (.iand, 1) := by decide +kernel
theorem dX8_bitsOf_16 : decode cX8_bitsOf 16 = .ok (.iadd, 1) := by decide +kernel
theorem dX8_bitsOf_17 : decode cX8_bitsOf 17 = .ok (.istore_n 1, 1) := by decide +kernel
theorem dX8_bitsOf_18 : decode cX8_bitsOf 18 = .ok (.iinc 2 1, 3) := by decide +kernel
theorem dX8_bitsOf_21 : decode cX8_bitsOf 21 = .ok (.goto (-17), 3) := by decide +kernel
theorem dX8_bitsOf_24 : decode cX8_bitsOf 24 = .ok (.iload_n 1, 1) := by decide +kernel
theorem dX8_bitsOf_25 : decode cX8_bitsOf 25 = .ok (.ireturn, 1) := by decide +kernel
theorem dX8_bySlips_0 : decode cX8_bySlips 0 = .ok (.aload_n 0, 1) := by decide +kernel
theorem dX8_bySlips_1 : decode cX8_bySlips 1 = .ok (.aload_n 0, 1) := by decide +kernel
theorem dX8_bySlips_2 : decode cX8_bySlips 2 = .ok (.getfield 7, 3) := by decide +kernel
theorem dX8_bySlips_5 : decode cX8_bySlips 5 = .ok (.bipush 18, 2) := by decide +kernel
theorem dX8_bySlips_7 : decode cX8_bySlips 7 = .ok (.iaload, 1) := by decide +kernel
theorem dX8_bySlips_8 : decode cX8_bySlips 8 = .ok (.invokevirtual 147, 3) := by decide +kernel
theorem dX8_bySlips_11 : decode cX8_bySlips 11 = .ok (.istore 4, 2) := by decide +kernel
theorem dX8_bySlips_13 : decode cX8_bySlips 13 = .ok (.lconst 0, 1) := by decide +kernel
theorem dX8_bySlips_14 : decode cX8_bySlips 14 = .ok (.lstore 5, 2) := by decide +kernel
theorem dX8_bySlips_16 : decode cX8_bySlips 16 = .ok (.lconst 1, 1) := by decide +kernel
theorem dX8_bySlips_17 : decode cX8_bySlips 17 = .ok (.lstore 7, 2) := by decide +kernel
theorem dX8_bySlips_19 : decode cX8_bySlips 19 = .ok (.iconst 0, 1) := by decide +kernel
theorem dX8_bySlips_20 : decode cX8_bySlips 20 = .ok (.istore 9, 2) := by decide +kernel
theorem dX8_bySlips_22 : decode cX8_bySlips 22 = .ok (.iload 9, 2) := by decide +kernel
theorem dX8_bySlips_24 : decode cX8_bySlips 24 = .ok (.aload_n 0, 1) := by decide +kernel
theorem dX8_bySlips_25 : decode cX8_bySlips 25 = .ok (.getfield 125, 3) := by decide +kernel
theorem dX8_bySlips_28 : decode cX8_bySlips 28 = .ok (.if_icmp .ge 17, 3) := by decide +kernel
theorem dX8_bySlips_31 : decode cX8_bySlips 31 = .ok (.lload 7, 2) := by decide +kernel
theorem dX8_bySlips_33 : decode cX8_bySlips 33 = .ok (.ldc2_w 248, 3) := by decide +kernel
theorem dX8_bySlips_36 : decode cX8_bySlips 36 = .ok (.lmul, 1) := by decide +kernel
theorem dX8_bySlips_37 : decode cX8_bySlips 37 = .ok (.lstore 7, 2) := by decide +kernel
theorem dX8_bySlips_39 : decode cX8_bySlips 39 = .ok (.iinc 9 1, 3) := by decide +kernel
theorem dX8_bySlips_42 : decode cX8_bySlips 42 = .ok (.goto (-20), 3) := by decide +kernel
theorem dX8_bySlips_45 : decode cX8_bySlips 45 = .ok (.iconst 0, 1) := by decide +kernel
theorem dX8_bySlips_46 : decode cX8_bySlips 46 = .ok (.istore 9, 2) := by decide +kernel
theorem dX8_bySlips_48 : decode cX8_bySlips 48 = .ok (.iload 9, 2) := by decide +kernel
theorem dX8_bySlips_50 : decode cX8_bySlips 50 = .ok (.aload_n 0, 1) := by decide +kernel
theorem dX8_bySlips_51 : decode cX8_bySlips 51 = .ok (.invokevirtual 134, 3) := by decide +kernel
theorem dX8_bySlips_54 : decode cX8_bySlips 54 = .ok (.if_icmp .ge 115, 3) := by decide +kernel
theorem dX8_bySlips_57 : decode cX8_bySlips 57 = .ok (.lconst 1, 1) := by decide +kernel
theorem dX8_bySlips_58 : decode cX8_bySlips 58 = .ok (.lstore 10, 2) := by decide +kernel
theorem dX8_bySlips_60 : decode cX8_bySlips 60 = .ok (.iconst 0, 1) := by decide +kernel
theorem dX8_bySlips_61 : decode cX8_bySlips 61 = .ok (.istore 12, 2) := by decide +kernel
theorem dX8_bySlips_63 : decode cX8_bySlips 63 = .ok (.iload 12, 2) := by decide +kernel
theorem dX8_bySlips_65 : decode cX8_bySlips 65 = .ok (.aload_n 0, 1) := by decide +kernel
theorem dX8_bySlips_66 : decode cX8_bySlips 66 = .ok (.getfield 125, 3) := by decide +kernel
theorem dX8_bySlips_69 : decode cX8_bySlips 69 = .ok (.if_icmp .ge 35, 3) := by decide +kernel
theorem dX8_bySlips_72 : decode cX8_bySlips 72 = .ok (.lload 10, 2) := by decide +kernel
theorem dX8_bySlips_74 : decode cX8_bySlips 74 = .ok (.iload 9, 2) := by decide +kernel
theorem dX8_bySlips_76 : decode cX8_bySlips 76 = .ok (.iload 12, 2) := by decide +kernel
theorem dX8_bySlips_78 : decode cX8_bySlips 78 = .ok (.ishr, 1) := by decide +kernel
theorem dX8_bySlips_79 : decode cX8_bySlips 79 = .ok (.iconst 1, 1) := by decide +kernel
theorem dX8_bySlips_80 : decode cX8_bySlips 80 = .ok (.iand, 1) := by decide +kernel
theorem dX8_bySlips_81 : decode cX8_bySlips 81 = .ok (.iconst 1, 1) := by decide +kernel
theorem dX8_bySlips_82 : decode cX8_bySlips 82 = .ok (.if_icmp .ne 8, 3) := by decide +kernel
theorem dX8_bySlips_85 : decode cX8_bySlips 85 = .ok (.iload_n 1, 1) := by decide +kernel
theorem dX8_bySlips_86 : decode cX8_bySlips 86 = .ok (.i2l, 1) := by decide +kernel
theorem dX8_bySlips_87 : decode cX8_bySlips 87 = .ok (.goto 8, 3) := by decide +kernel
theorem dX8_bySlips_90 : decode cX8_bySlips 90 = .ok (.bipush 10, 2) := by decide +kernel
theorem dX8_bySlips_92 : decode cX8_bySlips 92 = .ok (.iload_n 1, 1) := by decide +kernel
theorem dX8_bySlips_93 : decode cX8_bySlips 93 = .ok (.isub, 1) := by decide +kernel
theorem dX8_bySlips_94 : decode cX8_bySlips 94 = .ok (.i2l, 1) := by decide +kernel
theorem dX8_bySlips_95 : decode cX8_bySlips 95 = .ok (.lmul, 1) := by decide +kernel
theorem dX8_bySlips_96 : decode cX8_bySlips 96 = .ok (.lstore 10, 2) := by decide +kernel
theorem dX8_bySlips_98 : decode cX8_bySlips 98 = .ok (.iinc 12 1, 3) := by decide +kernel
theorem dX8_bySlips_101 : decode cX8_bySlips 101 = .ok (.goto (-38), 3) := by decide +kernel
theorem dX8_bySlips_104 : decode cX8_bySlips 104 = .ok (.iload 4, 2) := by decide +kernel
theorem dX8_bySlips_106 : decode cX8_bySlips 106 = .ok (.iload 9, 2) := by decide +kernel
theorem dX8_bySlips_108 : decode cX8_bySlips 108 = .ok (.ixor, 1) := by decide +kernel
theorem dX8_bySlips_109 : decode cX8_bySlips 109 = .ok (.istore 12, 2) := by decide +kernel
theorem dX8_bySlips_111 : decode cX8_bySlips 111 = .ok (.lload 5, 2) := by decide +kernel
theorem dX8_bySlips_113 : decode cX8_bySlips 113 = .ok (.lload 10, 2) := by decide +kernel
theorem dX8_bySlips_115 : decode cX8_bySlips 115 = .ok (.iload_n 2, 1) := by decide +kernel
theorem dX8_bySlips_116 : decode cX8_bySlips 116 = .ok (.iconst 2, 1) := by decide +kernel
theorem dX8_bySlips_117 : decode cX8_bySlips 117 = .ok (.if_icmp .ne 11, 3) := by decide +kernel
theorem dX8_bySlips_120 : decode cX8_bySlips 120 = .ok (.iload 12, 2) := by decide +kernel
theorem dX8_bySlips_122 : decode cX8_bySlips 122 = .ok (.invokestatic 259, 3) := by decide +kernel
theorem dX8_bySlips_125 : decode cX8_bySlips 125 = .ok (.goto 33, 3) := by decide +kernel
theorem dX8_bySlips_128 : decode cX8_bySlips 128 = .ok (.iload_n 2, 1) := by decide +kernel
theorem dX8_bySlips_129 : decode cX8_bySlips 129 = .ok (.ifCond .ne 15, 3) := by decide +kernel
theorem dX8_bySlips_132 : decode cX8_bySlips 132 = .ok (.aload_n 0, 1) := by decide +kernel
theorem dX8_bySlips_133 : decode cX8_bySlips 133 = .ok (.iload 12, 2) := by decide +kernel
theorem dX8_bySlips_135 : decode cX8_bySlips 135 = .ok (.invokevirtual 153, 3) := by decide +kernel
theorem dX8_bySlips_138 : decode cX8_bySlips 138 = .ok (.ifCond .eq 19, 3) := by decide +kernel
theorem dX8_bySlips_141 : decode cX8_bySlips 141 = .ok (.goto 12, 3) := by decide +kernel
theorem dX8_bySlips_144 : decode cX8_bySlips 144 = .ok (.aload_n 0, 1) := by decide +kernel
theorem dX8_bySlips_145 : decode cX8_bySlips 145 = .ok (.iload 12, 2) := by decide +kernel
theorem dX8_bySlips_147 : decode cX8_bySlips 147 = .ok (.invokevirtual 157, 3) := by decide +kernel
theorem dX8_bySlips_150 : decode cX8_bySlips 150 = .ok (.ifCond .eq 7, 3) := by decide +kernel
theorem dX8_bySlips_153 : decode cX8_bySlips 153 = .ok (.iconst 1, 1) := by decide +kernel
theorem dX8_bySlips_154 : decode cX8_bySlips 154 = .ok (.goto 4, 3) := by decide +kernel
theorem dX8_bySlips_157 : decode cX8_bySlips 157 = .ok (.iconst 0, 1) := by decide +kernel
theorem dX8_bySlips_158 : decode cX8_bySlips 158 = .ok (.i2l, 1) := by decide +kernel
theorem dX8_bySlips_159 : decode cX8_bySlips 159 = .ok (.lmul, 1) := by decide +kernel
theorem dX8_bySlips_160 : decode cX8_bySlips 160 = .ok (.ladd, 1) := by decide +kernel
theorem dX8_bySlips_161 : decode cX8_bySlips 161 = .ok (.lstore 5, 2) := by decide +kernel
theorem dX8_bySlips_163 : decode cX8_bySlips 163 = .ok (.iinc 9 1, 3) := by decide +kernel
theorem dX8_bySlips_166 : decode cX8_bySlips 166 = .ok (.goto (-118), 3) := by decide +kernel
theorem dX8_bySlips_169 : decode cX8_bySlips 169 = .ok (.lload 5, 2) := by decide +kernel
theorem dX8_bySlips_171 : decode cX8_bySlips 171 = .ok (.lload 7, 2) := by decide +kernel
theorem dX8_bySlips_173 : decode cX8_bySlips 173 = .ok (.iload_n 3, 1) := by decide +kernel
theorem dX8_bySlips_174 : decode cX8_bySlips 174 = .ok (.invokestatic 262, 3) := by decide +kernel
theorem dX8_bySlips_177 : decode cX8_bySlips 177 = .ok (.lreturn, 1) := by decide +kernel
theorem dX8_luck_0 : decode cX8_luck 0 = .ok (.iload_n 1, 1) := by decide +kernel
theorem dX8_luck_1 : decode cX8_luck 1 = .ok (.i2l, 1) := by decide +kernel
theorem dX8_luck_2 : decode cX8_luck 2 = .ok (.lconst 0, 1) := by decide +kernel
theorem dX8_luck_3 : decode cX8_luck 3 = .ok (.ldc2_w 248, 3) := by decide +kernel
theorem dX8_luck_6 : decode cX8_luck 6 = .ok (.invokestatic 46, 3) := by decide +kernel
theorem dX8_luck_9 : decode cX8_luck 9 = .ok (.ifCond .eq 23, 3) := by decide +kernel
theorem dX8_luck_12 : decode cX8_luck 12 = .ok (.iload_n 2, 1) := by decide +kernel
theorem dX8_luck_13 : decode cX8_luck 13 = .ok (.i2l, 1) := by decide +kernel
theorem dX8_luck_14 : decode cX8_luck 14 = .ok (.lconst 0, 1) := by decide +kernel
theorem dX8_luck_15 : decode cX8_luck 15 = .ok (.lconst 1, 1) := by decide +kernel
theorem dX8_luck_16 : decode cX8_luck 16 = .ok (.invokestatic 46, 3) := by decide +kernel
theorem dX8_luck_19 : decode cX8_luck 19 = .ok (.ifCond .eq 13, 3) := by decide +kernel
theorem dX8_luck_22 : decode cX8_luck 22 = .ok (.aload_n 0, 1) := by decide +kernel
theorem dX8_luck_23 : decode cX8_luck 23 = .ok (.iload_n 1, 1) := by decide +kernel
theorem dX8_luck_24 : decode cX8_luck 24 = .ok (.iconst 0, 1) := by decide +kernel
theorem dX8_luck_25 : decode cX8_luck 25 = .ok (.iload_n 2, 1) := by decide +kernel
theorem dX8_luck_26 : decode cX8_luck 26 = .ok (.invokevirtual 266, 3) := by decide +kernel
theorem dX8_luck_29 : decode cX8_luck 29 = .ok (.goto 6, 3) := by decide +kernel
theorem dX8_luck_32 : decode cX8_luck 32 = .ok (.ldc2_w 270, 3) := by decide +kernel
theorem dX8_luck_35 : decode cX8_luck 35 = .ok (.lreturn, 1) := by decide +kernel
theorem dX8_calm_0 : decode cX8_calm 0 = .ok (.iload_n 1, 1) := by decide +kernel
theorem dX8_calm_1 : decode cX8_calm 1 = .ok (.i2l, 1) := by decide +kernel
theorem dX8_calm_2 : decode cX8_calm 2 = .ok (.lconst 0, 1) := by decide +kernel
theorem dX8_calm_3 : decode cX8_calm 3 = .ok (.ldc2_w 248, 3) := by decide +kernel
theorem dX8_calm_6 : decode cX8_calm 6 = .ok (.invokestatic 46, 3) := by decide +kernel
theorem dX8_calm_9 : decode cX8_calm 9 = .ok (.ifCond .eq 23, 3) := by decide +kernel
theorem dX8_calm_12 : decode cX8_calm 12 = .ok (.iload_n 2, 1) := by decide +kernel
theorem dX8_calm_13 : decode cX8_calm 13 = .ok (.i2l, 1) := by decide +kernel
theorem dX8_calm_14 : decode cX8_calm 14 = .ok (.lconst 0, 1) := by decide +kernel
theorem dX8_calm_15 : decode cX8_calm 15 = .ok (.lconst 1, 1) := by decide +kernel
theorem dX8_calm_16 : decode cX8_calm 16 = .ok (.invokestatic 46, 3) := by decide +kernel
theorem dX8_calm_19 : decode cX8_calm 19 = .ok (.ifCond .eq 13, 3) := by decide +kernel
theorem dX8_calm_22 : decode cX8_calm 22 = .ok (.aload_n 0, 1) := by decide +kernel
theorem dX8_calm_23 : decode cX8_calm 23 = .ok (.iload_n 1, 1) := by decide +kernel
theorem dX8_calm_24 : decode cX8_calm 24 = .ok (.iconst 1, 1) := by decide +kernel
theorem dX8_calm_25 : decode cX8_calm 25 = .ok (.iload_n 2, 1) := by decide +kernel
theorem dX8_calm_26 : decode cX8_calm 26 = .ok (.invokevirtual 266, 3) := by decide +kernel
theorem dX8_calm_29 : decode cX8_calm 29 = .ok (.goto 6, 3) := by decide +kernel
theorem dX8_calm_32 : decode cX8_calm 32 = .ok (.ldc2_w 270, 3) := by decide +kernel
theorem dX8_calm_35 : decode cX8_calm 35 = .ok (.lreturn, 1) := by decide +kernel
theorem dX8_mean_0 : decode cX8_mean 0 = .ok (.iload_n 1, 1) := by decide +kernel
theorem dX8_mean_1 : decode cX8_mean 1 = .ok (.i2l, 1) := by decide +kernel
theorem dX8_mean_2 : decode cX8_mean 2 = .ok (.lconst 0, 1) := by decide +kernel
theorem dX8_mean_3 : decode cX8_mean 3 = .ok (.ldc2_w 248, 3) := by decide +kernel
theorem dX8_mean_6 : decode cX8_mean 6 = .ok (.invokestatic 46, 3) := by decide +kernel
theorem dX8_mean_9 : decode cX8_mean 9 = .ok (.ifCond .eq 23, 3) := by decide +kernel
theorem dX8_mean_12 : decode cX8_mean 12 = .ok (.iload_n 2, 1) := by decide +kernel
theorem dX8_mean_13 : decode cX8_mean 13 = .ok (.i2l, 1) := by decide +kernel
theorem dX8_mean_14 : decode cX8_mean 14 = .ok (.lconst 0, 1) := by decide +kernel
theorem dX8_mean_15 : decode cX8_mean 15 = .ok (.lconst 1, 1) := by decide +kernel
theorem dX8_mean_16 : decode cX8_mean 16 = .ok (.invokestatic 46, 3) := by decide +kernel
theorem dX8_mean_19 : decode cX8_mean 19 = .ok (.ifCond .eq 13, 3) := by decide +kernel
theorem dX8_mean_22 : decode cX8_mean 22 = .ok (.aload_n 0, 1) := by decide +kernel
theorem dX8_mean_23 : decode cX8_mean 23 = .ok (.iload_n 1, 1) := by decide +kernel
theorem dX8_mean_24 : decode cX8_mean 24 = .ok (.iconst 2, 1) := by decide +kernel
theorem dX8_mean_25 : decode cX8_mean 25 = .ok (.iload_n 2, 1) := by decide +kernel
theorem dX8_mean_26 : decode cX8_mean 26 = .ok (.invokevirtual 266, 3) := by decide +kernel
theorem dX8_mean_29 : decode cX8_mean 29 = .ok (.goto 6, 3) := by decide +kernel
theorem dX8_mean_32 : decode cX8_mean 32 = .ok (.ldc2_w 270, 3) := by decide +kernel
theorem dX8_mean_35 : decode cX8_mean 35 = .ok (.lreturn, 1) := by decide +kernel
theorem dX8_see_0 : decode cX8_see 0 = .ok (.aload_n 0, 1) := by decide +kernel
theorem dX8_see_1 : decode cX8_see 1 = .ok (.iload_n 1, 1) := by decide +kernel
theorem dX8_see_2 : decode cX8_see 2 = .ok (.invokevirtual 160, 3) := by decide +kernel
theorem dX8_see_5 : decode cX8_see 5 = .ok (.ifCond .eq 15, 3) := by decide +kernel
theorem dX8_see_8 : decode cX8_see 8 = .ok (.iload_n 2, 1) := by decide +kernel
theorem dX8_see_9 : decode cX8_see 9 = .ok (.i2l, 1) := by decide +kernel
theorem dX8_see_10 : decode cX8_see 10 = .ok (.lconst 0, 1) := by decide +kernel
theorem dX8_see_11 : decode cX8_see 11 = .ok (.ldc2_w 181, 3) := by decide +kernel
theorem dX8_see_14 : decode cX8_see 14 = .ok (.invokestatic 46, 3) := by decide +kernel
theorem dX8_see_17 : decode cX8_see 17 = .ok (.ifCond .ne 5, 3) := by decide +kernel
theorem dX8_see_20 : decode cX8_see 20 = .ok (.iconst (-1), 1) := by decide +kernel
theorem dX8_see_21 : decode cX8_see 21 = .ok (.ireturn, 1) := by decide +kernel
theorem dX8_see_22 : decode cX8_see 22 = .ok (.aload_n 0, 1) := by decide +kernel
theorem dX8_see_23 : decode cX8_see 23 = .ok (.getfield 131, 3) := by decide +kernel
theorem dX8_see_26 : decode cX8_see 26 = .ok (.bipush 6, 2) := by decide +kernel
theorem dX8_see_28 : decode cX8_see 28 = .ok (.if_icmp .ne 6, 3) := by decide +kernel
theorem dX8_see_31 : decode cX8_see 31 = .ok (.bipush (-3), 2) := by decide +kernel
theorem dX8_see_33 : decode cX8_see 33 = .ok (.ireturn, 1) := by decide +kernel
theorem dX8_see_34 : decode cX8_see 34 = .ok (.aload_n 0, 1) := by decide +kernel
theorem dX8_see_35 : decode cX8_see 35 = .ok (.getfield 25, 3) := by decide +kernel
theorem dX8_see_38 : decode cX8_see 38 = .ok (.iconst 3, 1) := by decide +kernel
theorem dX8_see_39 : decode cX8_see 39 = .ok (.aload_n 0, 1) := by decide +kernel
theorem dX8_see_40 : decode cX8_see 40 = .ok (.getfield 131, 3) := by decide +kernel
theorem dX8_see_43 : decode cX8_see 43 = .ok (.imul, 1) := by decide +kernel
theorem dX8_see_44 : decode cX8_see 44 = .ok (.iload_n 1, 1) := by decide +kernel
theorem dX8_see_45 : decode cX8_see 45 = .ok (.iastore, 1) := by decide +kernel
theorem dX8_see_46 : decode cX8_see 46 = .ok (.aload_n 0, 1) := by decide +kernel
theorem dX8_see_47 : decode cX8_see 47 = .ok (.getfield 25, 3) := by decide +kernel
theorem dX8_see_50 : decode cX8_see 50 = .ok (.iconst 3, 1) := by decide +kernel
theorem dX8_see_51 : decode cX8_see 51 = .ok (.aload_n 0, 1) := by decide +kernel
theorem dX8_see_52 : decode cX8_see 52 = .ok (.getfield 131, 3) := by decide +kernel
theorem dX8_see_55 : decode cX8_see 55 = .ok (.imul, 1) := by decide +kernel
theorem dX8_see_56 : decode cX8_see 56 = .ok (.iconst 1, 1) := by decide +kernel
theorem dX8_see_57 : decode cX8_see 57 = .ok (.iadd, 1) := by decide +kernel
theorem dX8_see_58 : decode cX8_see 58 = .ok (.iload_n 2, 1) := by decide +kernel
theorem dX8_see_59 : decode cX8_see 59 = .ok (.iastore, 1) := by decide +kernel
theorem dX8_see_60 : decode cX8_see 60 = .ok (.aload_n 0, 1) := by decide +kernel
theorem dX8_see_61 : decode cX8_see 61 = .ok (.getfield 25, 3) := by decide +kernel
theorem dX8_see_64 : decode cX8_see 64 = .ok (.iconst 3, 1) := by decide +kernel
theorem dX8_see_65 : decode cX8_see 65 = .ok (.aload_n 0, 1) := by decide +kernel
theorem dX8_see_66 : decode cX8_see 66 = .ok (.getfield 131, 3) := by decide +kernel
theorem dX8_see_69 : decode cX8_see 69 = .ok (.imul, 1) := by decide +kernel
theorem dX8_see_70 : decode cX8_see 70 = .ok (.iconst 2, 1) := by decide +kernel
theorem dX8_see_71 : decode cX8_see 71 = .ok (.iadd, 1) := by decide +kernel
theorem dX8_see_72 : decode cX8_see 72 = .ok (.iload_n 3, 1) := by decide +kernel
theorem dX8_see_73 : decode cX8_see 73 = .ok (.ifCond .eq 7, 3) := by decide +kernel
theorem dX8_see_76 : decode cX8_see 76 = .ok (.iconst 1, 1) := by decide +kernel
theorem dX8_see_77 : decode cX8_see 77 = .ok (.goto 4, 3) := by decide +kernel
theorem dX8_see_80 : decode cX8_see 80 = .ok (.iconst 0, 1) := by decide +kernel
theorem dX8_see_81 : decode cX8_see 81 = .ok (.iastore, 1) := by decide +kernel
theorem dX8_see_82 : decode cX8_see 82 = .ok (.aload_n 0, 1) := by decide +kernel
theorem dX8_see_83 : decode cX8_see 83 = .ok (.dup, 1) := by decide +kernel
theorem dX8_see_84 : decode cX8_see 84 = .ok (.getfield 131, 3) := by decide +kernel
theorem dX8_see_87 : decode cX8_see 87 = .ok (.iconst 1, 1) := by decide +kernel
theorem dX8_see_88 : decode cX8_see 88 = .ok (.iadd, 1) := by decide +kernel
theorem dX8_see_89 : decode cX8_see 89 = .ok (.putfield 131, 3) := by decide +kernel
theorem dX8_see_92 : decode cX8_see 92 = .ok (.aload_n 0, 1) := by decide +kernel
theorem dX8_see_93 : decode cX8_see 93 = .ok (.getfield 131, 3) := by decide +kernel
theorem dX8_see_96 : decode cX8_see 96 = .ok (.ireturn, 1) := by decide +kernel
theorem dX8_forget_0 : decode cX8_forget 0 = .ok (.iload_n 1, 1) := by decide +kernel
theorem dX8_forget_1 : decode cX8_forget 1 = .ok (.i2l, 1) := by decide +kernel
theorem dX8_forget_2 : decode cX8_forget 2 = .ok (.lconst 0, 1) := by decide +kernel
theorem dX8_forget_3 : decode cX8_forget 3 = .ok (.aload_n 0, 1) := by decide +kernel
theorem dX8_forget_4 : decode cX8_forget 4 = .ok (.getfield 131, 3) := by decide +kernel
theorem dX8_forget_7 : decode cX8_forget 7 = .ok (.i2l, 1) := by decide +kernel
theorem dX8_forget_8 : decode cX8_forget 8 = .ok (.invokestatic 46, 3) := by decide +kernel
theorem dX8_forget_11 : decode cX8_forget 11 = .ok (.ifCond .ne 5, 3) := by decide +kernel
theorem dX8_forget_14 : decode cX8_forget 14 = .ok (.iconst (-1), 1) := by decide +kernel
theorem dX8_forget_15 : decode cX8_forget 15 = .ok (.ireturn, 1) := by decide +kernel
theorem dX8_forget_16 : decode cX8_forget 16 = .ok (.aload_n 0, 1) := by decide +kernel
theorem dX8_forget_17 : decode cX8_forget 17 = .ok (.getfield 131, 3) := by decide +kernel
theorem dX8_forget_20 : decode cX8_forget 20 = .ok (.istore_n 2, 1) := by decide +kernel
theorem dX8_forget_21 : decode cX8_forget 21 = .ok (.aload_n 0, 1) := by decide +kernel
theorem dX8_forget_22 : decode cX8_forget 22 = .ok (.iload_n 1, 1) := by decide +kernel
theorem dX8_forget_23 : decode cX8_forget 23 = .ok (.putfield 131, 3) := by decide +kernel
theorem dX8_forget_26 : decode cX8_forget 26 = .ok (.iload_n 2, 1) := by decide +kernel
theorem dX8_forget_27 : decode cX8_forget 27 = .ok (.ireturn, 1) := by decide +kernel
theorem dX8_doesFit_0 : decode cX8_doesFit 0 = .ok (.iconst 1, 1) := by decide +kernel
theorem dX8_doesFit_1 : decode cX8_doesFit 1 = .ok (.istore_n 2, 1) := by decide +kernel
theorem dX8_doesFit_2 : decode cX8_doesFit 2 = .ok (.iconst 0, 1) := by decide +kernel
theorem dX8_doesFit_3 : decode cX8_doesFit 3 = .ok (.istore_n 3, 1) := by decide +kernel
theorem dX8_doesFit_4 : decode cX8_doesFit 4 = .ok (.iload_n 3, 1) := by decide +kernel
theorem dX8_doesFit_5 : decode cX8_doesFit 5 = .ok (.aload_n 0, 1) := by decide +kernel
theorem dX8_doesFit_6 : decode cX8_doesFit 6 = .ok (.getfield 131, 3) := by decide +kernel
theorem dX8_doesFit_9 : decode cX8_doesFit 9 = .ok (.if_icmp .ge 58, 3) := by decide +kernel
theorem dX8_doesFit_12 : decode cX8_doesFit 12 = .ok (.iload_n 2, 1) := by decide +kernel
theorem dX8_doesFit_13 : decode cX8_doesFit 13 = .ok (.ifCond .eq 46, 3) := by decide +kernel
theorem dX8_doesFit_16 : decode cX8_doesFit 16 = .ok (.aload_n 0, 1) := by decide +kernel
theorem dX8_doesFit_17 : decode cX8_doesFit 17 = .ok (.iload_n 1, 1) := by decide +kernel
theorem dX8_doesFit_18 : decode cX8_doesFit 18 = .ok (.aload_n 0, 1) := by decide +kernel
theorem dX8_doesFit_19 : decode cX8_doesFit 19 = .ok (.getfield 25, 3) := by decide +kernel
theorem dX8_doesFit_22 : decode cX8_doesFit 22 = .ok (.iconst 3, 1) := by decide +kernel
theorem dX8_doesFit_23 : decode cX8_doesFit 23 = .ok (.iload_n 3, 1) := by decide +kernel
theorem dX8_doesFit_24 : decode cX8_doesFit 24 = .ok (.imul, 1) := by decide +kernel
theorem dX8_doesFit_25 : decode cX8_doesFit 25 = .ok (.iconst 1, 1) := by decide +kernel
theorem dX8_doesFit_26 : decode cX8_doesFit 26 = .ok (.iadd, 1) := by decide +kernel
theorem dX8_doesFit_27 : decode cX8_doesFit 27 = .ok (.iaload, 1) := by decide +kernel
theorem dX8_doesFit_28 : decode cX8_doesFit 28 = .ok (.invokevirtual 188, 3) := by decide +kernel
theorem dX8_doesFit_31 : decode cX8_doesFit 31 = .ok (.aload_n 0, 1) := by decide +kernel
theorem dX8_doesFit_32 : decode cX8_doesFit 32 = .ok (.getfield 25, 3) := by decide +kernel
theorem dX8_doesFit_35 : decode cX8_doesFit 35 = .ok (.iconst 3, 1) := by decide +kernel
theorem dX8_doesFit_36 : decode cX8_doesFit 36 = .ok (.iload_n 3, 1) := by decide +kernel
theorem dX8_doesFit_37 : decode cX8_doesFit 37 = .ok (.imul, 1) := by decide +kernel
theorem dX8_doesFit_38 : decode cX8_doesFit 38 = .ok (.iaload, 1) := by decide +kernel
theorem dX8_doesFit_39 : decode cX8_doesFit 39 = .ok (.ishr, 1) := by decide +kernel
theorem dX8_doesFit_40 : decode cX8_doesFit 40 = .ok (.iconst 1, 1) := by decide +kernel
theorem dX8_doesFit_41 : decode cX8_doesFit 41 = .ok (.iand, 1) := by decide +kernel
theorem dX8_doesFit_42 : decode cX8_doesFit 42 = .ok (.aload_n 0, 1) := by decide +kernel
theorem dX8_doesFit_43 : decode cX8_doesFit 43 = .ok (.getfield 25, 3) := by decide +kernel
theorem dX8_doesFit_46 : decode cX8_doesFit 46 = .ok (.iconst 3, 1) := by decide +kernel
theorem dX8_doesFit_47 : decode cX8_doesFit 47 = .ok (.iload_n 3, 1) := by decide +kernel
theorem dX8_doesFit_48 : decode cX8_doesFit 48 = .ok (.imul, 1) := by decide +kernel
theorem dX8_doesFit_49 : decode cX8_doesFit 49 = .ok (.iconst 2, 1) := by decide +kernel
theorem dX8_doesFit_50 : decode cX8_doesFit 50 = .ok (.iadd, 1) := by decide +kernel
theorem dX8_doesFit_51 : decode cX8_doesFit 51 = .ok (.iaload, 1) := by decide +kernel
theorem dX8_doesFit_52 : decode cX8_doesFit 52 = .ok (.if_icmp .ne 7, 3) := by decide +kernel
theorem dX8_doesFit_55 : decode cX8_doesFit 55 = .ok (.iconst 1, 1) := by decide +kernel
theorem dX8_doesFit_56 : decode cX8_doesFit 56 = .ok (.goto 4, 3) := by decide +kernel
theorem dX8_doesFit_59 : decode cX8_doesFit 59 = .ok (.iconst 0, 1) := by decide +kernel
theorem dX8_doesFit_60 : decode cX8_doesFit 60 = .ok (.istore_n 2, 1) := by decide +kernel
theorem dX8_doesFit_61 : decode cX8_doesFit 61 = .ok (.iinc 3 1, 3) := by decide +kernel
theorem dX8_doesFit_64 : decode cX8_doesFit 64 = .ok (.goto (-60), 3) := by decide +kernel
theorem dX8_doesFit_67 : decode cX8_doesFit 67 = .ok (.iload_n 2, 1) := by decide +kernel
theorem dX8_doesFit_68 : decode cX8_doesFit 68 = .ok (.ireturn, 1) := by decide +kernel
theorem dX8_fits_0 : decode cX8_fits 0 = .ok (.iload_n 1, 1) := by decide +kernel
theorem dX8_fits_1 : decode cX8_fits 1 = .ok (.i2l, 1) := by decide +kernel
theorem dX8_fits_2 : decode cX8_fits 2 = .ok (.lconst 0, 1) := by decide +kernel
theorem dX8_fits_3 : decode cX8_fits 3 = .ok (.ldc2_w 194, 3) := by decide +kernel
theorem dX8_fits_6 : decode cX8_fits 6 = .ok (.invokestatic 46, 3) := by decide +kernel
theorem dX8_fits_9 : decode cX8_fits 9 = .ok (.ifCond .ne 5, 3) := by decide +kernel
theorem dX8_fits_12 : decode cX8_fits 12 = .ok (.iconst (-1), 1) := by decide +kernel
theorem dX8_fits_13 : decode cX8_fits 13 = .ok (.ireturn, 1) := by decide +kernel
theorem dX8_fits_14 : decode cX8_fits 14 = .ok (.aload_n 0, 1) := by decide +kernel
theorem dX8_fits_15 : decode cX8_fits 15 = .ok (.invokevirtual 212, 3) := by decide +kernel
theorem dX8_fits_18 : decode cX8_fits 18 = .ok (.iconst 0, 1) := by decide +kernel
theorem dX8_fits_19 : decode cX8_fits 19 = .ok (.istore_n 2, 1) := by decide +kernel
theorem dX8_fits_20 : decode cX8_fits 20 = .ok (.iload_n 2, 1) := by decide +kernel
theorem dX8_fits_21 : decode cX8_fits 21 = .ok (.aload_n 0, 1) := by decide +kernel
theorem dX8_fits_22 : decode cX8_fits 22 = .ok (.invokevirtual 134, 3) := by decide +kernel
theorem dX8_fits_25 : decode cX8_fits 25 = .ok (.if_icmp .ge 22, 3) := by decide +kernel
theorem dX8_fits_28 : decode cX8_fits 28 = .ok (.aload_n 0, 1) := by decide +kernel
theorem dX8_fits_29 : decode cX8_fits 29 = .ok (.iload_n 2, 1) := by decide +kernel
theorem dX8_fits_30 : decode cX8_fits 30 = .ok (.invokevirtual 272, 3) := by decide +kernel
theorem dX8_fits_33 : decode cX8_fits 33 = .ok (.ifCond .eq 8, 3) := by decide +kernel
theorem dX8_fits_36 : decode cX8_fits 36 = .ok (.aload_n 0, 1) := by decide +kernel
theorem dX8_fits_37 : decode cX8_fits 37 = .ok (.iload_n 2, 1) := by decide +kernel
theorem dX8_fits_38 : decode cX8_fits 38 = .ok (.invokevirtual 215, 3) := by decide +kernel
theorem dX8_fits_41 : decode cX8_fits 41 = .ok (.iinc 2 1, 3) := by decide +kernel
theorem dX8_fits_44 : decode cX8_fits 44 = .ok (.goto (-24), 3) := by decide +kernel
theorem dX8_fits_47 : decode cX8_fits 47 = .ok (.aload_n 0, 1) := by decide +kernel
theorem dX8_fits_48 : decode cX8_fits 48 = .ok (.iload_n 1, 1) := by decide +kernel
theorem dX8_fits_49 : decode cX8_fits 49 = .ok (.invokevirtual 221, 3) := by decide +kernel
theorem dX8_fits_52 : decode cX8_fits 52 = .ok (.ireturn, 1) := by decide +kernel
theorem dX8_look_0 : decode cX8_look 0 = .ok (.iload_n 1, 1) := by decide +kernel
theorem dX8_look_1 : decode cX8_look 1 = .ok (.i2l, 1) := by decide +kernel
theorem dX8_look_2 : decode cX8_look 2 = .ok (.lconst 0, 1) := by decide +kernel
theorem dX8_look_3 : decode cX8_look 3 = .ok (.lconst 1, 1) := by decide +kernel
theorem dX8_look_4 : decode cX8_look 4 = .ok (.invokestatic 46, 3) := by decide +kernel
theorem dX8_look_7 : decode cX8_look 7 = .ok (.ifCond .ne 5, 3) := by decide +kernel
theorem dX8_look_10 : decode cX8_look 10 = .ok (.iconst (-1), 1) := by decide +kernel
theorem dX8_look_11 : decode cX8_look 11 = .ok (.ireturn, 1) := by decide +kernel
theorem dX8_look_12 : decode cX8_look 12 = .ok (.iconst 0, 1) := by decide +kernel
theorem dX8_look_13 : decode cX8_look 13 = .ok (.istore_n 2, 1) := by decide +kernel
theorem dX8_look_14 : decode cX8_look 14 = .ok (.iconst 0, 1) := by decide +kernel
theorem dX8_look_15 : decode cX8_look 15 = .ok (.istore_n 3, 1) := by decide +kernel
theorem dX8_look_16 : decode cX8_look 16 = .ok (.iload_n 3, 1) := by decide +kernel
theorem dX8_look_17 : decode cX8_look 17 = .ok (.bipush 60, 2) := by decide +kernel
theorem dX8_look_19 : decode cX8_look 19 = .ok (.if_icmp .ge 16, 3) := by decide +kernel
theorem dX8_look_22 : decode cX8_look 22 = .ok (.aload_n 0, 1) := by decide +kernel
theorem dX8_look_23 : decode cX8_look 23 = .ok (.getfield 28, 3) := by decide +kernel
theorem dX8_look_26 : decode cX8_look 26 = .ok (.iload_n 3, 1) := by decide +kernel
theorem dX8_look_27 : decode cX8_look 27 = .ok (.iconst 0, 1) := by decide +kernel
theorem dX8_look_28 : decode cX8_look 28 = .ok (.iastore, 1) := by decide +kernel
theorem dX8_look_29 : decode cX8_look 29 = .ok (.iinc 3 1, 3) := by decide +kernel
theorem dX8_look_32 : decode cX8_look 32 = .ok (.goto (-16), 3) := by decide +kernel
theorem dX8_look_35 : decode cX8_look 35 = .ok (.iconst 0, 1) := by decide +kernel
theorem dX8_look_36 : decode cX8_look 36 = .ok (.istore_n 3, 1) := by decide +kernel
theorem dX8_look_37 : decode cX8_look 37 = .ok (.iload_n 3, 1) := by decide +kernel
theorem dX8_look_38 : decode cX8_look 38 = .ok (.aload_n 0, 1) := by decide +kernel
theorem dX8_look_39 : decode cX8_look 39 = .ok (.invokevirtual 134, 3) := by decide +kernel
theorem dX8_look_42 : decode cX8_look 42 = .ok (.if_icmp .ge 64, 3) := by decide +kernel
theorem dX8_look_45 : decode cX8_look 45 = .ok (.aload_n 0, 1) := by decide +kernel
theorem dX8_look_46 : decode cX8_look 46 = .ok (.iload_n 3, 1) := by decide +kernel
theorem dX8_look_47 : decode cX8_look 47 = .ok (.invokevirtual 272, 3) := by decide +kernel
theorem dX8_look_50 : decode cX8_look 50 = .ok (.ifCond .eq 50, 3) := by decide +kernel
theorem dX8_look_53 : decode cX8_look 53 = .ok (.iinc 2 1, 3) := by decide +kernel
theorem dX8_look_56 : decode cX8_look 56 = .ok (.iconst 0, 1) := by decide +kernel
theorem dX8_look_57 : decode cX8_look 57 = .ok (.istore 4, 2) := by decide +kernel
theorem dX8_look_59 : decode cX8_look 59 = .ok (.iload 4, 2) := by decide +kernel
theorem dX8_look_61 : decode cX8_look 61 = .ok (.bipush 60, 2) := by decide +kernel
theorem dX8_look_63 : decode cX8_look 63 = .ok (.if_icmp .ge 37, 3) := by decide +kernel
theorem dX8_look_66 : decode cX8_look 66 = .ok (.aload_n 0, 1) := by decide +kernel
theorem dX8_look_67 : decode cX8_look 67 = .ok (.getfield 28, 3) := by decide +kernel
theorem dX8_look_70 : decode cX8_look 70 = .ok (.iload 4, 2) := by decide +kernel
theorem dX8_look_72 : decode cX8_look 72 = .ok (.dup2, 1) := by decide +kernel
theorem dX8_look_73 : decode cX8_look 73 = .ok (.iaload, 1) := by decide +kernel
theorem dX8_look_74 : decode cX8_look 74 = .ok (.aload_n 0, 1) := by decide +kernel
theorem dX8_look_75 : decode cX8_look 75 = .ok (.iload_n 3, 1) := by decide +kernel
theorem dX8_look_76 : decode cX8_look 76 = .ok (.iload 4, 2) := by decide +kernel
theorem dX8_look_78 : decode cX8_look 78 = .ok (.bipush 6, 2) := by decide +kernel
theorem dX8_look_80 : decode cX8_look 80 = .ok (.idiv, 1) := by decide +kernel
theorem dX8_look_81 : decode cX8_look 81 = .ok (.invokevirtual 188, 3) := by decide +kernel
theorem dX8_look_84 : decode cX8_look 84 = .ok (.iload 4, 2) := by decide +kernel
theorem dX8_look_86 : decode cX8_look 86 = .ok (.bipush 6, 2) := by decide +kernel
theorem dX8_look_88 : decode cX8_look 88 = .ok (.irem, 1) := by decide +kernel
theorem dX8_look_89 : decode cX8_look 89 = .ok (.ishr, 1) := by decide +kernel
theorem dX8_look_90 : decode cX8_look 90 = .ok (.iconst 1, 1) := by decide +kernel
theorem dX8_look_91 : decode cX8_look 91 = .ok (.iand, 1) := by decide +kernel
theorem dX8_look_92 : decode cX8_look 92 = .ok (.iadd, 1) := by decide +kernel
theorem dX8_look_93 : decode cX8_look 93 = .ok (.iastore, 1) := by decide +kernel
theorem dX8_look_94 : decode cX8_look 94 = .ok (.iinc 4 1, 3) := by decide +kernel
theorem dX8_look_97 : decode cX8_look 97 = .ok (.goto (-38), 3) := by decide +kernel
theorem dX8_look_100 : decode cX8_look 100 = .ok (.iinc 3 1, 3) := by decide +kernel
theorem dX8_look_103 : decode cX8_look 103 = .ok (.goto (-66), 3) := by decide +kernel
theorem dX8_look_106 : decode cX8_look 106 = .ok (.iload_n 2, 1) := by decide +kernel
theorem dX8_look_107 : decode cX8_look 107 = .ok (.istore_n 3, 1) := by decide +kernel
theorem dX8_look_108 : decode cX8_look 108 = .ok (.bipush (-4), 2) := by decide +kernel
theorem dX8_look_110 : decode cX8_look 110 = .ok (.istore 4, 2) := by decide +kernel
theorem dX8_look_112 : decode cX8_look 112 = .ok (.iconst 0, 1) := by decide +kernel
theorem dX8_look_113 : decode cX8_look 113 = .ok (.istore 5, 2) := by decide +kernel
theorem dX8_look_115 : decode cX8_look 115 = .ok (.iload 5, 2) := by decide +kernel
theorem dX8_look_117 : decode cX8_look 117 = .ok (.bipush 60, 2) := by decide +kernel
theorem dX8_look_119 : decode cX8_look 119 = .ok (.if_icmp .ge 112, 3) := by decide +kernel
theorem dX8_look_122 : decode cX8_look 122 = .ok (.aload_n 0, 1) := by decide +kernel
theorem dX8_look_123 : decode cX8_look 123 = .ok (.getfield 28, 3) := by decide +kernel
theorem dX8_look_126 : decode cX8_look 126 = .ok (.iload 5, 2) := by decide +kernel
theorem dX8_look_128 : decode cX8_look 128 = .ok (.iaload, 1) := by decide +kernel
theorem dX8_look_129 : decode cX8_look 129 = .ok (.iload_n 2, 1) := by decide +kernel
theorem dX8_look_130 : decode cX8_look 130 = .ok (.aload_n 0, 1) := by decide +kernel
theorem dX8_look_131 : decode cX8_look 131 = .ok (.getfield 28, 3) := by decide +kernel
theorem dX8_look_134 : decode cX8_look 134 = .ok (.iload 5, 2) := by decide +kernel
theorem dX8_look_136 : decode cX8_look 136 = .ok (.iaload, 1) := by decide +kernel
theorem dX8_look_137 : decode cX8_look 137 = .ok (.isub, 1) := by decide +kernel
theorem dX8_look_138 : decode cX8_look 138 = .ok (.if_icmp .le 13, 3) := by decide +kernel
theorem dX8_look_141 : decode cX8_look 141 = .ok (.aload_n 0, 1) := by decide +kernel
theorem dX8_look_142 : decode cX8_look 142 = .ok (.getfield 28, 3) := by decide +kernel
theorem dX8_look_145 : decode cX8_look 145 = .ok (.iload 5, 2) := by decide +kernel
theorem dX8_look_147 : decode cX8_look 147 = .ok (.iaload, 1) := by decide +kernel
theorem dX8_look_148 : decode cX8_look 148 = .ok (.goto 12, 3) := by decide +kernel
theorem dX8_look_151 : decode cX8_look 151 = .ok (.iload_n 2, 1) := by decide +kernel
theorem dX8_look_152 : decode cX8_look 152 = .ok (.aload_n 0, 1) := by decide +kernel
theorem dX8_look_153 : decode cX8_look 153 = .ok (.getfield 28, 3) := by decide +kernel
theorem dX8_look_156 : decode cX8_look 156 = .ok (.iload 5, 2) := by decide +kernel
theorem dX8_look_158 : decode cX8_look 158 = .ok (.iaload, 1) := by decide +kernel
theorem dX8_look_159 : decode cX8_look 159 = .ok (.isub, 1) := by decide +kernel
theorem dX8_look_160 : decode cX8_look 160 = .ok (.istore 6, 2) := by decide +kernel
theorem dX8_look_162 : decode cX8_look 162 = .ok (.iload 5, 2) := by decide +kernel
theorem dX8_look_164 : decode cX8_look 164 = .ok (.bipush 6, 2) := by decide +kernel
theorem dX8_look_166 : decode cX8_look 166 = .ok (.irem, 1) := by decide +kernel
theorem dX8_look_167 : decode cX8_look 167 = .ok (.aload_n 0, 1) := by decide +kernel
theorem dX8_look_168 : decode cX8_look 168 = .ok (.getfield 125, 3) := by decide +kernel
theorem dX8_look_171 : decode cX8_look 171 = .ok (.if_icmp .ge 13, 3) := by decide +kernel
theorem dX8_look_174 : decode cX8_look 174 = .ok (.iload 6, 2) := by decide +kernel
theorem dX8_look_176 : decode cX8_look 176 = .ok (.iload_n 3, 1) := by decide +kernel
theorem dX8_look_177 : decode cX8_look 177 = .ok (.if_icmp .ge 7, 3) := by decide +kernel
theorem dX8_look_180 : decode cX8_look 180 = .ok (.iconst 1, 1) := by decide +kernel
theorem dX8_look_181 : decode cX8_look 181 = .ok (.goto 4, 3) := by decide +kernel
theorem dX8_look_184 : decode cX8_look 184 = .ok (.iconst 0, 1) := by decide +kernel
theorem dX8_look_185 : decode cX8_look 185 = .ok (.istore 7, 2) := by decide +kernel
theorem dX8_look_187 : decode cX8_look 187 = .ok (.iload 7, 2) := by decide +kernel
theorem dX8_look_189 : decode cX8_look 189 = .ok (.ifCond .eq 20, 3) := by decide +kernel
theorem dX8_look_192 : decode cX8_look 192 = .ok (.bipush 10, 2) := by decide +kernel
theorem dX8_look_194 : decode cX8_look 194 = .ok (.iload 5, 2) := by decide +kernel
theorem dX8_look_196 : decode cX8_look 196 = .ok (.bipush 6, 2) := by decide +kernel
theorem dX8_look_198 : decode cX8_look 198 = .ok (.idiv, 1) := by decide +kernel
theorem dX8_look_199 : decode cX8_look 199 = .ok (.imul, 1) := by decide +kernel
theorem dX8_look_200 : decode cX8_look 200 = .ok (.iload 5, 2) := by decide +kernel
theorem dX8_look_202 : decode cX8_look 202 = .ok (.bipush 6, 2) := by decide +kernel
theorem dX8_look_204 : decode cX8_look 204 = .ok (.irem, 1) := by decide +kernel
theorem dX8_look_205 : decode cX8_look 205 = .ok (.iadd, 1) := by decide +kernel
theorem dX8_look_206 : decode cX8_look 206 = .ok (.goto 5, 3) := by decide +kernel
theorem dX8_look_209 : decode cX8_look 209 = .ok (.iload 4, 2) := by decide +kernel
theorem dX8_look_211 : decode cX8_look 211 = .ok (.istore 4, 2) := by decide +kernel
theorem dX8_look_213 : decode cX8_look 213 = .ok (.iload 7, 2) := by decide +kernel
theorem dX8_look_215 : decode cX8_look 215 = .ok (.ifCond .eq 8, 3) := by decide +kernel
theorem dX8_look_218 : decode cX8_look 218 = .ok (.iload 6, 2) := by decide +kernel
theorem dX8_look_220 : decode cX8_look 220 = .ok (.goto 4, 3) := by decide +kernel
theorem dX8_look_223 : decode cX8_look 223 = .ok (.iload_n 3, 1) := by decide +kernel
theorem dX8_look_224 : decode cX8_look 224 = .ok (.istore_n 3, 1) := by decide +kernel
theorem dX8_look_225 : decode cX8_look 225 = .ok (.iinc 5 1, 3) := by decide +kernel
theorem dX8_look_228 : decode cX8_look 228 = .ok (.goto (-113), 3) := by decide +kernel
theorem dX8_look_231 : decode cX8_look 231 = .ok (.iload 4, 2) := by decide +kernel
theorem dX8_look_233 : decode cX8_look 233 = .ok (.bipush (-4), 2) := by decide +kernel
theorem dX8_look_235 : decode cX8_look 235 = .ok (.if_icmp .eq 7, 3) := by decide +kernel
theorem dX8_look_238 : decode cX8_look 238 = .ok (.iload_n 1, 1) := by decide +kernel
theorem dX8_look_239 : decode cX8_look 239 = .ok (.ifCond .ne 8, 3) := by decide +kernel
theorem dX8_look_242 : decode cX8_look 242 = .ok (.iload 4, 2) := by decide +kernel
theorem dX8_look_244 : decode cX8_look 244 = .ok (.goto 4, 3) := by decide +kernel
theorem dX8_look_247 : decode cX8_look 247 = .ok (.iload_n 3, 1) := by decide +kernel
theorem dX8_look_248 : decode cX8_look 248 = .ok (.ireturn, 1) := by decide +kernel
theorem dX8_drift_0 : decode cX8_drift 0 = .ok (.iload_n 2, 1) := by decide +kernel
theorem dX8_drift_1 : decode cX8_drift 1 = .ok (.i2l, 1) := by decide +kernel
theorem dX8_drift_2 : decode cX8_drift 2 = .ok (.lconst 1, 1) := by decide +kernel
theorem dX8_drift_3 : decode cX8_drift 3 = .ok (.ldc2_w 275, 3) := by decide +kernel
theorem dX8_drift_6 : decode cX8_drift 6 = .ok (.invokestatic 46, 3) := by decide +kernel
theorem dX8_drift_9 : decode cX8_drift 9 = .ok (.ifCond .eq 13, 3) := by decide +kernel
theorem dX8_drift_12 : decode cX8_drift 12 = .ok (.iload_n 3, 1) := by decide +kernel
theorem dX8_drift_13 : decode cX8_drift 13 = .ok (.i2l, 1) := by decide +kernel
theorem dX8_drift_14 : decode cX8_drift 14 = .ok (.lconst 0, 1) := by decide +kernel
theorem dX8_drift_15 : decode cX8_drift 15 = .ok (.lconst 1, 1) := by decide +kernel
theorem dX8_drift_16 : decode cX8_drift 16 = .ok (.invokestatic 46, 3) := by decide +kernel
theorem dX8_drift_19 : decode cX8_drift 19 = .ok (.ifCond .ne 5, 3) := by decide +kernel
theorem dX8_drift_22 : decode cX8_drift 22 = .ok (.iconst (-1), 1) := by decide +kernel
theorem dX8_drift_23 : decode cX8_drift 23 = .ok (.ireturn, 1) := by decide +kernel
theorem dX8_drift_24 : decode cX8_drift 24 = .ok (.aload_n 0, 1) := by decide +kernel
theorem dX8_drift_25 : decode cX8_drift 25 = .ok (.getfield 125, 3) := by decide +kernel
theorem dX8_drift_28 : decode cX8_drift 28 = .ok (.ifCond .ne 6, 3) := by decide +kernel
theorem dX8_drift_31 : decode cX8_drift 31 = .ok (.bipush (-2), 2) := by decide +kernel
theorem dX8_drift_33 : decode cX8_drift 33 = .ok (.ireturn, 1) := by decide +kernel
theorem dX8_drift_34 : decode cX8_drift 34 = .ok (.iload_n 1, 1) := by decide +kernel
theorem dX8_drift_35 : decode cX8_drift 35 = .ok (.istore 4, 2) := by decide +kernel
theorem dX8_drift_37 : decode cX8_drift 37 = .ok (.aload_n 0, 1) := by decide +kernel
theorem dX8_drift_38 : decode cX8_drift 38 = .ok (.getfield 7, 3) := by decide +kernel
theorem dX8_drift_41 : decode cX8_drift 41 = .ok (.bipush 18, 2) := by decide +kernel
theorem dX8_drift_43 : decode cX8_drift 43 = .ok (.iaload, 1) := by decide +kernel
theorem dX8_drift_44 : decode cX8_drift 44 = .ok (.istore 5, 2) := by decide +kernel
theorem dX8_drift_46 : decode cX8_drift 46 = .ok (.iconst 0, 1) := by decide +kernel
theorem dX8_drift_47 : decode cX8_drift 47 = .ok (.istore 6, 2) := by decide +kernel
theorem dX8_drift_49 : decode cX8_drift 49 = .ok (.iconst 0, 1) := by decide +kernel
theorem dX8_drift_50 : decode cX8_drift 50 = .ok (.istore 7, 2) := by decide +kernel
theorem dX8_drift_52 : decode cX8_drift 52 = .ok (.iload 7, 2) := by decide +kernel
theorem dX8_drift_54 : decode cX8_drift 54 = .ok (.iload_n 2, 1) := by decide +kernel
theorem dX8_drift_55 : decode cX8_drift 55 = .ok (.if_icmp .ge 65, 3) := by decide +kernel
theorem dX8_drift_58 : decode cX8_drift 58 = .ok (.iload 4, 2) := by decide +kernel
theorem dX8_drift_60 : decode cX8_drift 60 = .ok (.ldc_w 277, 3) := by decide +kernel
theorem dX8_drift_63 : decode cX8_drift 63 = .ok (.imul, 1) := by decide +kernel
theorem dX8_drift_64 : decode cX8_drift 64 = .ok (.sipush 12345, 3) := by decide +kernel
theorem dX8_drift_67 : decode cX8_drift 67 = .ok (.iadd, 1) := by decide +kernel
theorem dX8_drift_68 : decode cX8_drift 68 = .ok (.istore 4, 2) := by decide +kernel
theorem dX8_drift_70 : decode cX8_drift 70 = .ok (.aload_n 0, 1) := by decide +kernel
theorem dX8_drift_71 : decode cX8_drift 71 = .ok (.iload 5, 2) := by decide +kernel
theorem dX8_drift_73 : decode cX8_drift 73 = .ok (.iconst 1, 1) := by decide +kernel
theorem dX8_drift_74 : decode cX8_drift 74 = .ok (.iload 4, 2) := by decide +kernel
theorem dX8_drift_76 : decode cX8_drift 76 = .ok (.bipush 16, 2) := by decide +kernel
theorem dX8_drift_78 : decode cX8_drift 78 = .ok (.ishr, 1) := by decide +kernel
theorem dX8_drift_79 : decode cX8_drift 79 = .ok (.sipush 32767, 3) := by decide +kernel
theorem dX8_drift_82 : decode cX8_drift 82 = .ok (.iand, 1) := by decide +kernel
theorem dX8_drift_83 : decode cX8_drift 83 = .ok (.aload_n 0, 1) := by decide +kernel
theorem dX8_drift_84 : decode cX8_drift 84 = .ok (.getfield 125, 3) := by decide +kernel
theorem dX8_drift_87 : decode cX8_drift 87 = .ok (.irem, 1) := by decide +kernel
theorem dX8_drift_88 : decode cX8_drift 88 = .ok (.ishl, 1) := by decide +kernel
theorem dX8_drift_89 : decode cX8_drift 89 = .ok (.ixor, 1) := by decide +kernel
theorem dX8_drift_90 : decode cX8_drift 90 = .ok (.invokevirtual 147, 3) := by decide +kernel
theorem dX8_drift_93 : decode cX8_drift 93 = .ok (.istore 5, 2) := by decide +kernel
theorem dX8_drift_95 : decode cX8_drift 95 = .ok (.iload 6, 2) := by decide +kernel
theorem dX8_drift_97 : decode cX8_drift 97 = .ok (.aload_n 0, 1) := by decide +kernel
theorem dX8_drift_98 : decode cX8_drift 98 = .ok (.iload 5, 2) := by decide +kernel
theorem dX8_drift_100 : decode cX8_drift 100 = .ok (.invokevirtual 153, 3) := by decide +kernel
theorem dX8_drift_103 : decode cX8_drift 103 = .ok (.ifCond .eq 7, 3) := by decide +kernel
theorem dX8_drift_106 : decode cX8_drift 106 = .ok (.iconst 1, 1) := by decide +kernel
theorem dX8_drift_107 : decode cX8_drift 107 = .ok (.goto 4, 3) := by decide +kernel
theorem dX8_drift_110 : decode cX8_drift 110 = .ok (.iconst 0, 1) := by decide +kernel
theorem dX8_drift_111 : decode cX8_drift 111 = .ok (.iadd, 1) := by decide +kernel
theorem dX8_drift_112 : decode cX8_drift 112 = .ok (.istore 6, 2) := by decide +kernel
theorem dX8_drift_114 : decode cX8_drift 114 = .ok (.iinc 7 1, 3) := by decide +kernel
theorem dX8_drift_117 : decode cX8_drift 117 = .ok (.goto (-65), 3) := by decide +kernel
theorem dX8_drift_120 : decode cX8_drift 120 = .ok (.iload_n 3, 1) := by decide +kernel
theorem dX8_drift_121 : decode cX8_drift 121 = .ok (.ifCond .ne 8, 3) := by decide +kernel
theorem dX8_drift_124 : decode cX8_drift 124 = .ok (.iload 6, 2) := by decide +kernel
theorem dX8_drift_126 : decode cX8_drift 126 = .ok (.goto 5, 3) := by decide +kernel
theorem dX8_drift_129 : decode cX8_drift 129 = .ok (.iload 5, 2) := by decide +kernel
theorem dX8_drift_131 : decode cX8_drift 131 = .ok (.ireturn, 1) := by decide +kernel
theorem dX8_copies_0 : decode cX8_copies 0 = .ok (.iconst 0, 1) := by decide +kernel
theorem dX8_copies_1 : decode cX8_copies 1 = .ok (.istore_n 3, 1) := by decide +kernel
theorem dX8_copies_2 : decode cX8_copies 2 = .ok (.iload_n 3, 1) := by decide +kernel
theorem dX8_copies_3 : decode cX8_copies 3 = .ok (.bipush 37, 2) := by decide +kernel
theorem dX8_copies_5 : decode cX8_copies 5 = .ok (.if_icmp .ge 25, 3) := by decide +kernel
theorem dX8_copies_8 : decode cX8_copies 8 = .ok (.aload_n 0, 1) := by decide +kernel
theorem dX8_copies_9 : decode cX8_copies 9 = .ok (.getfield 7, 3) := by decide +kernel
theorem dX8_copies_12 : decode cX8_copies 12 = .ok (.iload_n 2, 1) := by decide +kernel
theorem dX8_copies_13 : decode cX8_copies 13 = .ok (.iload_n 3, 1) := by decide +kernel
theorem dX8_copies_14 : decode cX8_copies 14 = .ok (.iadd, 1) := by decide +kernel
theorem dX8_copies_15 : decode cX8_copies 15 = .ok (.aload_n 0, 1) := by decide +kernel
theorem dX8_copies_16 : decode cX8_copies 16 = .ok (.getfield 7, 3) := by decide +kernel
theorem dX8_copies_19 : decode cX8_copies 19 = .ok (.iload_n 1, 1) := by decide +kernel
theorem dX8_copies_20 : decode cX8_copies 20 = .ok (.iload_n 3, 1) := by decide +kernel
theorem dX8_copies_21 : decode cX8_copies 21 = .ok (.iadd, 1) := by decide +kernel
theorem dX8_copies_22 : decode cX8_copies 22 = .ok (.iaload, 1) := by decide +kernel
theorem dX8_copies_23 : decode cX8_copies 23 = .ok (.iastore, 1) := by decide +kernel
theorem dX8_copies_24 : decode cX8_copies 24 = .ok (.iinc 3 1, 3) := by decide +kernel
theorem dX8_copies_27 : decode cX8_copies 27 = .ok (.goto (-25), 3) := by decide +kernel
theorem dX8_copies_30 : decode cX8_copies 30 = .ok (.return_, 1) := by decide +kernel
theorem dX8_keep_0 : decode cX8_keep 0 = .ok (.iload_n 1, 1) := by decide +kernel
theorem dX8_keep_1 : decode cX8_keep 1 = .ok (.i2l, 1) := by decide +kernel
theorem dX8_keep_2 : decode cX8_keep 2 = .ok (.lconst 0, 1) := by decide +kernel
theorem dX8_keep_3 : decode cX8_keep 3 = .ok (.lconst 1, 1) := by decide +kernel
theorem dX8_keep_4 : decode cX8_keep 4 = .ok (.invokestatic 46, 3) := by decide +kernel
theorem dX8_keep_7 : decode cX8_keep 7 = .ok (.ifCond .ne 5, 3) := by decide +kernel
theorem dX8_keep_10 : decode cX8_keep 10 = .ok (.iconst (-1), 1) := by decide +kernel
theorem dX8_keep_11 : decode cX8_keep 11 = .ok (.ireturn, 1) := by decide +kernel
theorem dX8_keep_12 : decode cX8_keep 12 = .ok (.aload_n 0, 1) := by decide +kernel
theorem dX8_keep_13 : decode cX8_keep 13 = .ok (.iconst 0, 1) := by decide +kernel
theorem dX8_keep_14 : decode cX8_keep 14 = .ok (.bipush 37, 2) := by decide +kernel
theorem dX8_keep_16 : decode cX8_keep 16 = .ok (.iload_n 1, 1) := by decide +kernel
theorem dX8_keep_17 : decode cX8_keep 17 = .ok (.iconst 1, 1) := by decide +kernel
theorem dX8_keep_18 : decode cX8_keep 18 = .ok (.iadd, 1) := by decide +kernel
theorem dX8_keep_19 : decode cX8_keep 19 = .ok (.imul, 1) := by decide +kernel
theorem dX8_keep_20 : decode cX8_keep 20 = .ok (.invokevirtual 278, 3) := by decide +kernel
theorem dX8_keep_23 : decode cX8_keep 23 = .ok (.aload_n 0, 1) := by decide +kernel
theorem dX8_keep_24 : decode cX8_keep 24 = .ok (.getfield 31, 3) := by decide +kernel
theorem dX8_keep_27 : decode cX8_keep 27 = .ok (.iload_n 1, 1) := by decide +kernel
theorem dX8_keep_28 : decode cX8_keep 28 = .ok (.baload, 1) := by decide +kernel
theorem dX8_keep_29 : decode cX8_keep 29 = .ok (.ifCond .eq 7, 3) := by decide +kernel
theorem dX8_keep_32 : decode cX8_keep 32 = .ok (.iconst 1, 1) := by decide +kernel
theorem dX8_keep_33 : decode cX8_keep 33 = .ok (.goto 4, 3) := by decide +kernel
theorem dX8_keep_36 : decode cX8_keep 36 = .ok (.iconst 0, 1) := by decide +kernel
theorem dX8_keep_37 : decode cX8_keep 37 = .ok (.istore_n 2, 1) := by decide +kernel
theorem dX8_keep_38 : decode cX8_keep 38 = .ok (.aload_n 0, 1) := by decide +kernel
theorem dX8_keep_39 : decode cX8_keep 39 = .ok (.getfield 31, 3) := by decide +kernel
theorem dX8_keep_42 : decode cX8_keep 42 = .ok (.iload_n 1, 1) := by decide +kernel
theorem dX8_keep_43 : decode cX8_keep 43 = .ok (.iconst 1, 1) := by decide +kernel
theorem dX8_keep_44 : decode cX8_keep 44 = .ok (.bastore, 1) := by decide +kernel
theorem dX8_keep_45 : decode cX8_keep 45 = .ok (.iload_n 2, 1) := by decide +kernel
theorem dX8_keep_46 : decode cX8_keep 46 = .ok (.ireturn, 1) := by decide +kernel
theorem dX8_back_0 : decode cX8_back 0 = .ok (.iload_n 1, 1) := by decide +kernel
theorem dX8_back_1 : decode cX8_back 1 = .ok (.i2l, 1) := by decide +kernel
theorem dX8_back_2 : decode cX8_back 2 = .ok (.lconst 0, 1) := by decide +kernel
theorem dX8_back_3 : decode cX8_back 3 = .ok (.lconst 1, 1) := by decide +kernel
theorem dX8_back_4 : decode cX8_back 4 = .ok (.invokestatic 46, 3) := by decide +kernel
theorem dX8_back_7 : decode cX8_back 7 = .ok (.ifCond .ne 5, 3) := by decide +kernel
theorem dX8_back_10 : decode cX8_back 10 = .ok (.iconst (-1), 1) := by decide +kernel
theorem dX8_back_11 : decode cX8_back 11 = .ok (.ireturn, 1) := by decide +kernel
theorem dX8_back_12 : decode cX8_back 12 = .ok (.aload_n 0, 1) := by decide +kernel
theorem dX8_back_13 : decode cX8_back 13 = .ok (.getfield 31, 3) := by decide +kernel
theorem dX8_back_16 : decode cX8_back 16 = .ok (.iload_n 1, 1) := by decide +kernel
theorem dX8_back_17 : decode cX8_back 17 = .ok (.baload, 1) := by decide +kernel
theorem dX8_back_18 : decode cX8_back 18 = .ok (.ifCond .ne 6, 3) := by decide +kernel
theorem dX8_back_21 : decode cX8_back 21 = .ok (.bipush (-2), 2) := by decide +kernel
theorem dX8_back_23 : decode cX8_back 23 = .ok (.ireturn, 1) := by decide +kernel
theorem dX8_back_24 : decode cX8_back 24 = .ok (.aload_n 0, 1) := by decide +kernel
theorem dX8_back_25 : decode cX8_back 25 = .ok (.bipush 37, 2) := by decide +kernel
theorem dX8_back_27 : decode cX8_back 27 = .ok (.iload_n 1, 1) := by decide +kernel
theorem dX8_back_28 : decode cX8_back 28 = .ok (.iconst 1, 1) := by decide +kernel
theorem dX8_back_29 : decode cX8_back 29 = .ok (.iadd, 1) := by decide +kernel
theorem dX8_back_30 : decode cX8_back 30 = .ok (.imul, 1) := by decide +kernel
theorem dX8_back_31 : decode cX8_back 31 = .ok (.iconst 0, 1) := by decide +kernel
theorem dX8_back_32 : decode cX8_back 32 = .ok (.invokevirtual 278, 3) := by decide +kernel
theorem dX8_back_35 : decode cX8_back 35 = .ok (.aload_n 0, 1) := by decide +kernel
theorem dX8_back_36 : decode cX8_back 36 = .ok (.getfield 7, 3) := by decide +kernel
theorem dX8_back_39 : decode cX8_back 39 = .ok (.bipush 36, 2) := by decide +kernel
theorem dX8_back_41 : decode cX8_back 41 = .ok (.iaload, 1) := by decide +kernel
theorem dX8_back_42 : decode cX8_back 42 = .ok (.ireturn, 1) := by decide +kernel
theorem dX8_sheet_0 : decode cX8_sheet 0 = .ok (.iload_n 1, 1) := by decide +kernel
theorem dX8_sheet_1 : decode cX8_sheet 1 = .ok (.i2l, 1) := by decide +kernel
theorem dX8_sheet_2 : decode cX8_sheet 2 = .ok (.lconst 0, 1) := by decide +kernel
theorem dX8_sheet_3 : decode cX8_sheet 3 = .ok (.ldc2_w 194, 3) := by decide +kernel
theorem dX8_sheet_6 : decode cX8_sheet 6 = .ok (.invokestatic 46, 3) := by decide +kernel
theorem dX8_sheet_9 : decode cX8_sheet 9 = .ok (.ifCond .eq 21, 3) := by decide +kernel
theorem dX8_sheet_12 : decode cX8_sheet 12 = .ok (.iload_n 2, 1) := by decide +kernel
theorem dX8_sheet_13 : decode cX8_sheet 13 = .ok (.i2l, 1) := by decide +kernel
theorem dX8_sheet_14 : decode cX8_sheet 14 = .ok (.lconst 0, 1) := by decide +kernel
theorem dX8_sheet_15 : decode cX8_sheet 15 = .ok (.ldc2_w 169, 3) := by decide +kernel
theorem dX8_sheet_18 : decode cX8_sheet 18 = .ok (.invokestatic 46, 3) := by decide +kernel
theorem dX8_sheet_21 : decode cX8_sheet 21 = .ok (.ifCond .eq 9, 3) := by decide +kernel
theorem dX8_sheet_24 : decode cX8_sheet 24 = .ok (.iload_n 3, 1) := by decide +kernel
theorem dX8_sheet_25 : decode cX8_sheet 25 = .ok (.bipush 40, 2) := by decide +kernel
theorem dX8_sheet_27 : decode cX8_sheet 27 = .ok (.if_icmp .le 5, 3) := by decide +kernel
theorem dX8_sheet_30 : decode cX8_sheet 30 = .ok (.iconst (-1), 1) := by decide +kernel
theorem dX8_sheet_31 : decode cX8_sheet 31 = .ok (.ireturn, 1) := by decide +kernel
theorem dX8_sheet_32 : decode cX8_sheet 32 = .ok (.iload_n 3, 1) := by decide +kernel
theorem dX8_sheet_33 : decode cX8_sheet 33 = .ok (.ifCond .ge 6, 3) := by decide +kernel
theorem dX8_sheet_36 : decode cX8_sheet 36 = .ok (.bipush (-14), 2) := by decide +kernel
theorem dX8_sheet_38 : decode cX8_sheet 38 = .ok (.ireturn, 1) := by decide +kernel
theorem dX8_sheet_39 : decode cX8_sheet 39 = .ok (.aload_n 0, 1) := by decide +kernel
theorem dX8_sheet_40 : decode cX8_sheet 40 = .ok (.getfield 35, 3) := by decide +kernel
theorem dX8_sheet_43 : decode cX8_sheet 43 = .ok (.iload_n 1, 1) := by decide +kernel
theorem dX8_sheet_44 : decode cX8_sheet 44 = .ok (.iload_n 2, 1) := by decide +kernel
theorem dX8_sheet_45 : decode cX8_sheet 45 = .ok (.iastore, 1) := by decide +kernel
theorem dX8_sheet_46 : decode cX8_sheet 46 = .ok (.aload_n 0, 1) := by decide +kernel
theorem dX8_sheet_47 : decode cX8_sheet 47 = .ok (.getfield 38, 3) := by decide +kernel
theorem dX8_sheet_50 : decode cX8_sheet 50 = .ok (.iload_n 1, 1) := by decide +kernel
theorem dX8_sheet_51 : decode cX8_sheet 51 = .ok (.iload_n 3, 1) := by decide +kernel
theorem dX8_sheet_52 : decode cX8_sheet 52 = .ok (.iastore, 1) := by decide +kernel
theorem dX8_sheet_53 : decode cX8_sheet 53 = .ok (.iconst 0, 1) := by decide +kernel
theorem dX8_sheet_54 : decode cX8_sheet 54 = .ok (.istore 4, 2) := by decide +kernel
theorem dX8_sheet_56 : decode cX8_sheet 56 = .ok (.iload 4, 2) := by decide +kernel
theorem dX8_sheet_58 : decode cX8_sheet 58 = .ok (.bipush 40, 2) := by decide +kernel
theorem dX8_sheet_60 : decode cX8_sheet 60 = .ok (.if_icmp .ge 22, 3) := by decide +kernel
theorem dX8_sheet_63 : decode cX8_sheet 63 = .ok (.aload_n 0, 1) := by decide +kernel
theorem dX8_sheet_64 : decode cX8_sheet 64 = .ok (.getfield 41, 3) := by decide +kernel
theorem dX8_sheet_67 : decode cX8_sheet 67 = .ok (.bipush 40, 2) := by decide +kernel
theorem dX8_sheet_69 : decode cX8_sheet 69 = .ok (.iload_n 1, 1) := by decide +kernel
theorem dX8_sheet_70 : decode cX8_sheet 70 = .ok (.imul, 1) := by decide +kernel
theorem dX8_sheet_71 : decode cX8_sheet 71 = .ok (.iload 4, 2) := by decide +kernel
theorem dX8_sheet_73 : decode cX8_sheet 73 = .ok (.iadd, 1) := by decide +kernel
theorem dX8_sheet_74 : decode cX8_sheet 74 = .ok (.iconst 0, 1) := by decide +kernel
theorem dX8_sheet_75 : decode cX8_sheet 75 = .ok (.iastore, 1) := by decide +kernel
theorem dX8_sheet_76 : decode cX8_sheet 76 = .ok (.iinc 4 1, 3) := by decide +kernel
theorem dX8_sheet_79 : decode cX8_sheet 79 = .ok (.goto (-23), 3) := by decide +kernel
theorem dX8_sheet_82 : decode cX8_sheet 82 = .ok (.iconst 1, 1) := by decide +kernel
theorem dX8_sheet_83 : decode cX8_sheet 83 = .ok (.ireturn, 1) := by decide +kernel
theorem dX8_lay_0 : decode cX8_lay 0 = .ok (.iload_n 1, 1) := by decide +kernel
theorem dX8_lay_1 : decode cX8_lay 1 = .ok (.i2l, 1) := by decide +kernel
theorem dX8_lay_2 : decode cX8_lay 2 = .ok (.lconst 0, 1) := by decide +kernel
theorem dX8_lay_3 : decode cX8_lay 3 = .ok (.ldc2_w 194, 3) := by decide +kernel
theorem dX8_lay_6 : decode cX8_lay 6 = .ok (.invokestatic 46, 3) := by decide +kernel
theorem dX8_lay_9 : decode cX8_lay 9 = .ok (.ifCond .ne 5, 3) := by decide +kernel
theorem dX8_lay_12 : decode cX8_lay 12 = .ok (.iconst (-1), 1) := by decide +kernel
theorem dX8_lay_13 : decode cX8_lay 13 = .ok (.ireturn, 1) := by decide +kernel
theorem dX8_lay_14 : decode cX8_lay 14 = .ok (.aload_n 0, 1) := by decide +kernel
theorem dX8_lay_15 : decode cX8_lay 15 = .ok (.getfield 35, 3) := by decide +kernel
theorem dX8_lay_18 : decode cX8_lay 18 = .ok (.iload_n 1, 1) := by decide +kernel
theorem dX8_lay_19 : decode cX8_lay 19 = .ok (.iaload, 1) := by decide +kernel
theorem dX8_lay_20 : decode cX8_lay 20 = .ok (.bipush (-4), 2) := by decide +kernel
theorem dX8_lay_22 : decode cX8_lay 22 = .ok (.if_icmp .ne 6, 3) := by decide +kernel
theorem dX8_lay_25 : decode cX8_lay 25 = .ok (.bipush (-11), 2) := by decide +kernel
theorem dX8_lay_27 : decode cX8_lay 27 = .ok (.ireturn, 1) := by decide +kernel
theorem dX8_lay_28 : decode cX8_lay 28 = .ok (.iload_n 2, 1) := by decide +kernel
theorem dX8_lay_29 : decode cX8_lay 29 = .ok (.i2l, 1) := by decide +kernel
theorem dX8_lay_30 : decode cX8_lay 30 = .ok (.lconst 0, 1) := by decide +kernel
theorem dX8_lay_31 : decode cX8_lay 31 = .ok (.aload_n 0, 1) := by decide +kernel
theorem dX8_lay_32 : decode cX8_lay 32 = .ok (.getfield 38, 3) := by decide +kernel
theorem dX8_lay_35 : decode cX8_lay 35 = .ok (.iload_n 1, 1) := by decide +kernel
theorem dX8_lay_36 : decode cX8_lay 36 = .ok (.iaload, 1) := by decide +kernel
theorem dX8_lay_37 : decode cX8_lay 37 = .ok (.iconst 1, 1) := by decide +kernel
theorem dX8_lay_38 : decode cX8_lay 38 = .ok (.isub, 1) := by decide +kernel
theorem dX8_lay_39 : decode cX8_lay 39 = .ok (.i2l, 1) := by decide +kernel
theorem dX8_lay_40 : decode cX8_lay 40 = .ok (.invokestatic 46, 3) := by decide +kernel
theorem dX8_lay_43 : decode cX8_lay 43 = .ok (.ifCond .ne 6, 3) := by decide +kernel
theorem dX8_lay_46 : decode cX8_lay 46 = .ok (.bipush (-12), 2) := by decide +kernel
theorem dX8_lay_48 : decode cX8_lay 48 = .ok (.ireturn, 1) := by decide +kernel
theorem dX8_lay_49 : decode cX8_lay 49 = .ok (.aload_n 0, 1) := by decide +kernel
theorem dX8_lay_50 : decode cX8_lay 50 = .ok (.getfield 41, 3) := by decide +kernel
theorem dX8_lay_53 : decode cX8_lay 53 = .ok (.bipush 40, 2) := by decide +kernel
theorem dX8_lay_55 : decode cX8_lay 55 = .ok (.iload_n 1, 1) := by decide +kernel
theorem dX8_lay_56 : decode cX8_lay 56 = .ok (.imul, 1) := by decide +kernel
theorem dX8_lay_57 : decode cX8_lay 57 = .ok (.iload_n 2, 1) := by decide +kernel
theorem dX8_lay_58 : decode cX8_lay 58 = .ok (.iadd, 1) := by decide +kernel
theorem dX8_lay_59 : decode cX8_lay 59 = .ok (.aload_n 0, 1) := by decide +kernel
theorem dX8_lay_60 : decode cX8_lay 60 = .ok (.getfield 35, 3) := by decide +kernel
theorem dX8_lay_63 : decode cX8_lay 63 = .ok (.iload_n 1, 1) := by decide +kernel
theorem dX8_lay_64 : decode cX8_lay 64 = .ok (.iaload, 1) := by decide +kernel
theorem dX8_lay_65 : decode cX8_lay 65 = .ok (.ifCond .ne 13, 3) := by decide +kernel
theorem dX8_lay_68 : decode cX8_lay 68 = .ok (.iload_n 3, 1) := by decide +kernel
theorem dX8_lay_69 : decode cX8_lay 69 = .ok (.bipush 24, 2) := by decide +kernel
theorem dX8_lay_71 : decode cX8_lay 71 = .ok (.ishl, 1) := by decide +kernel
theorem dX8_lay_72 : decode cX8_lay 72 = .ok (.bipush 24, 2) := by decide +kernel
theorem dX8_lay_74 : decode cX8_lay 74 = .ok (.ishr, 1) := by decide +kernel
theorem dX8_lay_75 : decode cX8_lay 75 = .ok (.goto 24, 3) := by decide +kernel
theorem dX8_lay_78 : decode cX8_lay 78 = .ok (.aload_n 0, 1) := by decide +kernel
theorem dX8_lay_79 : decode cX8_lay 79 = .ok (.getfield 35, 3) := by decide +kernel
theorem dX8_lay_82 : decode cX8_lay 82 = .ok (.iload_n 1, 1) := by decide +kernel
theorem dX8_lay_83 : decode cX8_lay 83 = .ok (.iaload, 1) := by decide +kernel
theorem dX8_lay_84 : decode cX8_lay 84 = .ok (.iconst 1, 1) := by decide +kernel
theorem dX8_lay_85 : decode cX8_lay 85 = .ok (.if_icmp .ne 13, 3) := by decide +kernel
theorem dX8_lay_88 : decode cX8_lay 88 = .ok (.iload_n 3, 1) := by decide +kernel
theorem dX8_lay_89 : decode cX8_lay 89 = .ok (.bipush 16, 2) := by decide +kernel
theorem dX8_lay_91 : decode cX8_lay 91 = .ok (.ishl, 1) := by decide +kernel
theorem dX8_lay_92 : decode cX8_lay 92 = .ok (.bipush 16, 2) := by decide +kernel
theorem dX8_lay_94 : decode cX8_lay 94 = .ok (.ishr, 1) := by decide +kernel
theorem dX8_lay_95 : decode cX8_lay 95 = .ok (.goto 4, 3) := by decide +kernel
theorem dX8_lay_98 : decode cX8_lay 98 = .ok (.iload_n 3, 1) := by decide +kernel
theorem dX8_lay_99 : decode cX8_lay 99 = .ok (.iastore, 1) := by decide +kernel
theorem dX8_lay_100 : decode cX8_lay 100 = .ok (.iconst 1, 1) := by decide +kernel
theorem dX8_lay_101 : decode cX8_lay 101 = .ok (.ireturn, 1) := by decide +kernel
theorem dX8_read_0 : decode cX8_read 0 = .ok (.iload_n 1, 1) := by decide +kernel
theorem dX8_read_1 : decode cX8_read 1 = .ok (.i2l, 1) := by decide +kernel
theorem dX8_read_2 : decode cX8_read 2 = .ok (.lconst 0, 1) := by decide +kernel
theorem dX8_read_3 : decode cX8_read 3 = .ok (.ldc2_w 194, 3) := by decide +kernel
theorem dX8_read_6 : decode cX8_read 6 = .ok (.invokestatic 46, 3) := by decide +kernel
theorem dX8_read_9 : decode cX8_read 9 = .ok (.ifCond .eq 28, 3) := by decide +kernel
theorem dX8_read_12 : decode cX8_read 12 = .ok (.iload_n 2, 1) := by decide +kernel
theorem dX8_read_13 : decode cX8_read 13 = .ok (.i2l, 1) := by decide +kernel
theorem dX8_read_14 : decode cX8_read 14 = .ok (.lconst 0, 1) := by decide +kernel
theorem dX8_read_15 : decode cX8_read 15 = .ok (.ldc2_w 169, 3) := by decide +kernel
theorem dX8_read_18 : decode cX8_read 18 = .ok (.invokestatic 46, 3) := by decide +kernel
theorem dX8_read_21 : decode cX8_read 21 = .ok (.ifCond .eq 16, 3) := by decide +kernel
theorem dX8_read_24 : decode cX8_read 24 = .ok (.iload 4, 2) := by decide +kernel
theorem dX8_read_26 : decode cX8_read 26 = .ok (.i2l, 1) := by decide +kernel
theorem dX8_read_27 : decode cX8_read 27 = .ok (.lconst 0, 1) := by decide +kernel
theorem dX8_read_28 : decode cX8_read 28 = .ok (.ldc2_w 282, 3) := by decide +kernel
theorem dX8_read_31 : decode cX8_read 31 = .ok (.invokestatic 46, 3) := by decide +kernel
theorem dX8_read_34 : decode cX8_read 34 = .ok (.ifCond .ne 5, 3) := by decide +kernel
theorem dX8_read_37 : decode cX8_read 37 = .ok (.iconst (-1), 1) := by decide +kernel
theorem dX8_read_38 : decode cX8_read 38 = .ok (.ireturn, 1) := by decide +kernel
theorem dX8_read_39 : decode cX8_read 39 = .ok (.aload_n 0, 1) := by decide +kernel
theorem dX8_read_40 : decode cX8_read 40 = .ok (.iconst 0, 1) := by decide +kernel
theorem dX8_read_41 : decode cX8_read 41 = .ok (.bipush 111, 2) := by decide +kernel
theorem dX8_read_43 : decode cX8_read 43 = .ok (.invokevirtual 278, 3) := by decide +kernel
theorem dX8_read_46 : decode cX8_read 46 = .ok (.iconst 0, 1) := by decide +kernel
theorem dX8_read_47 : decode cX8_read 47 = .ok (.istore 5, 2) := by decide +kernel
theorem dX8_read_49 : decode cX8_read 49 = .ok (.iconst 0, 1) := by decide +kernel
theorem dX8_read_50 : decode cX8_read 50 = .ok (.istore 6, 2) := by decide +kernel
theorem dX8_read_52 : decode cX8_read 52 = .ok (.iconst 0, 1) := by decide +kernel
theorem dX8_read_53 : decode cX8_read 53 = .ok (.istore 7, 2) := by decide +kernel
theorem dX8_read_55 : decode cX8_read 55 = .ok (.iload 7, 2) := by decide +kernel
theorem dX8_read_57 : decode cX8_read 57 = .ok (.iload 4, 2) := by decide +kernel
theorem dX8_read_59 : decode cX8_read 59 = .ok (.if_icmp .ge 133, 3) := by decide +kernel
theorem dX8_read_62 : decode cX8_read 62 = .ok (.iload 5, 2) := by decide +kernel
theorem dX8_read_64 : decode cX8_read 64 = .ok (.ifCond .ne 128, 3) := by decide +kernel
theorem dX8_read_67 : decode cX8_read 67 = .ok (.aload_n 0, 1) := by decide +kernel
theorem dX8_read_68 : decode cX8_read 68 = .ok (.getfield 35, 3) := by decide +kernel
theorem dX8_read_71 : decode cX8_read 71 = .ok (.iload_n 1, 1) := by decide +kernel
theorem dX8_read_72 : decode cX8_read 72 = .ok (.iaload, 1) := by decide +kernel
theorem dX8_read_73 : decode cX8_read 73 = .ok (.bipush (-4), 2) := by decide +kernel
theorem dX8_read_75 : decode cX8_read 75 = .ok (.if_icmp .ne 7, 3) := by decide +kernel
theorem dX8_read_78 : decode cX8_read 78 = .ok (.iconst 1, 1) := by decide +kernel
theorem dX8_read_79 : decode cX8_read 79 = .ok (.goto 44, 3) := by decide +kernel
theorem dX8_read_82 : decode cX8_read 82 = .ok (.aload_n 0, 1) := by decide +kernel
theorem dX8_read_83 : decode cX8_read 83 = .ok (.getfield 35, 3) := by decide +kernel
theorem dX8_read_86 : decode cX8_read 86 = .ok (.iload_n 1, 1) := by decide +kernel
theorem dX8_read_87 : decode cX8_read 87 = .ok (.iaload, 1) := by decide +kernel
theorem dX8_read_88 : decode cX8_read 88 = .ok (.iload_n 2, 1) := by decide +kernel
theorem dX8_read_89 : decode cX8_read 89 = .ok (.if_icmp .eq 7, 3) := by decide +kernel
theorem dX8_read_92 : decode cX8_read 92 = .ok (.iconst 3, 1) := by decide +kernel
theorem dX8_read_93 : decode cX8_read 93 = .ok (.goto 30, 3) := by decide +kernel
theorem dX8_read_96 : decode cX8_read 96 = .ok (.iload_n 3, 1) := by decide +kernel
theorem dX8_read_97 : decode cX8_read 97 = .ok (.i2l, 1) := by decide +kernel
theorem dX8_read_98 : decode cX8_read 98 = .ok (.iload 7, 2) := by decide +kernel
theorem dX8_read_100 : decode cX8_read 100 = .ok (.i2l, 1) := by decide +kernel
theorem dX8_read_101 : decode cX8_read 101 = .ok (.ladd, 1) := by decide +kernel
theorem dX8_read_102 : decode cX8_read 102 = .ok (.lconst 0, 1) := by decide +kernel
theorem dX8_read_103 : decode cX8_read 103 = .ok (.aload_n 0, 1) := by decide +kernel
theorem dX8_read_104 : decode cX8_read 104 = .ok (.getfield 38, 3) := by decide +kernel
theorem dX8_read_107 : decode cX8_read 107 = .ok (.iload_n 1, 1) := by decide +kernel
theorem dX8_read_108 : decode cX8_read 108 = .ok (.iaload, 1) := by decide +kernel
theorem dX8_read_109 : decode cX8_read 109 = .ok (.iconst 1, 1) := by decide +kernel
theorem dX8_read_110 : decode cX8_read 110 = .ok (.isub, 1) := by decide +kernel
theorem dX8_read_111 : decode cX8_read 111 = .ok (.i2l, 1) := by decide +kernel
theorem dX8_read_112 : decode cX8_read 112 = .ok (.invokestatic 46, 3) := by decide +kernel
theorem dX8_read_115 : decode cX8_read 115 = .ok (.ifCond .ne 7, 3) := by decide +kernel
theorem dX8_read_118 : decode cX8_read 118 = .ok (.iconst 2, 1) := by decide +kernel
theorem dX8_read_119 : decode cX8_read 119 = .ok (.goto 4, 3) := by decide +kernel
theorem dX8_read_122 : decode cX8_read 122 = .ok (.iconst 0, 1) := by decide +kernel
theorem dX8_read_123 : decode cX8_read 123 = .ok (.istore 5, 2) := by decide +kernel
theorem dX8_read_125 : decode cX8_read 125 = .ok (.iload 5, 2) := by decide +kernel
theorem dX8_read_127 : decode cX8_read 127 = .ok (.ifCond .ne 59, 3) := by decide +kernel
theorem dX8_read_130 : decode cX8_read 130 = .ok (.aload_n 0, 1) := by decide +kernel
theorem dX8_read_131 : decode cX8_read 131 = .ok (.getfield 7, 3) := by decide +kernel
theorem dX8_read_134 : decode cX8_read 134 = .ok (.bipush 36, 2) := by decide +kernel
theorem dX8_read_136 : decode cX8_read 136 = .ok (.iaload, 1) := by decide +kernel
theorem dX8_read_137 : decode cX8_read 137 = .ok (.sipush 999, 3) := by decide +kernel
theorem dX8_read_140 : decode cX8_read 140 = .ok (.if_icmp .eq 24, 3) := by decide +kernel
theorem dX8_read_143 : decode cX8_read 143 = .ok (.aload_n 0, 1) := by decide +kernel
theorem dX8_read_144 : decode cX8_read 144 = .ok (.aload_n 0, 1) := by decide +kernel
theorem dX8_read_145 : decode cX8_read 145 = .ok (.getfield 41, 3) := by decide +kernel
theorem dX8_read_148 : decode cX8_read 148 = .ok (.bipush 40, 2) := by decide +kernel
theorem dX8_read_150 : decode cX8_read 150 = .ok (.iload_n 1, 1) := by decide +kernel
theorem dX8_read_151 : decode cX8_read 151 = .ok (.imul, 1) := by decide +kernel
theorem dX8_read_152 : decode cX8_read 152 = .ok (.iload_n 3, 1) := by decide +kernel
theorem dX8_read_153 : decode cX8_read 153 = .ok (.iadd, 1) := by decide +kernel
theorem dX8_read_154 : decode cX8_read 154 = .ok (.iload 7, 2) := by decide +kernel
theorem dX8_read_156 : decode cX8_read 156 = .ok (.iadd, 1) := by decide +kernel
theorem dX8_read_157 : decode cX8_read 157 = .ok (.iaload, 1) := by decide +kernel
theorem dX8_read_158 : decode cX8_read 158 = .ok (.invokevirtual 183, 3) := by decide +kernel
theorem dX8_read_161 : decode cX8_read 161 = .ok (.ifCond .ge 16, 3) := by decide +kernel
theorem dX8_read_164 : decode cX8_read 164 = .ok (.aload_n 0, 1) := by decide +kernel
theorem dX8_read_165 : decode cX8_read 165 = .ok (.bipush 111, 2) := by decide +kernel
theorem dX8_read_167 : decode cX8_read 167 = .ok (.iconst 0, 1) := by decide +kernel
theorem dX8_read_168 : decode cX8_read 168 = .ok (.invokevirtual 278, 3) := by decide +kernel
theorem dX8_read_171 : decode cX8_read 171 = .ok (.bipush (-20), 2) := by decide +kernel
theorem dX8_read_173 : decode cX8_read 173 = .ok (.iload 6, 2) := by decide +kernel
theorem dX8_read_175 : decode cX8_read 175 = .ok (.isub, 1) := by decide +kernel
theorem dX8_read_176 : decode cX8_read 176 = .ok (.ireturn, 1) := by decide +kernel
theorem dX8_read_177 : decode cX8_read 177 = .ok (.aload_n 0, 1) := by decide +kernel
theorem dX8_read_178 : decode cX8_read 178 = .ok (.iconst 1, 1) := by decide +kernel
theorem dX8_read_179 : decode cX8_read 179 = .ok (.invokevirtual 284, 3) := by decide +kernel
theorem dX8_read_182 : decode cX8_read 182 = .ok (.pop, 1) := by decide +kernel
theorem dX8_read_183 : decode cX8_read 183 = .ok (.iinc 6 1, 3) := by decide +kernel
theorem dX8_read_186 : decode cX8_read 186 = .ok (.iinc 7 1, 3) := by decide +kernel
theorem dX8_read_189 : decode cX8_read 189 = .ok (.goto (-134), 3) := by decide +kernel
theorem dX8_read_192 : decode cX8_read 192 = .ok (.aload_n 0, 1) := by decide +kernel
theorem dX8_read_193 : decode cX8_read 193 = .ok (.iload 5, 2) := by decide +kernel
theorem dX8_read_195 : decode cX8_read 195 = .ok (.putfield 287, 3) := by decide +kernel
theorem dX8_read_198 : decode cX8_read 198 = .ok (.iload 6, 2) := by decide +kernel
theorem dX8_read_200 : decode cX8_read 200 = .ok (.ireturn, 1) := by decide +kernel
theorem dX8_torn_0 : decode cX8_torn 0 = .ok (.aload_n 0, 1) := by decide +kernel
theorem dX8_torn_1 : decode cX8_torn 1 = .ok (.getfield 287, 3) := by decide +kernel
theorem dX8_torn_4 : decode cX8_torn 4 = .ok (.ireturn, 1) := by decide +kernel
theorem dX8_count_0 : decode cX8_count 0 = .ok (.iconst 0, 1) := by decide +kernel
theorem dX8_count_1 : decode cX8_count 1 = .ok (.istore_n 2, 1) := by decide +kernel
theorem dX8_count_2 : decode cX8_count 2 = .ok (.iconst 0, 1) := by decide +kernel
theorem dX8_count_3 : decode cX8_count 3 = .ok (.istore_n 3, 1) := by decide +kernel
theorem dX8_count_4 : decode cX8_count 4 = .ok (.iload_n 3, 1) := by decide +kernel
theorem dX8_count_5 : decode cX8_count 5 = .ok (.aload_n 0, 1) := by decide +kernel
theorem dX8_count_6 : decode cX8_count 6 = .ok (.getfield 128, 3) := by decide +kernel
theorem dX8_count_9 : decode cX8_count 9 = .ok (.if_icmp .ge 21, 3) := by decide +kernel
theorem dX8_count_12 : decode cX8_count 12 = .ok (.iload_n 2, 1) := by decide +kernel
theorem dX8_count_13 : decode cX8_count 13 = .ok (.aload_n 0, 1) := by decide +kernel
theorem dX8_count_14 : decode cX8_count 14 = .ok (.getfield 7, 3) := by decide +kernel
theorem dX8_count_17 : decode cX8_count 17 = .ok (.bipush 23, 2) := by decide +kernel
theorem dX8_count_19 : decode cX8_count 19 = .ok (.iload_n 3, 1) := by decide +kernel
theorem dX8_count_20 : decode cX8_count 20 = .ok (.iadd, 1) := by decide +kernel
theorem dX8_count_21 : decode cX8_count 21 = .ok (.iaload, 1) := by decide +kernel
theorem dX8_count_22 : decode cX8_count 22 = .ok (.iadd, 1) := by decide +kernel
theorem dX8_count_23 : decode cX8_count 23 = .ok (.istore_n 2, 1) := by decide +kernel
theorem dX8_count_24 : decode cX8_count 24 = .ok (.iinc 3 1, 3) := by decide +kernel
theorem dX8_count_27 : decode cX8_count 27 = .ok (.goto (-23), 3) := by decide +kernel
theorem dX8_count_30 : decode cX8_count 30 = .ok (.iload_n 1, 1) := by decide +kernel
theorem dX8_count_31 : decode cX8_count 31 = .ok (.tableswitch 113 0 5 #[37, 42, 72, 77, 100, 111], 37) := by decide +kernel
theorem dX8_count_68 : decode cX8_count 68 = .ok (.aload_n 0, 1) := by decide +kernel
theorem dX8_count_69 : decode cX8_count 69 = .ok (.getfield 131, 3) := by decide +kernel
theorem dX8_count_72 : decode cX8_count 72 = .ok (.ireturn, 1) := by decide +kernel
theorem dX8_count_73 : decode cX8_count 73 = .ok (.aload_n 0, 1) := by decide +kernel
theorem dX8_count_74 : decode cX8_count 74 = .ok (.getfield 31, 3) := by decide +kernel
theorem dX8_count_77 : decode cX8_count 77 = .ok (.iconst 0, 1) := by decide +kernel
theorem dX8_count_78 : decode cX8_count 78 = .ok (.baload, 1) := by decide +kernel
theorem dX8_count_79 : decode cX8_count 79 = .ok (.ifCond .eq 7, 3) := by decide +kernel
theorem dX8_count_82 : decode cX8_count 82 = .ok (.iconst 1, 1) := by decide +kernel
theorem dX8_count_83 : decode cX8_count 83 = .ok (.goto 4, 3) := by decide +kernel
theorem dX8_count_86 : decode cX8_count 86 = .ok (.iconst 0, 1) := by decide +kernel
theorem dX8_count_87 : decode cX8_count 87 = .ok (.aload_n 0, 1) := by decide +kernel
theorem dX8_count_88 : decode cX8_count 88 = .ok (.getfield 31, 3) := by decide +kernel
theorem dX8_count_91 : decode cX8_count 91 = .ok (.iconst 1, 1) := by decide +kernel
theorem dX8_count_92 : decode cX8_count 92 = .ok (.baload, 1) := by decide +kernel
theorem dX8_count_93 : decode cX8_count 93 = .ok (.ifCond .eq 7, 3) := by decide +kernel
theorem dX8_count_96 : decode cX8_count 96 = .ok (.iconst 1, 1) := by decide +kernel
theorem dX8_count_97 : decode cX8_count 97 = .ok (.goto 4, 3) := by decide +kernel
theorem dX8_count_100 : decode cX8_count 100 = .ok (.iconst 0, 1) := by decide +kernel
theorem dX8_count_101 : decode cX8_count 101 = .ok (.iadd, 1) := by decide +kernel
theorem dX8_count_102 : decode cX8_count 102 = .ok (.ireturn, 1) := by decide +kernel
theorem dX8_count_103 : decode cX8_count 103 = .ok (.aload_n 0, 1) := by decide +kernel
theorem dX8_count_104 : decode cX8_count 104 = .ok (.getfield 50, 3) := by decide +kernel
theorem dX8_count_107 : decode cX8_count 107 = .ok (.ireturn, 1) := by decide +kernel
theorem dX8_count_108 : decode cX8_count 108 = .ok (.aload_n 0, 1) := by decide +kernel
theorem dX8_count_109 : decode cX8_count 109 = .ok (.getfield 35, 3) := by decide +kernel
theorem dX8_count_112 : decode cX8_count 112 = .ok (.iconst 0, 1) := by decide +kernel
theorem dX8_count_113 : decode cX8_count 113 = .ok (.iaload, 1) := by decide +kernel
theorem dX8_count_114 : decode cX8_count 114 = .ok (.bipush (-4), 2) := by decide +kernel
theorem dX8_count_116 : decode cX8_count 116 = .ok (.if_icmp .ne 8, 3) := by decide +kernel
theorem dX8_count_119 : decode cX8_count 119 = .ok (.bipush (-4), 2) := by decide +kernel
theorem dX8_count_121 : decode cX8_count 121 = .ok (.goto 9, 3) := by decide +kernel
theorem dX8_count_124 : decode cX8_count 124 = .ok (.aload_n 0, 1) := by decide +kernel
theorem dX8_count_125 : decode cX8_count 125 = .ok (.getfield 38, 3) := by decide +kernel
theorem dX8_count_128 : decode cX8_count 128 = .ok (.iconst 0, 1) := by decide +kernel
theorem dX8_count_129 : decode cX8_count 129 = .ok (.iaload, 1) := by decide +kernel
theorem dX8_count_130 : decode cX8_count 130 = .ok (.ireturn, 1) := by decide +kernel
theorem dX8_count_131 : decode cX8_count 131 = .ok (.aload_n 0, 1) := by decide +kernel
theorem dX8_count_132 : decode cX8_count 132 = .ok (.getfield 7, 3) := by decide +kernel
theorem dX8_count_135 : decode cX8_count 135 = .ok (.bipush 18, 2) := by decide +kernel
theorem dX8_count_137 : decode cX8_count 137 = .ok (.iaload, 1) := by decide +kernel
theorem dX8_count_138 : decode cX8_count 138 = .ok (.invokestatic 259, 3) := by decide +kernel
theorem dX8_count_141 : decode cX8_count 141 = .ok (.ireturn, 1) := by decide +kernel
theorem dX8_count_142 : decode cX8_count 142 = .ok (.iload_n 2, 1) := by decide +kernel
theorem dX8_count_143 : decode cX8_count 143 = .ok (.ireturn, 1) := by decide +kernel
theorem dX8_count_144 : decode cX8_count 144 = .ok (.iconst (-1), 1) := by decide +kernel
theorem dX8_count_145 : decode cX8_count 145 = .ok (.ireturn, 1) := by decide +kernel
end
section
theorem dL_law_0 : decode cL_law 0 = .ok (.new 7, 3) := by decide +kernel
theorem dL_law_3 : decode cL_law 3 = .ok (.dup, 1) := by decide +kernel
theorem dL_law_4 : decode cL_law 4 = .ok (.invokespecial 9, 3) := by decide +kernel
theorem dL_law_7 : decode cL_law 7 = .ok (.astore_n 1, 1) := by decide +kernel
theorem dL_law_8 : decode cL_law 8 = .ok (.new 10, 3) := by decide +kernel
theorem dL_law_11 : decode cL_law 11 = .ok (.dup, 1) := by decide +kernel
theorem dL_law_12 : decode cL_law 12 = .ok (.invokespecial 12, 3) := by decide +kernel
theorem dL_law_15 : decode cL_law 15 = .ok (.astore_n 2, 1) := by decide +kernel
theorem dL_law_16 : decode cL_law 16 = .ok (.iconst 0, 1) := by decide +kernel
theorem dL_law_17 : decode cL_law 17 = .ok (.istore_n 3, 1) := by decide +kernel
theorem dL_law_18 : decode cL_law 18 = .ok (.iload_n 3, 1) := by decide +kernel
theorem dL_law_19 : decode cL_law 19 = .ok (.aload_n 0, 1) := by decide +kernel
theorem dL_law_20 : decode cL_law 20 = .ok (.arraylength, 1) := by decide +kernel
theorem dL_law_21 : decode cL_law 21 = .ok (.iconst 5, 1) := by decide +kernel
theorem dL_law_22 : decode cL_law 22 = .ok (.isub, 1) := by decide +kernel
theorem dL_law_23 : decode cL_law 23 = .ok (.if_icmp .gt 1367, 3) := by decide +kernel
theorem dL_law_26 : decode cL_law 26 = .ok (.aload_n 0, 1) := by decide +kernel
theorem dL_law_27 : decode cL_law 27 = .ok (.iload_n 3, 1) := by decide +kernel
theorem dL_law_28 : decode cL_law 28 = .ok (.iaload, 1) := by decide +kernel
theorem dL_law_29 : decode cL_law 29 = .ok (.bipush 63, 2) := by decide +kernel
theorem dL_law_31 : decode cL_law 31 = .ok (.iand, 1) := by decide +kernel
theorem dL_law_32 : decode cL_law 32 = .ok (.tableswitch 1352 0 40 #[180, 203, 226, 239, 252, 275, 308, 341, 374, 417, 460, 493, 516, 539, 562, 585, 608, 631, 654, 677, 710, 723, 736, 779, 812, 835, 858, 892, 926, 960, 1019, 1042, 1065, 1088, 1131, 1154, 1177, 1220, 1263, 1316, 1329], 180) := by decide +kernel
theorem dL_law_212 : decode cL_law 212 = .ok (.aload_n 1, 1) := by decide +kernel
theorem dL_law_213 : decode cL_law 213 = .ok (.aload_n 0, 1) := by decide +kernel
theorem dL_law_214 : decode cL_law 214 = .ok (.iload_n 3, 1) := by decide +kernel
theorem dL_law_215 : decode cL_law 215 = .ok (.iconst 1, 1) := by decide +kernel
theorem dL_law_216 : decode cL_law 216 = .ok (.iadd, 1) := by decide +kernel
theorem dL_law_217 : decode cL_law 217 = .ok (.iaload, 1) := by decide +kernel
theorem dL_law_218 : decode cL_law 218 = .ok (.invokevirtual 13, 3) := by decide +kernel
theorem dL_law_221 : decode cL_law 221 = .ok (.aload_n 2, 1) := by decide +kernel
theorem dL_law_222 : decode cL_law 222 = .ok (.aload_n 0, 1) := by decide +kernel
theorem dL_law_223 : decode cL_law 223 = .ok (.iload_n 3, 1) := by decide +kernel
theorem dL_law_224 : decode cL_law 224 = .ok (.iconst 1, 1) := by decide +kernel
theorem dL_law_225 : decode cL_law 225 = .ok (.iadd, 1) := by decide +kernel
theorem dL_law_226 : decode cL_law 226 = .ok (.iaload, 1) := by decide +kernel
theorem dL_law_227 : decode cL_law 227 = .ok (.invokevirtual 17, 3) := by decide +kernel
theorem dL_law_230 : decode cL_law 230 = .ok (.if_icmp .eq 1154, 3) := by decide +kernel
theorem dL_law_233 : decode cL_law 233 = .ok (.iconst 0, 1) := by decide +kernel
theorem dL_law_234 : decode cL_law 234 = .ok (.ireturn, 1) := by decide +kernel
theorem dL_law_235 : decode cL_law 235 = .ok (.aload_n 1, 1) := by decide +kernel
theorem dL_law_236 : decode cL_law 236 = .ok (.aload_n 0, 1) := by decide +kernel
theorem dL_law_237 : decode cL_law 237 = .ok (.iload_n 3, 1) := by decide +kernel
theorem dL_law_238 : decode cL_law 238 = .ok (.iconst 1, 1) := by decide +kernel
theorem dL_law_239 : decode cL_law 239 = .ok (.iadd, 1) := by decide +kernel
theorem dL_law_240 : decode cL_law 240 = .ok (.iaload, 1) := by decide +kernel
theorem dL_law_241 : decode cL_law 241 = .ok (.invokevirtual 18, 3) := by decide +kernel
theorem dL_law_244 : decode cL_law 244 = .ok (.aload_n 2, 1) := by decide +kernel
theorem dL_law_245 : decode cL_law 245 = .ok (.aload_n 0, 1) := by decide +kernel
theorem dL_law_246 : decode cL_law 246 = .ok (.iload_n 3, 1) := by decide +kernel
theorem dL_law_247 : decode cL_law 247 = .ok (.iconst 1, 1) := by decide +kernel
theorem dL_law_248 : decode cL_law 248 = .ok (.iadd, 1) := by decide +kernel
theorem dL_law_249 : decode cL_law 249 = .ok (.iaload, 1) := by decide +kernel
theorem dL_law_250 : decode cL_law 250 = .ok (.invokevirtual 21, 3) := by decide +kernel
theorem dL_law_253 : decode cL_law 253 = .ok (.if_icmp .eq 1131, 3) := by decide +kernel
theorem dL_law_256 : decode cL_law 256 = .ok (.iconst 0, 1) := by decide +kernel
theorem dL_law_257 : decode cL_law 257 = .ok (.ireturn, 1) := by decide +kernel
theorem dL_law_258 : decode cL_law 258 = .ok (.aload_n 1, 1) := by decide +kernel
theorem dL_law_259 : decode cL_law 259 = .ok (.invokevirtual 22, 3) := by decide +kernel
theorem dL_law_262 : decode cL_law 262 = .ok (.aload_n 2, 1) := by decide +kernel
theorem dL_law_263 : decode cL_law 263 = .ok (.invokevirtual 26, 3) := by decide +kernel
theorem dL_law_266 : decode cL_law 266 = .ok (.if_icmp .eq 1118, 3) := by decide +kernel
theorem dL_law_269 : decode cL_law 269 = .ok (.iconst 0, 1) := by decide +kernel
theorem dL_law_270 : decode cL_law 270 = .ok (.ireturn, 1) := by decide +kernel
theorem dL_law_271 : decode cL_law 271 = .ok (.aload_n 1, 1) := by decide +kernel
theorem dL_law_272 : decode cL_law 272 = .ok (.invokevirtual 27, 3) := by decide +kernel
theorem dL_law_275 : decode cL_law 275 = .ok (.aload_n 2, 1) := by decide +kernel
theorem dL_law_276 : decode cL_law 276 = .ok (.invokevirtual 30, 3) := by decide +kernel
theorem dL_law_279 : decode cL_law 279 = .ok (.if_icmp .eq 1105, 3) := by decide +kernel
theorem dL_law_282 : decode cL_law 282 = .ok (.iconst 0, 1) := by decide +kernel
theorem dL_law_283 : decode cL_law 283 = .ok (.ireturn, 1) := by decide +kernel
theorem dL_law_284 : decode cL_law 284 = .ok (.aload_n 1, 1) := by decide +kernel
theorem dL_law_285 : decode cL_law 285 = .ok (.aload_n 0, 1) := by decide +kernel
theorem dL_law_286 : decode cL_law 286 = .ok (.iload_n 3, 1) := by decide +kernel
theorem dL_law_287 : decode cL_law 287 = .ok (.iconst 1, 1) := by decide +kernel
theorem dL_law_288 : decode cL_law 288 = .ok (.iadd, 1) := by decide +kernel
theorem dL_law_289 : decode cL_law 289 = .ok (.iaload, 1) := by decide +kernel
theorem dL_law_290 : decode cL_law 290 = .ok (.invokevirtual 31, 3) := by decide +kernel
theorem dL_law_293 : decode cL_law 293 = .ok (.aload_n 2, 1) := by decide +kernel
theorem dL_law_294 : decode cL_law 294 = .ok (.aload_n 0, 1) := by decide +kernel
theorem dL_law_295 : decode cL_law 295 = .ok (.iload_n 3, 1) := by decide +kernel
theorem dL_law_296 : decode cL_law 296 = .ok (.iconst 1, 1) := by decide +kernel
theorem dL_law_297 : decode cL_law 297 = .ok (.iadd, 1) := by decide +kernel
theorem dL_law_298 : decode cL_law 298 = .ok (.iaload, 1) := by decide +kernel
theorem dL_law_299 : decode cL_law 299 = .ok (.invokevirtual 34, 3) := by decide +kernel
theorem dL_law_302 : decode cL_law 302 = .ok (.if_icmp .eq 1082, 3) := by decide +kernel
theorem dL_law_305 : decode cL_law 305 = .ok (.iconst 0, 1) := by decide +kernel
theorem dL_law_306 : decode cL_law 306 = .ok (.ireturn, 1) := by decide +kernel
theorem dL_law_307 : decode cL_law 307 = .ok (.aload_n 1, 1) := by decide +kernel
theorem dL_law_308 : decode cL_law 308 = .ok (.aload_n 0, 1) := by decide +kernel
theorem dL_law_309 : decode cL_law 309 = .ok (.iload_n 3, 1) := by decide +kernel
theorem dL_law_310 : decode cL_law 310 = .ok (.iconst 1, 1) := by decide +kernel
theorem dL_law_311 : decode cL_law 311 = .ok (.iadd, 1) := by decide +kernel
theorem dL_law_312 : decode cL_law 312 = .ok (.iaload, 1) := by decide +kernel
theorem dL_law_313 : decode cL_law 313 = .ok (.aload_n 0, 1) := by decide +kernel
theorem dL_law_314 : decode cL_law 314 = .ok (.iload_n 3, 1) := by decide +kernel
theorem dL_law_315 : decode cL_law 315 = .ok (.iconst 2, 1) := by decide +kernel
theorem dL_law_316 : decode cL_law 316 = .ok (.iadd, 1) := by decide +kernel
theorem dL_law_317 : decode cL_law 317 = .ok (.iaload, 1) := by decide +kernel
theorem dL_law_318 : decode cL_law 318 = .ok (.invokevirtual 35, 3) := by decide +kernel
theorem dL_law_321 : decode cL_law 321 = .ok (.aload_n 2, 1) := by decide +kernel
theorem dL_law_322 : decode cL_law 322 = .ok (.aload_n 0, 1) := by decide +kernel
theorem dL_law_323 : decode cL_law 323 = .ok (.iload_n 3, 1) := by decide +kernel
theorem dL_law_324 : decode cL_law 324 = .ok (.iconst 1, 1) := by decide +kernel
theorem dL_law_325 : decode cL_law 325 = .ok (.iadd, 1) := by decide +kernel
theorem dL_law_326 : decode cL_law 326 = .ok (.iaload, 1) := by decide +kernel
theorem dL_law_327 : decode cL_law 327 = .ok (.aload_n 0, 1) := by decide +kernel
theorem dL_law_328 : decode cL_law 328 = .ok (.iload_n 3, 1) := by decide +kernel
theorem dL_law_329 : decode cL_law 329 = .ok (.iconst 2, 1) := by decide +kernel
theorem dL_law_330 : decode cL_law 330 = .ok (.iadd, 1) := by decide +kernel
theorem dL_law_331 : decode cL_law 331 = .ok (.iaload, 1) := by decide +kernel
theorem dL_law_332 : decode cL_law 332 = .ok (.invokevirtual 39, 3) := by decide +kernel
theorem dL_law_335 : decode cL_law 335 = .ok (.if_icmp .eq 1049, 3) := by decide +kernel
theorem dL_law_338 : decode cL_law 338 = .ok (.iconst 0, 1) := by decide +kernel
theorem dL_law_339 : decode cL_law 339 = .ok (.ireturn, 1) := by decide +kernel
theorem dL_law_340 : decode cL_law 340 = .ok (.aload_n 1, 1) := by decide +kernel
theorem dL_law_341 : decode cL_law 341 = .ok (.aload_n 0, 1) := by decide +kernel
theorem dL_law_342 : decode cL_law 342 = .ok (.iload_n 3, 1) := by decide +kernel
theorem dL_law_343 : decode cL_law 343 = .ok (.iconst 1, 1) := by decide +kernel
theorem dL_law_344 : decode cL_law 344 = .ok (.iadd, 1) := by decide +kernel
theorem dL_law_345 : decode cL_law 345 = .ok (.iaload, 1) := by decide +kernel
theorem dL_law_346 : decode cL_law 346 = .ok (.aload_n 0, 1) := by decide +kernel
theorem dL_law_347 : decode cL_law 347 = .ok (.iload_n 3, 1) := by decide +kernel
theorem dL_law_348 : decode cL_law 348 = .ok (.iconst 2, 1) := by decide +kernel
theorem dL_law_349 : decode cL_law 349 = .ok (.iadd, 1) := by decide +kernel
theorem dL_law_350 : decode cL_law 350 = .ok (.iaload, 1) := by decide +kernel
theorem dL_law_351 : decode cL_law 351 = .ok (.invokevirtual 40, 3) := by decide +kernel
theorem dL_law_354 : decode cL_law 354 = .ok (.aload_n 2, 1) := by decide +kernel
theorem dL_law_355 : decode cL_law 355 = .ok (.aload_n 0, 1) := by decide +kernel
theorem dL_law_356 : decode cL_law 356 = .ok (.iload_n 3, 1) := by decide +kernel
theorem dL_law_357 : decode cL_law 357 = .ok (.iconst 1, 1) := by decide +kernel
theorem dL_law_358 : decode cL_law 358 = .ok (.iadd, 1) := by decide +kernel
theorem dL_law_359 : decode cL_law 359 = .ok (.iaload, 1) := by decide +kernel
theorem dL_law_360 : decode cL_law 360 = .ok (.aload_n 0, 1) := by decide +kernel
theorem dL_law_361 : decode cL_law 361 = .ok (.iload_n 3, 1) := by decide +kernel
theorem dL_law_362 : decode cL_law 362 = .ok (.iconst 2, 1) := by decide +kernel
theorem dL_law_363 : decode cL_law 363 = .ok (.iadd, 1) := by decide +kernel
theorem dL_law_364 : decode cL_law 364 = .ok (.iaload, 1) := by decide +kernel
theorem dL_law_365 : decode cL_law 365 = .ok (.invokevirtual 43, 3) := by decide +kernel
theorem dL_law_368 : decode cL_law 368 = .ok (.if_icmp .eq 1016, 3) := by decide +kernel
theorem dL_law_371 : decode cL_law 371 = .ok (.iconst 0, 1) := by decide +kernel
theorem dL_law_372 : decode cL_law 372 = .ok (.ireturn, 1) := by decide +kernel
theorem dL_law_373 : decode cL_law 373 = .ok (.aload_n 1, 1) := by decide +kernel
theorem dL_law_374 : decode cL_law 374 = .ok (.aload_n 0, 1) := by decide +kernel
theorem dL_law_375 : decode cL_law 375 = .ok (.iload_n 3, 1) := by decide +kernel
theorem dL_law_376 : decode cL_law 376 = .ok (.iconst 1, 1) := by decide +kernel
theorem dL_law_377 : decode cL_law 377 = .ok (.iadd, 1) := by decide +kernel
theorem dL_law_378 : decode cL_law 378 = .ok (.iaload, 1) := by decide +kernel
theorem dL_law_379 : decode cL_law 379 = .ok (.aload_n 0, 1) := by decide +kernel
theorem dL_law_380 : decode cL_law 380 = .ok (.iload_n 3, 1) := by decide +kernel
theorem dL_law_381 : decode cL_law 381 = .ok (.iconst 2, 1) := by decide +kernel
theorem dL_law_382 : decode cL_law 382 = .ok (.iadd, 1) := by decide +kernel
theorem dL_law_383 : decode cL_law 383 = .ok (.iaload, 1) := by decide +kernel
theorem dL_law_384 : decode cL_law 384 = .ok (.invokevirtual 44, 3) := by decide +kernel
theorem dL_law_387 : decode cL_law 387 = .ok (.aload_n 2, 1) := by decide +kernel
theorem dL_law_388 : decode cL_law 388 = .ok (.aload_n 0, 1) := by decide +kernel
theorem dL_law_389 : decode cL_law 389 = .ok (.iload_n 3, 1) := by decide +kernel
theorem dL_law_390 : decode cL_law 390 = .ok (.iconst 1, 1) := by decide +kernel
theorem dL_law_391 : decode cL_law 391 = .ok (.iadd, 1) := by decide +kernel
theorem dL_law_392 : decode cL_law 392 = .ok (.iaload, 1) := by decide +kernel
theorem dL_law_393 : decode cL_law 393 = .ok (.aload_n 0, 1) := by decide +kernel
theorem dL_law_394 : decode cL_law 394 = .ok (.iload_n 3, 1) := by decide +kernel
theorem dL_law_395 : decode cL_law 395 = .ok (.iconst 2, 1) := by decide +kernel
theorem dL_law_396 : decode cL_law 396 = .ok (.iadd, 1) := by decide +kernel
theorem dL_law_397 : decode cL_law 397 = .ok (.iaload, 1) := by decide +kernel
theorem dL_law_398 : decode cL_law 398 = .ok (.invokevirtual 47, 3) := by decide +kernel
theorem dL_law_401 : decode cL_law 401 = .ok (.if_icmp .eq 983, 3) := by decide +kernel
theorem dL_law_404 : decode cL_law 404 = .ok (.iconst 0, 1) := by decide +kernel
theorem dL_law_405 : decode cL_law 405 = .ok (.ireturn, 1) := by decide +kernel
theorem dL_law_406 : decode cL_law 406 = .ok (.aload_n 1, 1) := by decide +kernel
theorem dL_law_407 : decode cL_law 407 = .ok (.aload_n 0, 1) := by decide +kernel
theorem dL_law_408 : decode cL_law 408 = .ok (.iload_n 3, 1) := by decide +kernel
theorem dL_law_409 : decode cL_law 409 = .ok (.iconst 1, 1) := by decide +kernel
theorem dL_law_410 : decode cL_law 410 = .ok (.iadd, 1) := by decide +kernel
theorem dL_law_411 : decode cL_law 411 = .ok (.iaload, 1) := by decide +kernel
theorem dL_law_412 : decode cL_law 412 = .ok (.aload_n 0, 1) := by decide +kernel
theorem dL_law_413 : decode cL_law 413 = .ok (.iload_n 3, 1) := by decide +kernel
theorem dL_law_414 : decode cL_law 414 = .ok (.iconst 2, 1) := by decide +kernel
theorem dL_law_415 : decode cL_law 415 = .ok (.iadd, 1) := by decide +kernel
theorem dL_law_416 : decode cL_law 416 = .ok (.iaload, 1) := by decide +kernel
theorem dL_law_417 : decode cL_law 417 = .ok (.aload_n 0, 1) := by decide +kernel
theorem dL_law_418 : decode cL_law 418 = .ok (.iload_n 3, 1) := by decide +kernel
theorem dL_law_419 : decode cL_law 419 = .ok (.iconst 3, 1) := by decide +kernel
theorem dL_law_420 : decode cL_law 420 = .ok (.iadd, 1) := by decide +kernel
theorem dL_law_421 : decode cL_law 421 = .ok (.iaload, 1) := by decide +kernel
theorem dL_law_422 : decode cL_law 422 = .ok (.invokevirtual 48, 3) := by decide +kernel
theorem dL_law_425 : decode cL_law 425 = .ok (.aload_n 2, 1) := by decide +kernel
theorem dL_law_426 : decode cL_law 426 = .ok (.aload_n 0, 1) := by decide +kernel
theorem dL_law_427 : decode cL_law 427 = .ok (.iload_n 3, 1) := by decide +kernel
theorem dL_law_428 : decode cL_law 428 = .ok (.iconst 1, 1) := by decide +kernel
theorem dL_law_429 : decode cL_law 429 = .ok (.iadd, 1) := by decide +kernel
theorem dL_law_430 : decode cL_law 430 = .ok (.iaload, 1) := by decide +kernel
theorem dL_law_431 : decode cL_law 431 = .ok (.aload_n 0, 1) := by decide +kernel
theorem dL_law_432 : decode cL_law 432 = .ok (.iload_n 3, 1) := by decide +kernel
theorem dL_law_433 : decode cL_law 433 = .ok (.iconst 2, 1) := by decide +kernel
theorem dL_law_434 : decode cL_law 434 = .ok (.iadd, 1) := by decide +kernel
theorem dL_law_435 : decode cL_law 435 = .ok (.iaload, 1) := by decide +kernel
theorem dL_law_436 : decode cL_law 436 = .ok (.aload_n 0, 1) := by decide +kernel
theorem dL_law_437 : decode cL_law 437 = .ok (.iload_n 3, 1) := by decide +kernel
theorem dL_law_438 : decode cL_law 438 = .ok (.iconst 3, 1) := by decide +kernel
theorem dL_law_439 : decode cL_law 439 = .ok (.iadd, 1) := by decide +kernel
theorem dL_law_440 : decode cL_law 440 = .ok (.iaload, 1) := by decide +kernel
theorem dL_law_441 : decode cL_law 441 = .ok (.invokevirtual 52, 3) := by decide +kernel
theorem dL_law_444 : decode cL_law 444 = .ok (.if_icmp .eq 940, 3) := by decide +kernel
theorem dL_law_447 : decode cL_law 447 = .ok (.iconst 0, 1) := by decide +kernel
theorem dL_law_448 : decode cL_law 448 = .ok (.ireturn, 1) := by decide +kernel
theorem dL_law_449 : decode cL_law 449 = .ok (.aload_n 1, 1) := by decide +kernel
theorem dL_law_450 : decode cL_law 450 = .ok (.aload_n 0, 1) := by decide +kernel
theorem dL_law_451 : decode cL_law 451 = .ok (.iload_n 3, 1) := by decide +kernel
theorem dL_law_452 : decode cL_law 452 = .ok (.iconst 1, 1) := by decide +kernel
theorem dL_law_453 : decode cL_law 453 = .ok (.iadd, 1) := by decide +kernel
theorem dL_law_454 : decode cL_law 454 = .ok (.iaload, 1) := by decide +kernel
theorem dL_law_455 : decode cL_law 455 = .ok (.aload_n 0, 1) := by decide +kernel
theorem dL_law_456 : decode cL_law 456 = .ok (.iload_n 3, 1) := by decide +kernel
theorem dL_law_457 : decode cL_law 457 = .ok (.iconst 2, 1) := by decide +kernel
theorem dL_law_458 : decode cL_law 458 = .ok (.iadd, 1) := by decide +kernel
theorem dL_law_459 : decode cL_law 459 = .ok (.iaload, 1) := by decide +kernel
theorem dL_law_460 : decode cL_law 460 = .ok (.aload_n 0, 1) := by decide +kernel
theorem dL_law_461 : decode cL_law 461 = .ok (.iload_n 3, 1) := by decide +kernel
theorem dL_law_462 : decode cL_law 462 = .ok (.iconst 3, 1) := by decide +kernel
theorem dL_law_463 : decode cL_law 463 = .ok (.iadd, 1) := by decide +kernel
theorem dL_law_464 : decode cL_law 464 = .ok (.iaload, 1) := by decide +kernel
theorem dL_law_465 : decode cL_law 465 = .ok (.invokevirtual 53, 3) := by decide +kernel
theorem dL_law_468 : decode cL_law 468 = .ok (.aload_n 2, 1) := by decide +kernel
theorem dL_law_469 : decode cL_law 469 = .ok (.aload_n 0, 1) := by decide +kernel
theorem dL_law_470 : decode cL_law 470 = .ok (.iload_n 3, 1) := by decide +kernel
theorem dL_law_471 : decode cL_law 471 = .ok (.iconst 1, 1) := by decide +kernel
theorem dL_law_472 : decode cL_law 472 = .ok (.iadd, 1) := by decide +kernel
theorem dL_law_473 : decode cL_law 473 = .ok (.iaload, 1) := by decide +kernel
theorem dL_law_474 : decode cL_law 474 = .ok (.aload_n 0, 1) := by decide +kernel
theorem dL_law_475 : decode cL_law 475 = .ok (.iload_n 3, 1) := by decide +kernel
theorem dL_law_476 : decode cL_law 476 = .ok (.iconst 2, 1) := by decide +kernel
theorem dL_law_477 : decode cL_law 477 = .ok (.iadd, 1) := by decide +kernel
theorem dL_law_478 : decode cL_law 478 = .ok (.iaload, 1) := by decide +kernel
theorem dL_law_479 : decode cL_law 479 = .ok (.aload_n 0, 1) := by decide +kernel
theorem dL_law_480 : decode cL_law 480 = .ok (.iload_n 3, 1) := by decide +kernel
theorem dL_law_481 : decode cL_law 481 = .ok (.iconst 3, 1) := by decide +kernel
theorem dL_law_482 : decode cL_law 482 = .ok (.iadd, 1) := by decide +kernel
theorem dL_law_483 : decode cL_law 483 = .ok (.iaload, 1) := by decide +kernel
theorem dL_law_484 : decode cL_law 484 = .ok (.invokevirtual 56, 3) := by decide +kernel
theorem dL_law_487 : decode cL_law 487 = .ok (.if_icmp .eq 897, 3) := by decide +kernel
theorem dL_law_490 : decode cL_law 490 = .ok (.iconst 0, 1) := by decide +kernel
theorem dL_law_491 : decode cL_law 491 = .ok (.ireturn, 1) := by decide +kernel
theorem dL_law_492 : decode cL_law 492 = .ok (.aload_n 1, 1) := by decide +kernel
theorem dL_law_493 : decode cL_law 493 = .ok (.aload_n 0, 1) := by decide +kernel
theorem dL_law_494 : decode cL_law 494 = .ok (.iload_n 3, 1) := by decide +kernel
theorem dL_law_495 : decode cL_law 495 = .ok (.iconst 1, 1) := by decide +kernel
theorem dL_law_496 : decode cL_law 496 = .ok (.iadd, 1) := by decide +kernel
theorem dL_law_497 : decode cL_law 497 = .ok (.iaload, 1) := by decide +kernel
theorem dL_law_498 : decode cL_law 498 = .ok (.aload_n 0, 1) := by decide +kernel
theorem dL_law_499 : decode cL_law 499 = .ok (.iload_n 3, 1) := by decide +kernel
theorem dL_law_500 : decode cL_law 500 = .ok (.iconst 2, 1) := by decide +kernel
theorem dL_law_501 : decode cL_law 501 = .ok (.iadd, 1) := by decide +kernel
theorem dL_law_502 : decode cL_law 502 = .ok (.iaload, 1) := by decide +kernel
theorem dL_law_503 : decode cL_law 503 = .ok (.invokevirtual 57, 3) := by decide +kernel
theorem dL_law_506 : decode cL_law 506 = .ok (.aload_n 2, 1) := by decide +kernel
theorem dL_law_507 : decode cL_law 507 = .ok (.aload_n 0, 1) := by decide +kernel
theorem dL_law_508 : decode cL_law 508 = .ok (.iload_n 3, 1) := by decide +kernel
theorem dL_law_509 : decode cL_law 509 = .ok (.iconst 1, 1) := by decide +kernel
theorem dL_law_510 : decode cL_law 510 = .ok (.iadd, 1) := by decide +kernel
theorem dL_law_511 : decode cL_law 511 = .ok (.iaload, 1) := by decide +kernel
theorem dL_law_512 : decode cL_law 512 = .ok (.aload_n 0, 1) := by decide +kernel
theorem dL_law_513 : decode cL_law 513 = .ok (.iload_n 3, 1) := by decide +kernel
theorem dL_law_514 : decode cL_law 514 = .ok (.iconst 2, 1) := by decide +kernel
theorem dL_law_515 : decode cL_law 515 = .ok (.iadd, 1) := by decide +kernel
theorem dL_law_516 : decode cL_law 516 = .ok (.iaload, 1) := by decide +kernel
theorem dL_law_517 : decode cL_law 517 = .ok (.invokevirtual 60, 3) := by decide +kernel
theorem dL_law_520 : decode cL_law 520 = .ok (.if_icmp .eq 864, 3) := by decide +kernel
theorem dL_law_523 : decode cL_law 523 = .ok (.iconst 0, 1) := by decide +kernel
theorem dL_law_524 : decode cL_law 524 = .ok (.ireturn, 1) := by decide +kernel
theorem dL_law_525 : decode cL_law 525 = .ok (.aload_n 1, 1) := by decide +kernel
theorem dL_law_526 : decode cL_law 526 = .ok (.aload_n 0, 1) := by decide +kernel
theorem dL_law_527 : decode cL_law 527 = .ok (.iload_n 3, 1) := by decide +kernel
theorem dL_law_528 : decode cL_law 528 = .ok (.iconst 1, 1) := by decide +kernel
theorem dL_law_529 : decode cL_law 529 = .ok (.iadd, 1) := by decide +kernel
theorem dL_law_530 : decode cL_law 530 = .ok (.iaload, 1) := by decide +kernel
theorem dL_law_531 : decode cL_law 531 = .ok (.invokevirtual 61, 3) := by decide +kernel
theorem dL_law_534 : decode cL_law 534 = .ok (.aload_n 2, 1) := by decide +kernel
theorem dL_law_535 : decode cL_law 535 = .ok (.aload_n 0, 1) := by decide +kernel
theorem dL_law_536 : decode cL_law 536 = .ok (.iload_n 3, 1) := by decide +kernel
theorem dL_law_537 : decode cL_law 537 = .ok (.iconst 1, 1) := by decide +kernel
theorem dL_law_538 : decode cL_law 538 = .ok (.iadd, 1) := by decide +kernel
theorem dL_law_539 : decode cL_law 539 = .ok (.iaload, 1) := by decide +kernel
theorem dL_law_540 : decode cL_law 540 = .ok (.invokevirtual 64, 3) := by decide +kernel
theorem dL_law_543 : decode cL_law 543 = .ok (.if_icmp .eq 841, 3) := by decide +kernel
theorem dL_law_546 : decode cL_law 546 = .ok (.iconst 0, 1) := by decide +kernel
theorem dL_law_547 : decode cL_law 547 = .ok (.ireturn, 1) := by decide +kernel
theorem dL_law_548 : decode cL_law 548 = .ok (.aload_n 1, 1) := by decide +kernel
theorem dL_law_549 : decode cL_law 549 = .ok (.aload_n 0, 1) := by decide +kernel
theorem dL_law_550 : decode cL_law 550 = .ok (.iload_n 3, 1) := by decide +kernel
theorem dL_law_551 : decode cL_law 551 = .ok (.iconst 1, 1) := by decide +kernel
theorem dL_law_552 : decode cL_law 552 = .ok (.iadd, 1) := by decide +kernel
theorem dL_law_553 : decode cL_law 553 = .ok (.iaload, 1) := by decide +kernel
theorem dL_law_554 : decode cL_law 554 = .ok (.invokevirtual 65, 3) := by decide +kernel
theorem dL_law_557 : decode cL_law 557 = .ok (.aload_n 2, 1) := by decide +kernel
theorem dL_law_558 : decode cL_law 558 = .ok (.aload_n 0, 1) := by decide +kernel
theorem dL_law_559 : decode cL_law 559 = .ok (.iload_n 3, 1) := by decide +kernel
theorem dL_law_560 : decode cL_law 560 = .ok (.iconst 1, 1) := by decide +kernel
theorem dL_law_561 : decode cL_law 561 = .ok (.iadd, 1) := by decide +kernel
theorem dL_law_562 : decode cL_law 562 = .ok (.iaload, 1) := by decide +kernel
theorem dL_law_563 : decode cL_law 563 = .ok (.invokevirtual 68, 3) := by decide +kernel
theorem dL_law_566 : decode cL_law 566 = .ok (.if_icmp .eq 818, 3) := by decide +kernel
theorem dL_law_569 : decode cL_law 569 = .ok (.iconst 0, 1) := by decide +kernel
theorem dL_law_570 : decode cL_law 570 = .ok (.ireturn, 1) := by decide +kernel
theorem dL_law_571 : decode cL_law 571 = .ok (.aload_n 1, 1) := by decide +kernel
theorem dL_law_572 : decode cL_law 572 = .ok (.aload_n 0, 1) := by decide +kernel
theorem dL_law_573 : decode cL_law 573 = .ok (.iload_n 3, 1) := by decide +kernel
theorem dL_law_574 : decode cL_law 574 = .ok (.iconst 1, 1) := by decide +kernel
theorem dL_law_575 : decode cL_law 575 = .ok (.iadd, 1) := by decide +kernel
theorem dL_law_576 : decode cL_law 576 = .ok (.iaload, 1) := by decide +kernel
theorem dL_law_577 : decode cL_law 577 = .ok (.invokevirtual 69, 3) := by decide +kernel
theorem dL_law_580 : decode cL_law 580 = .ok (.aload_n 2, 1) := by decide +kernel
theorem dL_law_581 : decode cL_law 581 = .ok (.aload_n 0, 1) := by decide +kernel
theorem dL_law_582 : decode cL_law 582 = .ok (.iload_n 3, 1) := by decide +kernel
theorem dL_law_583 : decode cL_law 583 = .ok (.iconst 1, 1) := by decide +kernel
theorem dL_law_584 : decode cL_law 584 = .ok (.iadd, 1) := by decide +kernel
theorem dL_law_585 : decode cL_law 585 = .ok (.iaload, 1) := by decide +kernel
theorem dL_law_586 : decode cL_law 586 = .ok (.invokevirtual 72, 3) := by decide +kernel
theorem dL_law_589 : decode cL_law 589 = .ok (.if_icmp .eq 795, 3) := by decide +kernel
theorem dL_law_592 : decode cL_law 592 = .ok (.iconst 0, 1) := by decide +kernel
theorem dL_law_593 : decode cL_law 593 = .ok (.ireturn, 1) := by decide +kernel
theorem dL_law_594 : decode cL_law 594 = .ok (.aload_n 1, 1) := by decide +kernel
theorem dL_law_595 : decode cL_law 595 = .ok (.aload_n 0, 1) := by decide +kernel
theorem dL_law_596 : decode cL_law 596 = .ok (.iload_n 3, 1) := by decide +kernel
theorem dL_law_597 : decode cL_law 597 = .ok (.iconst 1, 1) := by decide +kernel
theorem dL_law_598 : decode cL_law 598 = .ok (.iadd, 1) := by decide +kernel
theorem dL_law_599 : decode cL_law 599 = .ok (.iaload, 1) := by decide +kernel
theorem dL_law_600 : decode cL_law 600 = .ok (.invokevirtual 73, 3) := by decide +kernel
theorem dL_law_603 : decode cL_law 603 = .ok (.aload_n 2, 1) := by decide +kernel
theorem dL_law_604 : decode cL_law 604 = .ok (.aload_n 0, 1) := by decide +kernel
theorem dL_law_605 : decode cL_law 605 = .ok (.iload_n 3, 1) := by decide +kernel
theorem dL_law_606 : decode cL_law 606 = .ok (.iconst 1, 1) := by decide +kernel
theorem dL_law_607 : decode cL_law 607 = .ok (.iadd, 1) := by decide +kernel
theorem dL_law_608 : decode cL_law 608 = .ok (.iaload, 1) := by decide +kernel
theorem dL_law_609 : decode cL_law 609 = .ok (.invokevirtual 76, 3) := by decide +kernel
theorem dL_law_612 : decode cL_law 612 = .ok (.if_icmp .eq 772, 3) := by decide +kernel
theorem dL_law_615 : decode cL_law 615 = .ok (.iconst 0, 1) := by decide +kernel
theorem dL_law_616 : decode cL_law 616 = .ok (.ireturn, 1) := by decide +kernel
theorem dL_law_617 : decode cL_law 617 = .ok (.aload_n 1, 1) := by decide +kernel
theorem dL_law_618 : decode cL_law 618 = .ok (.aload_n 0, 1) := by decide +kernel
theorem dL_law_619 : decode cL_law 619 = .ok (.iload_n 3, 1) := by decide +kernel
theorem dL_law_620 : decode cL_law 620 = .ok (.iconst 1, 1) := by decide +kernel
theorem dL_law_621 : decode cL_law 621 = .ok (.iadd, 1) := by decide +kernel
theorem dL_law_622 : decode cL_law 622 = .ok (.iaload, 1) := by decide +kernel
theorem dL_law_623 : decode cL_law 623 = .ok (.invokevirtual 77, 3) := by decide +kernel
theorem dL_law_626 : decode cL_law 626 = .ok (.aload_n 2, 1) := by decide +kernel
theorem dL_law_627 : decode cL_law 627 = .ok (.aload_n 0, 1) := by decide +kernel
theorem dL_law_628 : decode cL_law 628 = .ok (.iload_n 3, 1) := by decide +kernel
theorem dL_law_629 : decode cL_law 629 = .ok (.iconst 1, 1) := by decide +kernel
theorem dL_law_630 : decode cL_law 630 = .ok (.iadd, 1) := by decide +kernel
theorem dL_law_631 : decode cL_law 631 = .ok (.iaload, 1) := by decide +kernel
theorem dL_law_632 : decode cL_law 632 = .ok (.invokevirtual 80, 3) := by decide +kernel
theorem dL_law_635 : decode cL_law 635 = .ok (.if_icmp .eq 749, 3) := by decide +kernel
theorem dL_law_638 : decode cL_law 638 = .ok (.iconst 0, 1) := by decide +kernel
theorem dL_law_639 : decode cL_law 639 = .ok (.ireturn, 1) := by decide +kernel
theorem dL_law_640 : decode cL_law 640 = .ok (.aload_n 1, 1) := by decide +kernel
theorem dL_law_641 : decode cL_law 641 = .ok (.aload_n 0, 1) := by decide +kernel
theorem dL_law_642 : decode cL_law 642 = .ok (.iload_n 3, 1) := by decide +kernel
theorem dL_law_643 : decode cL_law 643 = .ok (.iconst 1, 1) := by decide +kernel
theorem dL_law_644 : decode cL_law 644 = .ok (.iadd, 1) := by decide +kernel
theorem dL_law_645 : decode cL_law 645 = .ok (.iaload, 1) := by decide +kernel
theorem dL_law_646 : decode cL_law 646 = .ok (.invokevirtual 81, 3) := by decide +kernel
theorem dL_law_649 : decode cL_law 649 = .ok (.aload_n 2, 1) := by decide +kernel
theorem dL_law_650 : decode cL_law 650 = .ok (.aload_n 0, 1) := by decide +kernel
theorem dL_law_651 : decode cL_law 651 = .ok (.iload_n 3, 1) := by decide +kernel
theorem dL_law_652 : decode cL_law 652 = .ok (.iconst 1, 1) := by decide +kernel
theorem dL_law_653 : decode cL_law 653 = .ok (.iadd, 1) := by decide +kernel
theorem dL_law_654 : decode cL_law 654 = .ok (.iaload, 1) := by decide +kernel
theorem dL_law_655 : decode cL_law 655 = .ok (.invokevirtual 84, 3) := by decide +kernel
theorem dL_law_658 : decode cL_law 658 = .ok (.if_icmp .eq 726, 3) := by decide +kernel
theorem dL_law_661 : decode cL_law 661 = .ok (.iconst 0, 1) := by decide +kernel
theorem dL_law_662 : decode cL_law 662 = .ok (.ireturn, 1) := by decide +kernel
theorem dL_law_663 : decode cL_law 663 = .ok (.aload_n 1, 1) := by decide +kernel
theorem dL_law_664 : decode cL_law 664 = .ok (.aload_n 0, 1) := by decide +kernel
theorem dL_law_665 : decode cL_law 665 = .ok (.iload_n 3, 1) := by decide +kernel
theorem dL_law_666 : decode cL_law 666 = .ok (.iconst 1, 1) := by decide +kernel
theorem dL_law_667 : decode cL_law 667 = .ok (.iadd, 1) := by decide +kernel
theorem dL_law_668 : decode cL_law 668 = .ok (.iaload, 1) := by decide +kernel
theorem dL_law_669 : decode cL_law 669 = .ok (.invokevirtual 85, 3) := by decide +kernel
theorem dL_law_672 : decode cL_law 672 = .ok (.aload_n 2, 1) := by decide +kernel
theorem dL_law_673 : decode cL_law 673 = .ok (.aload_n 0, 1) := by decide +kernel
theorem dL_law_674 : decode cL_law 674 = .ok (.iload_n 3, 1) := by decide +kernel
theorem dL_law_675 : decode cL_law 675 = .ok (.iconst 1, 1) := by decide +kernel
theorem dL_law_676 : decode cL_law 676 = .ok (.iadd, 1) := by decide +kernel
theorem dL_law_677 : decode cL_law 677 = .ok (.iaload, 1) := by decide +kernel
theorem dL_law_678 : decode cL_law 678 = .ok (.invokevirtual 88, 3) := by decide +kernel
theorem dL_law_681 : decode cL_law 681 = .ok (.if_icmp .eq 703, 3) := by decide +kernel
theorem dL_law_684 : decode cL_law 684 = .ok (.iconst 0, 1) := by decide +kernel
theorem dL_law_685 : decode cL_law 685 = .ok (.ireturn, 1) := by decide +kernel
theorem dL_law_686 : decode cL_law 686 = .ok (.aload_n 1, 1) := by decide +kernel
theorem dL_law_687 : decode cL_law 687 = .ok (.aload_n 0, 1) := by decide +kernel
theorem dL_law_688 : decode cL_law 688 = .ok (.iload_n 3, 1) := by decide +kernel
theorem dL_law_689 : decode cL_law 689 = .ok (.iconst 1, 1) := by decide +kernel
theorem dL_law_690 : decode cL_law 690 = .ok (.iadd, 1) := by decide +kernel
theorem dL_law_691 : decode cL_law 691 = .ok (.iaload, 1) := by decide +kernel
theorem dL_law_692 : decode cL_law 692 = .ok (.invokevirtual 89, 3) := by decide +kernel
theorem dL_law_695 : decode cL_law 695 = .ok (.aload_n 2, 1) := by decide +kernel
theorem dL_law_696 : decode cL_law 696 = .ok (.aload_n 0, 1) := by decide +kernel
theorem dL_law_697 : decode cL_law 697 = .ok (.iload_n 3, 1) := by decide +kernel
theorem dL_law_698 : decode cL_law 698 = .ok (.iconst 1, 1) := by decide +kernel
theorem dL_law_699 : decode cL_law 699 = .ok (.iadd, 1) := by decide +kernel
theorem dL_law_700 : decode cL_law 700 = .ok (.iaload, 1) := by decide +kernel
theorem dL_law_701 : decode cL_law 701 = .ok (.invokevirtual 92, 3) := by decide +kernel
theorem dL_law_704 : decode cL_law 704 = .ok (.if_icmp .eq 680, 3) := by decide +kernel
theorem dL_law_707 : decode cL_law 707 = .ok (.iconst 0, 1) := by decide +kernel
theorem dL_law_708 : decode cL_law 708 = .ok (.ireturn, 1) := by decide +kernel
theorem dL_law_709 : decode cL_law 709 = .ok (.aload_n 1, 1) := by decide +kernel
theorem dL_law_710 : decode cL_law 710 = .ok (.aload_n 0, 1) := by decide +kernel
theorem dL_law_711 : decode cL_law 711 = .ok (.iload_n 3, 1) := by decide +kernel
theorem dL_law_712 : decode cL_law 712 = .ok (.iconst 1, 1) := by decide +kernel
theorem dL_law_713 : decode cL_law 713 = .ok (.iadd, 1) := by decide +kernel
theorem dL_law_714 : decode cL_law 714 = .ok (.iaload, 1) := by decide +kernel
theorem dL_law_715 : decode cL_law 715 = .ok (.aload_n 0, 1) := by decide +kernel
theorem dL_law_716 : decode cL_law 716 = .ok (.iload_n 3, 1) := by decide +kernel
theorem dL_law_717 : decode cL_law 717 = .ok (.iconst 2, 1) := by decide +kernel
theorem dL_law_718 : decode cL_law 718 = .ok (.iadd, 1) := by decide +kernel
theorem dL_law_719 : decode cL_law 719 = .ok (.iaload, 1) := by decide +kernel
theorem dL_law_720 : decode cL_law 720 = .ok (.invokevirtual 93, 3) := by decide +kernel
theorem dL_law_723 : decode cL_law 723 = .ok (.aload_n 2, 1) := by decide +kernel
theorem dL_law_724 : decode cL_law 724 = .ok (.aload_n 0, 1) := by decide +kernel
theorem dL_law_725 : decode cL_law 725 = .ok (.iload_n 3, 1) := by decide +kernel
theorem dL_law_726 : decode cL_law 726 = .ok (.iconst 1, 1) := by decide +kernel
theorem dL_law_727 : decode cL_law 727 = .ok (.iadd, 1) := by decide +kernel
theorem dL_law_728 : decode cL_law 728 = .ok (.iaload, 1) := by decide +kernel
theorem dL_law_729 : decode cL_law 729 = .ok (.aload_n 0, 1) := by decide +kernel
theorem dL_law_730 : decode cL_law 730 = .ok (.iload_n 3, 1) := by decide +kernel
theorem dL_law_731 : decode cL_law 731 = .ok (.iconst 2, 1) := by decide +kernel
theorem dL_law_732 : decode cL_law 732 = .ok (.iadd, 1) := by decide +kernel
theorem dL_law_733 : decode cL_law 733 = .ok (.iaload, 1) := by decide +kernel
theorem dL_law_734 : decode cL_law 734 = .ok (.invokevirtual 96, 3) := by decide +kernel
theorem dL_law_737 : decode cL_law 737 = .ok (.if_icmp .eq 647, 3) := by decide +kernel
theorem dL_law_740 : decode cL_law 740 = .ok (.iconst 0, 1) := by decide +kernel
theorem dL_law_741 : decode cL_law 741 = .ok (.ireturn, 1) := by decide +kernel
theorem dL_law_742 : decode cL_law 742 = .ok (.aload_n 1, 1) := by decide +kernel
theorem dL_law_743 : decode cL_law 743 = .ok (.invokevirtual 97, 3) := by decide +kernel
theorem dL_law_746 : decode cL_law 746 = .ok (.aload_n 2, 1) := by decide +kernel
theorem dL_law_747 : decode cL_law 747 = .ok (.invokevirtual 100, 3) := by decide +kernel
theorem dL_law_750 : decode cL_law 750 = .ok (.if_icmp .eq 634, 3) := by decide +kernel
theorem dL_law_753 : decode cL_law 753 = .ok (.iconst 0, 1) := by decide +kernel
theorem dL_law_754 : decode cL_law 754 = .ok (.ireturn, 1) := by decide +kernel
theorem dL_law_755 : decode cL_law 755 = .ok (.aload_n 1, 1) := by decide +kernel
theorem dL_law_756 : decode cL_law 756 = .ok (.invokevirtual 101, 3) := by decide +kernel
theorem dL_law_759 : decode cL_law 759 = .ok (.aload_n 2, 1) := by decide +kernel
theorem dL_law_760 : decode cL_law 760 = .ok (.invokevirtual 104, 3) := by decide +kernel
theorem dL_law_763 : decode cL_law 763 = .ok (.if_icmp .eq 621, 3) := by decide +kernel
theorem dL_law_766 : decode cL_law 766 = .ok (.iconst 0, 1) := by decide +kernel
theorem dL_law_767 : decode cL_law 767 = .ok (.ireturn, 1) := by decide +kernel
theorem dL_law_768 : decode cL_law 768 = .ok (.aload_n 1, 1) := by decide +kernel
theorem dL_law_769 : decode cL_law 769 = .ok (.aload_n 0, 1) := by decide +kernel
theorem dL_law_770 : decode cL_law 770 = .ok (.iload_n 3, 1) := by decide +kernel
theorem dL_law_771 : decode cL_law 771 = .ok (.iconst 1, 1) := by decide +kernel
theorem dL_law_772 : decode cL_law 772 = .ok (.iadd, 1) := by decide +kernel
theorem dL_law_773 : decode cL_law 773 = .ok (.iaload, 1) := by decide +kernel
theorem dL_law_774 : decode cL_law 774 = .ok (.aload_n 0, 1) := by decide +kernel
theorem dL_law_775 : decode cL_law 775 = .ok (.iload_n 3, 1) := by decide +kernel
theorem dL_law_776 : decode cL_law 776 = .ok (.iconst 2, 1) := by decide +kernel
theorem dL_law_777 : decode cL_law 777 = .ok (.iadd, 1) := by decide +kernel
theorem dL_law_778 : decode cL_law 778 = .ok (.iaload, 1) := by decide +kernel
theorem dL_law_779 : decode cL_law 779 = .ok (.aload_n 0, 1) := by decide +kernel
theorem dL_law_780 : decode cL_law 780 = .ok (.iload_n 3, 1) := by decide +kernel
theorem dL_law_781 : decode cL_law 781 = .ok (.iconst 3, 1) := by decide +kernel
theorem dL_law_782 : decode cL_law 782 = .ok (.iadd, 1) := by decide +kernel
theorem dL_law_783 : decode cL_law 783 = .ok (.iaload, 1) := by decide +kernel
theorem dL_law_784 : decode cL_law 784 = .ok (.invokevirtual 105, 3) := by decide +kernel
theorem dL_law_787 : decode cL_law 787 = .ok (.aload_n 2, 1) := by decide +kernel
theorem dL_law_788 : decode cL_law 788 = .ok (.aload_n 0, 1) := by decide +kernel
theorem dL_law_789 : decode cL_law 789 = .ok (.iload_n 3, 1) := by decide +kernel
theorem dL_law_790 : decode cL_law 790 = .ok (.iconst 1, 1) := by decide +kernel
theorem dL_law_791 : decode cL_law 791 = .ok (.iadd, 1) := by decide +kernel
theorem dL_law_792 : decode cL_law 792 = .ok (.iaload, 1) := by decide +kernel
theorem dL_law_793 : decode cL_law 793 = .ok (.aload_n 0, 1) := by decide +kernel
theorem dL_law_794 : decode cL_law 794 = .ok (.iload_n 3, 1) := by decide +kernel
theorem dL_law_795 : decode cL_law 795 = .ok (.iconst 2, 1) := by decide +kernel
theorem dL_law_796 : decode cL_law 796 = .ok (.iadd, 1) := by decide +kernel
theorem dL_law_797 : decode cL_law 797 = .ok (.iaload, 1) := by decide +kernel
theorem dL_law_798 : decode cL_law 798 = .ok (.aload_n 0, 1) := by decide +kernel
theorem dL_law_799 : decode cL_law 799 = .ok (.iload_n 3, 1) := by decide +kernel
theorem dL_law_800 : decode cL_law 800 = .ok (.iconst 3, 1) := by decide +kernel
theorem dL_law_801 : decode cL_law 801 = .ok (.iadd, 1) := by decide +kernel
theorem dL_law_802 : decode cL_law 802 = .ok (.iaload, 1) := by decide +kernel
theorem dL_law_803 : decode cL_law 803 = .ok (.invokevirtual 108, 3) := by decide +kernel
theorem dL_law_806 : decode cL_law 806 = .ok (.if_icmp .eq 578, 3) := by decide +kernel
theorem dL_law_809 : decode cL_law 809 = .ok (.iconst 0, 1) := by decide +kernel
theorem dL_law_810 : decode cL_law 810 = .ok (.ireturn, 1) := by decide +kernel
theorem dL_law_811 : decode cL_law 811 = .ok (.aload_n 1, 1) := by decide +kernel
theorem dL_law_812 : decode cL_law 812 = .ok (.aload_n 0, 1) := by decide +kernel
theorem dL_law_813 : decode cL_law 813 = .ok (.iload_n 3, 1) := by decide +kernel
theorem dL_law_814 : decode cL_law 814 = .ok (.iconst 1, 1) := by decide +kernel
theorem dL_law_815 : decode cL_law 815 = .ok (.iadd, 1) := by decide +kernel
theorem dL_law_816 : decode cL_law 816 = .ok (.iaload, 1) := by decide +kernel
theorem dL_law_817 : decode cL_law 817 = .ok (.aload_n 0, 1) := by decide +kernel
theorem dL_law_818 : decode cL_law 818 = .ok (.iload_n 3, 1) := by decide +kernel
theorem dL_law_819 : decode cL_law 819 = .ok (.iconst 2, 1) := by decide +kernel
theorem dL_law_820 : decode cL_law 820 = .ok (.iadd, 1) := by decide +kernel
theorem dL_law_821 : decode cL_law 821 = .ok (.iaload, 1) := by decide +kernel
theorem dL_law_822 : decode cL_law 822 = .ok (.invokevirtual 109, 3) := by decide +kernel
theorem dL_law_825 : decode cL_law 825 = .ok (.aload_n 2, 1) := by decide +kernel
theorem dL_law_826 : decode cL_law 826 = .ok (.aload_n 0, 1) := by decide +kernel
theorem dL_law_827 : decode cL_law 827 = .ok (.iload_n 3, 1) := by decide +kernel
theorem dL_law_828 : decode cL_law 828 = .ok (.iconst 1, 1) := by decide +kernel
theorem dL_law_829 : decode cL_law 829 = .ok (.iadd, 1) := by decide +kernel
theorem dL_law_830 : decode cL_law 830 = .ok (.iaload, 1) := by decide +kernel
theorem dL_law_831 : decode cL_law 831 = .ok (.aload_n 0, 1) := by decide +kernel
theorem dL_law_832 : decode cL_law 832 = .ok (.iload_n 3, 1) := by decide +kernel
theorem dL_law_833 : decode cL_law 833 = .ok (.iconst 2, 1) := by decide +kernel
theorem dL_law_834 : decode cL_law 834 = .ok (.iadd, 1) := by decide +kernel
theorem dL_law_835 : decode cL_law 835 = .ok (.iaload, 1) := by decide +kernel
theorem dL_law_836 : decode cL_law 836 = .ok (.invokevirtual 112, 3) := by decide +kernel
theorem dL_law_839 : decode cL_law 839 = .ok (.if_icmp .eq 545, 3) := by decide +kernel
theorem dL_law_842 : decode cL_law 842 = .ok (.iconst 0, 1) := by decide +kernel
theorem dL_law_843 : decode cL_law 843 = .ok (.ireturn, 1) := by decide +kernel
theorem dL_law_844 : decode cL_law 844 = .ok (.aload_n 1, 1) := by decide +kernel
theorem dL_law_845 : decode cL_law 845 = .ok (.aload_n 0, 1) := by decide +kernel
theorem dL_law_846 : decode cL_law 846 = .ok (.iload_n 3, 1) := by decide +kernel
theorem dL_law_847 : decode cL_law 847 = .ok (.iconst 1, 1) := by decide +kernel
theorem dL_law_848 : decode cL_law 848 = .ok (.iadd, 1) := by decide +kernel
theorem dL_law_849 : decode cL_law 849 = .ok (.iaload, 1) := by decide +kernel
theorem dL_law_850 : decode cL_law 850 = .ok (.invokevirtual 113, 3) := by decide +kernel
theorem dL_law_853 : decode cL_law 853 = .ok (.aload_n 2, 1) := by decide +kernel
theorem dL_law_854 : decode cL_law 854 = .ok (.aload_n 0, 1) := by decide +kernel
theorem dL_law_855 : decode cL_law 855 = .ok (.iload_n 3, 1) := by decide +kernel
theorem dL_law_856 : decode cL_law 856 = .ok (.iconst 1, 1) := by decide +kernel
theorem dL_law_857 : decode cL_law 857 = .ok (.iadd, 1) := by decide +kernel
theorem dL_law_858 : decode cL_law 858 = .ok (.iaload, 1) := by decide +kernel
theorem dL_law_859 : decode cL_law 859 = .ok (.invokevirtual 116, 3) := by decide +kernel
theorem dL_law_862 : decode cL_law 862 = .ok (.if_icmp .eq 522, 3) := by decide +kernel
theorem dL_law_865 : decode cL_law 865 = .ok (.iconst 0, 1) := by decide +kernel
theorem dL_law_866 : decode cL_law 866 = .ok (.ireturn, 1) := by decide +kernel
theorem dL_law_867 : decode cL_law 867 = .ok (.aload_n 1, 1) := by decide +kernel
theorem dL_law_868 : decode cL_law 868 = .ok (.aload_n 0, 1) := by decide +kernel
theorem dL_law_869 : decode cL_law 869 = .ok (.iload_n 3, 1) := by decide +kernel
theorem dL_law_870 : decode cL_law 870 = .ok (.iconst 1, 1) := by decide +kernel
theorem dL_law_871 : decode cL_law 871 = .ok (.iadd, 1) := by decide +kernel
theorem dL_law_872 : decode cL_law 872 = .ok (.iaload, 1) := by decide +kernel
theorem dL_law_873 : decode cL_law 873 = .ok (.invokevirtual 117, 3) := by decide +kernel
theorem dL_law_876 : decode cL_law 876 = .ok (.aload_n 2, 1) := by decide +kernel
theorem dL_law_877 : decode cL_law 877 = .ok (.aload_n 0, 1) := by decide +kernel
theorem dL_law_878 : decode cL_law 878 = .ok (.iload_n 3, 1) := by decide +kernel
theorem dL_law_879 : decode cL_law 879 = .ok (.iconst 1, 1) := by decide +kernel
theorem dL_law_880 : decode cL_law 880 = .ok (.iadd, 1) := by decide +kernel
theorem dL_law_881 : decode cL_law 881 = .ok (.iaload, 1) := by decide +kernel
theorem dL_law_882 : decode cL_law 882 = .ok (.invokevirtual 120, 3) := by decide +kernel
theorem dL_law_885 : decode cL_law 885 = .ok (.if_icmp .eq 499, 3) := by decide +kernel
theorem dL_law_888 : decode cL_law 888 = .ok (.iconst 0, 1) := by decide +kernel
theorem dL_law_889 : decode cL_law 889 = .ok (.ireturn, 1) := by decide +kernel
theorem dL_law_890 : decode cL_law 890 = .ok (.aload_n 1, 1) := by decide +kernel
theorem dL_law_891 : decode cL_law 891 = .ok (.aload_n 0, 1) := by decide +kernel
theorem dL_law_892 : decode cL_law 892 = .ok (.iload_n 3, 1) := by decide +kernel
theorem dL_law_893 : decode cL_law 893 = .ok (.iconst 1, 1) := by decide +kernel
theorem dL_law_894 : decode cL_law 894 = .ok (.iadd, 1) := by decide +kernel
theorem dL_law_895 : decode cL_law 895 = .ok (.iaload, 1) := by decide +kernel
theorem dL_law_896 : decode cL_law 896 = .ok (.aload_n 0, 1) := by decide +kernel
theorem dL_law_897 : decode cL_law 897 = .ok (.iload_n 3, 1) := by decide +kernel
theorem dL_law_898 : decode cL_law 898 = .ok (.iconst 2, 1) := by decide +kernel
theorem dL_law_899 : decode cL_law 899 = .ok (.iadd, 1) := by decide +kernel
theorem dL_law_900 : decode cL_law 900 = .ok (.iaload, 1) := by decide +kernel
theorem dL_law_901 : decode cL_law 901 = .ok (.invokevirtual 121, 3) := by decide +kernel
theorem dL_law_904 : decode cL_law 904 = .ok (.aload_n 2, 1) := by decide +kernel
theorem dL_law_905 : decode cL_law 905 = .ok (.aload_n 0, 1) := by decide +kernel
theorem dL_law_906 : decode cL_law 906 = .ok (.iload_n 3, 1) := by decide +kernel
theorem dL_law_907 : decode cL_law 907 = .ok (.iconst 1, 1) := by decide +kernel
theorem dL_law_908 : decode cL_law 908 = .ok (.iadd, 1) := by decide +kernel
theorem dL_law_909 : decode cL_law 909 = .ok (.iaload, 1) := by decide +kernel
theorem dL_law_910 : decode cL_law 910 = .ok (.aload_n 0, 1) := by decide +kernel
theorem dL_law_911 : decode cL_law 911 = .ok (.iload_n 3, 1) := by decide +kernel
theorem dL_law_912 : decode cL_law 912 = .ok (.iconst 2, 1) := by decide +kernel
theorem dL_law_913 : decode cL_law 913 = .ok (.iadd, 1) := by decide +kernel
theorem dL_law_914 : decode cL_law 914 = .ok (.iaload, 1) := by decide +kernel
theorem dL_law_915 : decode cL_law 915 = .ok (.invokevirtual 125, 3) := by decide +kernel
theorem dL_law_918 : decode cL_law 918 = .ok (.lcmp, 1) := by decide +kernel
theorem dL_law_919 : decode cL_law 919 = .ok (.ifCond .eq 465, 3) := by decide +kernel
theorem dL_law_922 : decode cL_law 922 = .ok (.iconst 0, 1) := by decide +kernel
theorem dL_law_923 : decode cL_law 923 = .ok (.ireturn, 1) := by decide +kernel
theorem dL_law_924 : decode cL_law 924 = .ok (.aload_n 1, 1) := by decide +kernel
theorem dL_law_925 : decode cL_law 925 = .ok (.aload_n 0, 1) := by decide +kernel
theorem dL_law_926 : decode cL_law 926 = .ok (.iload_n 3, 1) := by decide +kernel
theorem dL_law_927 : decode cL_law 927 = .ok (.iconst 1, 1) := by decide +kernel
theorem dL_law_928 : decode cL_law 928 = .ok (.iadd, 1) := by decide +kernel
theorem dL_law_929 : decode cL_law 929 = .ok (.iaload, 1) := by decide +kernel
theorem dL_law_930 : decode cL_law 930 = .ok (.aload_n 0, 1) := by decide +kernel
theorem dL_law_931 : decode cL_law 931 = .ok (.iload_n 3, 1) := by decide +kernel
theorem dL_law_932 : decode cL_law 932 = .ok (.iconst 2, 1) := by decide +kernel
theorem dL_law_933 : decode cL_law 933 = .ok (.iadd, 1) := by decide +kernel
theorem dL_law_934 : decode cL_law 934 = .ok (.iaload, 1) := by decide +kernel
theorem dL_law_935 : decode cL_law 935 = .ok (.invokevirtual 126, 3) := by decide +kernel
theorem dL_law_938 : decode cL_law 938 = .ok (.aload_n 2, 1) := by decide +kernel
theorem dL_law_939 : decode cL_law 939 = .ok (.aload_n 0, 1) := by decide +kernel
theorem dL_law_940 : decode cL_law 940 = .ok (.iload_n 3, 1) := by decide +kernel
theorem dL_law_941 : decode cL_law 941 = .ok (.iconst 1, 1) := by decide +kernel
theorem dL_law_942 : decode cL_law 942 = .ok (.iadd, 1) := by decide +kernel
theorem dL_law_943 : decode cL_law 943 = .ok (.iaload, 1) := by decide +kernel
theorem dL_law_944 : decode cL_law 944 = .ok (.aload_n 0, 1) := by decide +kernel
theorem dL_law_945 : decode cL_law 945 = .ok (.iload_n 3, 1) := by decide +kernel
theorem dL_law_946 : decode cL_law 946 = .ok (.iconst 2, 1) := by decide +kernel
theorem dL_law_947 : decode cL_law 947 = .ok (.iadd, 1) := by decide +kernel
theorem dL_law_948 : decode cL_law 948 = .ok (.iaload, 1) := by decide +kernel
theorem dL_law_949 : decode cL_law 949 = .ok (.invokevirtual 129, 3) := by decide +kernel
theorem dL_law_952 : decode cL_law 952 = .ok (.lcmp, 1) := by decide +kernel
theorem dL_law_953 : decode cL_law 953 = .ok (.ifCond .eq 431, 3) := by decide +kernel
theorem dL_law_956 : decode cL_law 956 = .ok (.iconst 0, 1) := by decide +kernel
theorem dL_law_957 : decode cL_law 957 = .ok (.ireturn, 1) := by decide +kernel
theorem dL_law_958 : decode cL_law 958 = .ok (.aload_n 1, 1) := by decide +kernel
theorem dL_law_959 : decode cL_law 959 = .ok (.aload_n 0, 1) := by decide +kernel
theorem dL_law_960 : decode cL_law 960 = .ok (.iload_n 3, 1) := by decide +kernel
theorem dL_law_961 : decode cL_law 961 = .ok (.iconst 1, 1) := by decide +kernel
theorem dL_law_962 : decode cL_law 962 = .ok (.iadd, 1) := by decide +kernel
theorem dL_law_963 : decode cL_law 963 = .ok (.iaload, 1) := by decide +kernel
theorem dL_law_964 : decode cL_law 964 = .ok (.aload_n 0, 1) := by decide +kernel
theorem dL_law_965 : decode cL_law 965 = .ok (.iload_n 3, 1) := by decide +kernel
theorem dL_law_966 : decode cL_law 966 = .ok (.iconst 2, 1) := by decide +kernel
theorem dL_law_967 : decode cL_law 967 = .ok (.iadd, 1) := by decide +kernel
theorem dL_law_968 : decode cL_law 968 = .ok (.iaload, 1) := by decide +kernel
theorem dL_law_969 : decode cL_law 969 = .ok (.invokevirtual 130, 3) := by decide +kernel
theorem dL_law_972 : decode cL_law 972 = .ok (.aload_n 2, 1) := by decide +kernel
theorem dL_law_973 : decode cL_law 973 = .ok (.aload_n 0, 1) := by decide +kernel
theorem dL_law_974 : decode cL_law 974 = .ok (.iload_n 3, 1) := by decide +kernel
theorem dL_law_975 : decode cL_law 975 = .ok (.iconst 1, 1) := by decide +kernel
theorem dL_law_976 : decode cL_law 976 = .ok (.iadd, 1) := by decide +kernel
theorem dL_law_977 : decode cL_law 977 = .ok (.iaload, 1) := by decide +kernel
theorem dL_law_978 : decode cL_law 978 = .ok (.aload_n 0, 1) := by decide +kernel
theorem dL_law_979 : decode cL_law 979 = .ok (.iload_n 3, 1) := by decide +kernel
theorem dL_law_980 : decode cL_law 980 = .ok (.iconst 2, 1) := by decide +kernel
theorem dL_law_981 : decode cL_law 981 = .ok (.iadd, 1) := by decide +kernel
theorem dL_law_982 : decode cL_law 982 = .ok (.iaload, 1) := by decide +kernel
theorem dL_law_983 : decode cL_law 983 = .ok (.invokevirtual 133, 3) := by decide +kernel
theorem dL_law_986 : decode cL_law 986 = .ok (.lcmp, 1) := by decide +kernel
theorem dL_law_987 : decode cL_law 987 = .ok (.ifCond .eq 397, 3) := by decide +kernel
theorem dL_law_990 : decode cL_law 990 = .ok (.iconst 0, 1) := by decide +kernel
theorem dL_law_991 : decode cL_law 991 = .ok (.ireturn, 1) := by decide +kernel
theorem dL_law_992 : decode cL_law 992 = .ok (.aload_n 1, 1) := by decide +kernel
theorem dL_law_993 : decode cL_law 993 = .ok (.aload_n 0, 1) := by decide +kernel
theorem dL_law_994 : decode cL_law 994 = .ok (.iload_n 3, 1) := by decide +kernel
theorem dL_law_995 : decode cL_law 995 = .ok (.iconst 1, 1) := by decide +kernel
theorem dL_law_996 : decode cL_law 996 = .ok (.iadd, 1) := by decide +kernel
theorem dL_law_997 : decode cL_law 997 = .ok (.iaload, 1) := by decide +kernel
theorem dL_law_998 : decode cL_law 998 = .ok (.aload_n 0, 1) := by decide +kernel
theorem dL_law_999 : decode cL_law 999 = .ok (.iload_n 3, 1) := by decide +kernel
theorem dL_law_1000 : decode cL_law 1000 = .ok (.iconst 2, 1) := by decide +kernel
theorem dL_law_1001 : decode cL_law 1001 = .ok (.iadd, 1) := by decide +kernel
theorem dL_law_1002 : decode cL_law 1002 = .ok (.iaload, 1) := by decide +kernel
theorem dL_law_1003 : decode cL_law 1003 = .ok (.aload_n 0, 1) := by decide +kernel
theorem dL_law_1004 : decode cL_law 1004 = .ok (.iload_n 3, 1) := by decide +kernel
theorem dL_law_1005 : decode cL_law 1005 = .ok (.iconst 3, 1) := by decide +kernel
theorem dL_law_1006 : decode cL_law 1006 = .ok (.iadd, 1) := by decide +kernel
theorem dL_law_1007 : decode cL_law 1007 = .ok (.iaload, 1) := by decide +kernel
theorem dL_law_1008 : decode cL_law 1008 = .ok (.ifCond .eq 7, 3) := by decide +kernel
theorem dL_law_1011 : decode cL_law 1011 = .ok (.iconst 1, 1) := by decide +kernel
theorem dL_law_1012 : decode cL_law 1012 = .ok (.goto 4, 3) := by decide +kernel
theorem dL_law_1015 : decode cL_law 1015 = .ok (.iconst 0, 1) := by decide +kernel
theorem dL_law_1016 : decode cL_law 1016 = .ok (.invokevirtual 134, 3) := by decide +kernel
theorem dL_law_1019 : decode cL_law 1019 = .ok (.aload_n 2, 1) := by decide +kernel
theorem dL_law_1020 : decode cL_law 1020 = .ok (.aload_n 0, 1) := by decide +kernel
theorem dL_law_1021 : decode cL_law 1021 = .ok (.iload_n 3, 1) := by decide +kernel
theorem dL_law_1022 : decode cL_law 1022 = .ok (.iconst 1, 1) := by decide +kernel
theorem dL_law_1023 : decode cL_law 1023 = .ok (.iadd, 1) := by decide +kernel
theorem dL_law_1024 : decode cL_law 1024 = .ok (.iaload, 1) := by decide +kernel
theorem dL_law_1025 : decode cL_law 1025 = .ok (.aload_n 0, 1) := by decide +kernel
theorem dL_law_1026 : decode cL_law 1026 = .ok (.iload_n 3, 1) := by decide +kernel
theorem dL_law_1027 : decode cL_law 1027 = .ok (.iconst 2, 1) := by decide +kernel
theorem dL_law_1028 : decode cL_law 1028 = .ok (.iadd, 1) := by decide +kernel
theorem dL_law_1029 : decode cL_law 1029 = .ok (.iaload, 1) := by decide +kernel
theorem dL_law_1030 : decode cL_law 1030 = .ok (.aload_n 0, 1) := by decide +kernel
theorem dL_law_1031 : decode cL_law 1031 = .ok (.iload_n 3, 1) := by decide +kernel
theorem dL_law_1032 : decode cL_law 1032 = .ok (.iconst 3, 1) := by decide +kernel
theorem dL_law_1033 : decode cL_law 1033 = .ok (.iadd, 1) := by decide +kernel
theorem dL_law_1034 : decode cL_law 1034 = .ok (.iaload, 1) := by decide +kernel
theorem dL_law_1035 : decode cL_law 1035 = .ok (.ifCond .eq 7, 3) := by decide +kernel
theorem dL_law_1038 : decode cL_law 1038 = .ok (.iconst 1, 1) := by decide +kernel
theorem dL_law_1039 : decode cL_law 1039 = .ok (.goto 4, 3) := by decide +kernel
theorem dL_law_1042 : decode cL_law 1042 = .ok (.iconst 0, 1) := by decide +kernel
theorem dL_law_1043 : decode cL_law 1043 = .ok (.invokevirtual 138, 3) := by decide +kernel
theorem dL_law_1046 : decode cL_law 1046 = .ok (.if_icmp .eq 338, 3) := by decide +kernel
theorem dL_law_1049 : decode cL_law 1049 = .ok (.iconst 0, 1) := by decide +kernel
theorem dL_law_1050 : decode cL_law 1050 = .ok (.ireturn, 1) := by decide +kernel
theorem dL_law_1051 : decode cL_law 1051 = .ok (.aload_n 1, 1) := by decide +kernel
theorem dL_law_1052 : decode cL_law 1052 = .ok (.aload_n 0, 1) := by decide +kernel
theorem dL_law_1053 : decode cL_law 1053 = .ok (.iload_n 3, 1) := by decide +kernel
theorem dL_law_1054 : decode cL_law 1054 = .ok (.iconst 1, 1) := by decide +kernel
theorem dL_law_1055 : decode cL_law 1055 = .ok (.iadd, 1) := by decide +kernel
theorem dL_law_1056 : decode cL_law 1056 = .ok (.iaload, 1) := by decide +kernel
theorem dL_law_1057 : decode cL_law 1057 = .ok (.invokevirtual 139, 3) := by decide +kernel
theorem dL_law_1060 : decode cL_law 1060 = .ok (.aload_n 2, 1) := by decide +kernel
theorem dL_law_1061 : decode cL_law 1061 = .ok (.aload_n 0, 1) := by decide +kernel
theorem dL_law_1062 : decode cL_law 1062 = .ok (.iload_n 3, 1) := by decide +kernel
theorem dL_law_1063 : decode cL_law 1063 = .ok (.iconst 1, 1) := by decide +kernel
theorem dL_law_1064 : decode cL_law 1064 = .ok (.iadd, 1) := by decide +kernel
theorem dL_law_1065 : decode cL_law 1065 = .ok (.iaload, 1) := by decide +kernel
theorem dL_law_1066 : decode cL_law 1066 = .ok (.invokevirtual 142, 3) := by decide +kernel
theorem dL_law_1069 : decode cL_law 1069 = .ok (.if_icmp .eq 315, 3) := by decide +kernel
theorem dL_law_1072 : decode cL_law 1072 = .ok (.iconst 0, 1) := by decide +kernel
theorem dL_law_1073 : decode cL_law 1073 = .ok (.ireturn, 1) := by decide +kernel
theorem dL_law_1074 : decode cL_law 1074 = .ok (.aload_n 1, 1) := by decide +kernel
theorem dL_law_1075 : decode cL_law 1075 = .ok (.aload_n 0, 1) := by decide +kernel
theorem dL_law_1076 : decode cL_law 1076 = .ok (.iload_n 3, 1) := by decide +kernel
theorem dL_law_1077 : decode cL_law 1077 = .ok (.iconst 1, 1) := by decide +kernel
theorem dL_law_1078 : decode cL_law 1078 = .ok (.iadd, 1) := by decide +kernel
theorem dL_law_1079 : decode cL_law 1079 = .ok (.iaload, 1) := by decide +kernel
theorem dL_law_1080 : decode cL_law 1080 = .ok (.invokevirtual 143, 3) := by decide +kernel
theorem dL_law_1083 : decode cL_law 1083 = .ok (.aload_n 2, 1) := by decide +kernel
theorem dL_law_1084 : decode cL_law 1084 = .ok (.aload_n 0, 1) := by decide +kernel
theorem dL_law_1085 : decode cL_law 1085 = .ok (.iload_n 3, 1) := by decide +kernel
theorem dL_law_1086 : decode cL_law 1086 = .ok (.iconst 1, 1) := by decide +kernel
theorem dL_law_1087 : decode cL_law 1087 = .ok (.iadd, 1) := by decide +kernel
theorem dL_law_1088 : decode cL_law 1088 = .ok (.iaload, 1) := by decide +kernel
theorem dL_law_1089 : decode cL_law 1089 = .ok (.invokevirtual 146, 3) := by decide +kernel
theorem dL_law_1092 : decode cL_law 1092 = .ok (.if_icmp .eq 292, 3) := by decide +kernel
theorem dL_law_1095 : decode cL_law 1095 = .ok (.iconst 0, 1) := by decide +kernel
theorem dL_law_1096 : decode cL_law 1096 = .ok (.ireturn, 1) := by decide +kernel
theorem dL_law_1097 : decode cL_law 1097 = .ok (.aload_n 1, 1) := by decide +kernel
theorem dL_law_1098 : decode cL_law 1098 = .ok (.aload_n 0, 1) := by decide +kernel
theorem dL_law_1099 : decode cL_law 1099 = .ok (.iload_n 3, 1) := by decide +kernel
theorem dL_law_1100 : decode cL_law 1100 = .ok (.iconst 1, 1) := by decide +kernel
theorem dL_law_1101 : decode cL_law 1101 = .ok (.iadd, 1) := by decide +kernel
theorem dL_law_1102 : decode cL_law 1102 = .ok (.iaload, 1) := by decide +kernel
theorem dL_law_1103 : decode cL_law 1103 = .ok (.invokevirtual 147, 3) := by decide +kernel
theorem dL_law_1106 : decode cL_law 1106 = .ok (.aload_n 2, 1) := by decide +kernel
theorem dL_law_1107 : decode cL_law 1107 = .ok (.aload_n 0, 1) := by decide +kernel
theorem dL_law_1108 : decode cL_law 1108 = .ok (.iload_n 3, 1) := by decide +kernel
theorem dL_law_1109 : decode cL_law 1109 = .ok (.iconst 1, 1) := by decide +kernel
theorem dL_law_1110 : decode cL_law 1110 = .ok (.iadd, 1) := by decide +kernel
theorem dL_law_1111 : decode cL_law 1111 = .ok (.iaload, 1) := by decide +kernel
theorem dL_law_1112 : decode cL_law 1112 = .ok (.invokevirtual 150, 3) := by decide +kernel
theorem dL_law_1115 : decode cL_law 1115 = .ok (.if_icmp .eq 269, 3) := by decide +kernel
theorem dL_law_1118 : decode cL_law 1118 = .ok (.iconst 0, 1) := by decide +kernel
theorem dL_law_1119 : decode cL_law 1119 = .ok (.ireturn, 1) := by decide +kernel
theorem dL_law_1120 : decode cL_law 1120 = .ok (.aload_n 1, 1) := by decide +kernel
theorem dL_law_1121 : decode cL_law 1121 = .ok (.aload_n 0, 1) := by decide +kernel
theorem dL_law_1122 : decode cL_law 1122 = .ok (.iload_n 3, 1) := by decide +kernel
theorem dL_law_1123 : decode cL_law 1123 = .ok (.iconst 1, 1) := by decide +kernel
theorem dL_law_1124 : decode cL_law 1124 = .ok (.iadd, 1) := by decide +kernel
theorem dL_law_1125 : decode cL_law 1125 = .ok (.iaload, 1) := by decide +kernel
theorem dL_law_1126 : decode cL_law 1126 = .ok (.aload_n 0, 1) := by decide +kernel
theorem dL_law_1127 : decode cL_law 1127 = .ok (.iload_n 3, 1) := by decide +kernel
theorem dL_law_1128 : decode cL_law 1128 = .ok (.iconst 2, 1) := by decide +kernel
theorem dL_law_1129 : decode cL_law 1129 = .ok (.iadd, 1) := by decide +kernel
theorem dL_law_1130 : decode cL_law 1130 = .ok (.iaload, 1) := by decide +kernel
theorem dL_law_1131 : decode cL_law 1131 = .ok (.aload_n 0, 1) := by decide +kernel
theorem dL_law_1132 : decode cL_law 1132 = .ok (.iload_n 3, 1) := by decide +kernel
theorem dL_law_1133 : decode cL_law 1133 = .ok (.iconst 3, 1) := by decide +kernel
theorem dL_law_1134 : decode cL_law 1134 = .ok (.iadd, 1) := by decide +kernel
theorem dL_law_1135 : decode cL_law 1135 = .ok (.iaload, 1) := by decide +kernel
theorem dL_law_1136 : decode cL_law 1136 = .ok (.invokevirtual 151, 3) := by decide +kernel
theorem dL_law_1139 : decode cL_law 1139 = .ok (.aload_n 2, 1) := by decide +kernel
theorem dL_law_1140 : decode cL_law 1140 = .ok (.aload_n 0, 1) := by decide +kernel
theorem dL_law_1141 : decode cL_law 1141 = .ok (.iload_n 3, 1) := by decide +kernel
theorem dL_law_1142 : decode cL_law 1142 = .ok (.iconst 1, 1) := by decide +kernel
theorem dL_law_1143 : decode cL_law 1143 = .ok (.iadd, 1) := by decide +kernel
theorem dL_law_1144 : decode cL_law 1144 = .ok (.iaload, 1) := by decide +kernel
theorem dL_law_1145 : decode cL_law 1145 = .ok (.aload_n 0, 1) := by decide +kernel
theorem dL_law_1146 : decode cL_law 1146 = .ok (.iload_n 3, 1) := by decide +kernel
theorem dL_law_1147 : decode cL_law 1147 = .ok (.iconst 2, 1) := by decide +kernel
theorem dL_law_1148 : decode cL_law 1148 = .ok (.iadd, 1) := by decide +kernel
theorem dL_law_1149 : decode cL_law 1149 = .ok (.iaload, 1) := by decide +kernel
theorem dL_law_1150 : decode cL_law 1150 = .ok (.aload_n 0, 1) := by decide +kernel
theorem dL_law_1151 : decode cL_law 1151 = .ok (.iload_n 3, 1) := by decide +kernel
theorem dL_law_1152 : decode cL_law 1152 = .ok (.iconst 3, 1) := by decide +kernel
theorem dL_law_1153 : decode cL_law 1153 = .ok (.iadd, 1) := by decide +kernel
theorem dL_law_1154 : decode cL_law 1154 = .ok (.iaload, 1) := by decide +kernel
theorem dL_law_1155 : decode cL_law 1155 = .ok (.invokevirtual 154, 3) := by decide +kernel
theorem dL_law_1158 : decode cL_law 1158 = .ok (.if_icmp .eq 226, 3) := by decide +kernel
theorem dL_law_1161 : decode cL_law 1161 = .ok (.iconst 0, 1) := by decide +kernel
theorem dL_law_1162 : decode cL_law 1162 = .ok (.ireturn, 1) := by decide +kernel
theorem dL_law_1163 : decode cL_law 1163 = .ok (.aload_n 1, 1) := by decide +kernel
theorem dL_law_1164 : decode cL_law 1164 = .ok (.aload_n 0, 1) := by decide +kernel
theorem dL_law_1165 : decode cL_law 1165 = .ok (.iload_n 3, 1) := by decide +kernel
theorem dL_law_1166 : decode cL_law 1166 = .ok (.iconst 1, 1) := by decide +kernel
theorem dL_law_1167 : decode cL_law 1167 = .ok (.iadd, 1) := by decide +kernel
theorem dL_law_1168 : decode cL_law 1168 = .ok (.iaload, 1) := by decide +kernel
theorem dL_law_1169 : decode cL_law 1169 = .ok (.invokevirtual 155, 3) := by decide +kernel
theorem dL_law_1172 : decode cL_law 1172 = .ok (.aload_n 2, 1) := by decide +kernel
theorem dL_law_1173 : decode cL_law 1173 = .ok (.aload_n 0, 1) := by decide +kernel
theorem dL_law_1174 : decode cL_law 1174 = .ok (.iload_n 3, 1) := by decide +kernel
theorem dL_law_1175 : decode cL_law 1175 = .ok (.iconst 1, 1) := by decide +kernel
theorem dL_law_1176 : decode cL_law 1176 = .ok (.iadd, 1) := by decide +kernel
theorem dL_law_1177 : decode cL_law 1177 = .ok (.iaload, 1) := by decide +kernel
theorem dL_law_1178 : decode cL_law 1178 = .ok (.invokevirtual 158, 3) := by decide +kernel
theorem dL_law_1181 : decode cL_law 1181 = .ok (.if_icmp .eq 203, 3) := by decide +kernel
theorem dL_law_1184 : decode cL_law 1184 = .ok (.iconst 0, 1) := by decide +kernel
theorem dL_law_1185 : decode cL_law 1185 = .ok (.ireturn, 1) := by decide +kernel
theorem dL_law_1186 : decode cL_law 1186 = .ok (.aload_n 1, 1) := by decide +kernel
theorem dL_law_1187 : decode cL_law 1187 = .ok (.aload_n 0, 1) := by decide +kernel
theorem dL_law_1188 : decode cL_law 1188 = .ok (.iload_n 3, 1) := by decide +kernel
theorem dL_law_1189 : decode cL_law 1189 = .ok (.iconst 1, 1) := by decide +kernel
theorem dL_law_1190 : decode cL_law 1190 = .ok (.iadd, 1) := by decide +kernel
theorem dL_law_1191 : decode cL_law 1191 = .ok (.iaload, 1) := by decide +kernel
theorem dL_law_1192 : decode cL_law 1192 = .ok (.invokevirtual 159, 3) := by decide +kernel
theorem dL_law_1195 : decode cL_law 1195 = .ok (.aload_n 2, 1) := by decide +kernel
theorem dL_law_1196 : decode cL_law 1196 = .ok (.aload_n 0, 1) := by decide +kernel
theorem dL_law_1197 : decode cL_law 1197 = .ok (.iload_n 3, 1) := by decide +kernel
theorem dL_law_1198 : decode cL_law 1198 = .ok (.iconst 1, 1) := by decide +kernel
theorem dL_law_1199 : decode cL_law 1199 = .ok (.iadd, 1) := by decide +kernel
theorem dL_law_1200 : decode cL_law 1200 = .ok (.iaload, 1) := by decide +kernel
theorem dL_law_1201 : decode cL_law 1201 = .ok (.invokevirtual 162, 3) := by decide +kernel
theorem dL_law_1204 : decode cL_law 1204 = .ok (.if_icmp .eq 180, 3) := by decide +kernel
theorem dL_law_1207 : decode cL_law 1207 = .ok (.iconst 0, 1) := by decide +kernel
theorem dL_law_1208 : decode cL_law 1208 = .ok (.ireturn, 1) := by decide +kernel
theorem dL_law_1209 : decode cL_law 1209 = .ok (.aload_n 1, 1) := by decide +kernel
theorem dL_law_1210 : decode cL_law 1210 = .ok (.aload_n 0, 1) := by decide +kernel
theorem dL_law_1211 : decode cL_law 1211 = .ok (.iload_n 3, 1) := by decide +kernel
theorem dL_law_1212 : decode cL_law 1212 = .ok (.iconst 1, 1) := by decide +kernel
theorem dL_law_1213 : decode cL_law 1213 = .ok (.iadd, 1) := by decide +kernel
theorem dL_law_1214 : decode cL_law 1214 = .ok (.iaload, 1) := by decide +kernel
theorem dL_law_1215 : decode cL_law 1215 = .ok (.aload_n 0, 1) := by decide +kernel
theorem dL_law_1216 : decode cL_law 1216 = .ok (.iload_n 3, 1) := by decide +kernel
theorem dL_law_1217 : decode cL_law 1217 = .ok (.iconst 2, 1) := by decide +kernel
theorem dL_law_1218 : decode cL_law 1218 = .ok (.iadd, 1) := by decide +kernel
theorem dL_law_1219 : decode cL_law 1219 = .ok (.iaload, 1) := by decide +kernel
theorem dL_law_1220 : decode cL_law 1220 = .ok (.aload_n 0, 1) := by decide +kernel
theorem dL_law_1221 : decode cL_law 1221 = .ok (.iload_n 3, 1) := by decide +kernel
theorem dL_law_1222 : decode cL_law 1222 = .ok (.iconst 3, 1) := by decide +kernel
theorem dL_law_1223 : decode cL_law 1223 = .ok (.iadd, 1) := by decide +kernel
theorem dL_law_1224 : decode cL_law 1224 = .ok (.iaload, 1) := by decide +kernel
theorem dL_law_1225 : decode cL_law 1225 = .ok (.invokevirtual 163, 3) := by decide +kernel
theorem dL_law_1228 : decode cL_law 1228 = .ok (.aload_n 2, 1) := by decide +kernel
theorem dL_law_1229 : decode cL_law 1229 = .ok (.aload_n 0, 1) := by decide +kernel
theorem dL_law_1230 : decode cL_law 1230 = .ok (.iload_n 3, 1) := by decide +kernel
theorem dL_law_1231 : decode cL_law 1231 = .ok (.iconst 1, 1) := by decide +kernel
theorem dL_law_1232 : decode cL_law 1232 = .ok (.iadd, 1) := by decide +kernel
theorem dL_law_1233 : decode cL_law 1233 = .ok (.iaload, 1) := by decide +kernel
theorem dL_law_1234 : decode cL_law 1234 = .ok (.aload_n 0, 1) := by decide +kernel
theorem dL_law_1235 : decode cL_law 1235 = .ok (.iload_n 3, 1) := by decide +kernel
theorem dL_law_1236 : decode cL_law 1236 = .ok (.iconst 2, 1) := by decide +kernel
theorem dL_law_1237 : decode cL_law 1237 = .ok (.iadd, 1) := by decide +kernel
theorem dL_law_1238 : decode cL_law 1238 = .ok (.iaload, 1) := by decide +kernel
theorem dL_law_1239 : decode cL_law 1239 = .ok (.aload_n 0, 1) := by decide +kernel
theorem dL_law_1240 : decode cL_law 1240 = .ok (.iload_n 3, 1) := by decide +kernel
theorem dL_law_1241 : decode cL_law 1241 = .ok (.iconst 3, 1) := by decide +kernel
theorem dL_law_1242 : decode cL_law 1242 = .ok (.iadd, 1) := by decide +kernel
theorem dL_law_1243 : decode cL_law 1243 = .ok (.iaload, 1) := by decide +kernel
theorem dL_law_1244 : decode cL_law 1244 = .ok (.invokevirtual 166, 3) := by decide +kernel
theorem dL_law_1247 : decode cL_law 1247 = .ok (.if_icmp .eq 137, 3) := by decide +kernel
theorem dL_law_1250 : decode cL_law 1250 = .ok (.iconst 0, 1) := by decide +kernel
theorem dL_law_1251 : decode cL_law 1251 = .ok (.ireturn, 1) := by decide +kernel
theorem dL_law_1252 : decode cL_law 1252 = .ok (.aload_n 1, 1) := by decide +kernel
theorem dL_law_1253 : decode cL_law 1253 = .ok (.aload_n 0, 1) := by decide +kernel
theorem dL_law_1254 : decode cL_law 1254 = .ok (.iload_n 3, 1) := by decide +kernel
theorem dL_law_1255 : decode cL_law 1255 = .ok (.iconst 1, 1) := by decide +kernel
theorem dL_law_1256 : decode cL_law 1256 = .ok (.iadd, 1) := by decide +kernel
theorem dL_law_1257 : decode cL_law 1257 = .ok (.iaload, 1) := by decide +kernel
theorem dL_law_1258 : decode cL_law 1258 = .ok (.aload_n 0, 1) := by decide +kernel
theorem dL_law_1259 : decode cL_law 1259 = .ok (.iload_n 3, 1) := by decide +kernel
theorem dL_law_1260 : decode cL_law 1260 = .ok (.iconst 2, 1) := by decide +kernel
theorem dL_law_1261 : decode cL_law 1261 = .ok (.iadd, 1) := by decide +kernel
theorem dL_law_1262 : decode cL_law 1262 = .ok (.iaload, 1) := by decide +kernel
theorem dL_law_1263 : decode cL_law 1263 = .ok (.aload_n 0, 1) := by decide +kernel
theorem dL_law_1264 : decode cL_law 1264 = .ok (.iload_n 3, 1) := by decide +kernel
theorem dL_law_1265 : decode cL_law 1265 = .ok (.iconst 3, 1) := by decide +kernel
theorem dL_law_1266 : decode cL_law 1266 = .ok (.iadd, 1) := by decide +kernel
theorem dL_law_1267 : decode cL_law 1267 = .ok (.iaload, 1) := by decide +kernel
theorem dL_law_1268 : decode cL_law 1268 = .ok (.invokevirtual 167, 3) := by decide +kernel
theorem dL_law_1271 : decode cL_law 1271 = .ok (.aload_n 2, 1) := by decide +kernel
theorem dL_law_1272 : decode cL_law 1272 = .ok (.aload_n 0, 1) := by decide +kernel
theorem dL_law_1273 : decode cL_law 1273 = .ok (.iload_n 3, 1) := by decide +kernel
theorem dL_law_1274 : decode cL_law 1274 = .ok (.iconst 1, 1) := by decide +kernel
theorem dL_law_1275 : decode cL_law 1275 = .ok (.iadd, 1) := by decide +kernel
theorem dL_law_1276 : decode cL_law 1276 = .ok (.iaload, 1) := by decide +kernel
theorem dL_law_1277 : decode cL_law 1277 = .ok (.aload_n 0, 1) := by decide +kernel
theorem dL_law_1278 : decode cL_law 1278 = .ok (.iload_n 3, 1) := by decide +kernel
theorem dL_law_1279 : decode cL_law 1279 = .ok (.iconst 2, 1) := by decide +kernel
theorem dL_law_1280 : decode cL_law 1280 = .ok (.iadd, 1) := by decide +kernel
theorem dL_law_1281 : decode cL_law 1281 = .ok (.iaload, 1) := by decide +kernel
theorem dL_law_1282 : decode cL_law 1282 = .ok (.aload_n 0, 1) := by decide +kernel
theorem dL_law_1283 : decode cL_law 1283 = .ok (.iload_n 3, 1) := by decide +kernel
theorem dL_law_1284 : decode cL_law 1284 = .ok (.iconst 3, 1) := by decide +kernel
theorem dL_law_1285 : decode cL_law 1285 = .ok (.iadd, 1) := by decide +kernel
theorem dL_law_1286 : decode cL_law 1286 = .ok (.iaload, 1) := by decide +kernel
theorem dL_law_1287 : decode cL_law 1287 = .ok (.invokevirtual 170, 3) := by decide +kernel
theorem dL_law_1290 : decode cL_law 1290 = .ok (.if_icmp .eq 94, 3) := by decide +kernel
theorem dL_law_1293 : decode cL_law 1293 = .ok (.iconst 0, 1) := by decide +kernel
theorem dL_law_1294 : decode cL_law 1294 = .ok (.ireturn, 1) := by decide +kernel
theorem dL_law_1295 : decode cL_law 1295 = .ok (.aload_n 1, 1) := by decide +kernel
theorem dL_law_1296 : decode cL_law 1296 = .ok (.aload_n 0, 1) := by decide +kernel
theorem dL_law_1297 : decode cL_law 1297 = .ok (.iload_n 3, 1) := by decide +kernel
theorem dL_law_1298 : decode cL_law 1298 = .ok (.iconst 1, 1) := by decide +kernel
theorem dL_law_1299 : decode cL_law 1299 = .ok (.iadd, 1) := by decide +kernel
theorem dL_law_1300 : decode cL_law 1300 = .ok (.iaload, 1) := by decide +kernel
theorem dL_law_1301 : decode cL_law 1301 = .ok (.aload_n 0, 1) := by decide +kernel
theorem dL_law_1302 : decode cL_law 1302 = .ok (.iload_n 3, 1) := by decide +kernel
theorem dL_law_1303 : decode cL_law 1303 = .ok (.iconst 2, 1) := by decide +kernel
theorem dL_law_1304 : decode cL_law 1304 = .ok (.iadd, 1) := by decide +kernel
theorem dL_law_1305 : decode cL_law 1305 = .ok (.iaload, 1) := by decide +kernel
theorem dL_law_1306 : decode cL_law 1306 = .ok (.aload_n 0, 1) := by decide +kernel
theorem dL_law_1307 : decode cL_law 1307 = .ok (.iload_n 3, 1) := by decide +kernel
theorem dL_law_1308 : decode cL_law 1308 = .ok (.iconst 3, 1) := by decide +kernel
theorem dL_law_1309 : decode cL_law 1309 = .ok (.iadd, 1) := by decide +kernel
theorem dL_law_1310 : decode cL_law 1310 = .ok (.iaload, 1) := by decide +kernel
theorem dL_law_1311 : decode cL_law 1311 = .ok (.aload_n 0, 1) := by decide +kernel
theorem dL_law_1312 : decode cL_law 1312 = .ok (.iload_n 3, 1) := by decide +kernel
theorem dL_law_1313 : decode cL_law 1313 = .ok (.iconst 4, 1) := by decide +kernel
theorem dL_law_1314 : decode cL_law 1314 = .ok (.iadd, 1) := by decide +kernel
theorem dL_law_1315 : decode cL_law 1315 = .ok (.iaload, 1) := by decide +kernel
theorem dL_law_1316 : decode cL_law 1316 = .ok (.invokevirtual 171, 3) := by decide +kernel
theorem dL_law_1319 : decode cL_law 1319 = .ok (.aload_n 2, 1) := by decide +kernel
theorem dL_law_1320 : decode cL_law 1320 = .ok (.aload_n 0, 1) := by decide +kernel
theorem dL_law_1321 : decode cL_law 1321 = .ok (.iload_n 3, 1) := by decide +kernel
theorem dL_law_1322 : decode cL_law 1322 = .ok (.iconst 1, 1) := by decide +kernel
theorem dL_law_1323 : decode cL_law 1323 = .ok (.iadd, 1) := by decide +kernel
theorem dL_law_1324 : decode cL_law 1324 = .ok (.iaload, 1) := by decide +kernel
theorem dL_law_1325 : decode cL_law 1325 = .ok (.aload_n 0, 1) := by decide +kernel
theorem dL_law_1326 : decode cL_law 1326 = .ok (.iload_n 3, 1) := by decide +kernel
theorem dL_law_1327 : decode cL_law 1327 = .ok (.iconst 2, 1) := by decide +kernel
theorem dL_law_1328 : decode cL_law 1328 = .ok (.iadd, 1) := by decide +kernel
theorem dL_law_1329 : decode cL_law 1329 = .ok (.iaload, 1) := by decide +kernel
theorem dL_law_1330 : decode cL_law 1330 = .ok (.aload_n 0, 1) := by decide +kernel
theorem dL_law_1331 : decode cL_law 1331 = .ok (.iload_n 3, 1) := by decide +kernel
theorem dL_law_1332 : decode cL_law 1332 = .ok (.iconst 3, 1) := by decide +kernel
theorem dL_law_1333 : decode cL_law 1333 = .ok (.iadd, 1) := by decide +kernel
theorem dL_law_1334 : decode cL_law 1334 = .ok (.iaload, 1) := by decide +kernel
theorem dL_law_1335 : decode cL_law 1335 = .ok (.aload_n 0, 1) := by decide +kernel
theorem dL_law_1336 : decode cL_law 1336 = .ok (.iload_n 3, 1) := by decide +kernel
theorem dL_law_1337 : decode cL_law 1337 = .ok (.iconst 4, 1) := by decide +kernel
theorem dL_law_1338 : decode cL_law 1338 = .ok (.iadd, 1) := by decide +kernel
theorem dL_law_1339 : decode cL_law 1339 = .ok (.iaload, 1) := by decide +kernel
theorem dL_law_1340 : decode cL_law 1340 = .ok (.invokevirtual 175, 3) := by decide +kernel
theorem dL_law_1343 : decode cL_law 1343 = .ok (.if_icmp .eq 41, 3) := by decide +kernel
theorem dL_law_1346 : decode cL_law 1346 = .ok (.iconst 0, 1) := by decide +kernel
theorem dL_law_1347 : decode cL_law 1347 = .ok (.ireturn, 1) := by decide +kernel
theorem dL_law_1348 : decode cL_law 1348 = .ok (.aload_n 1, 1) := by decide +kernel
theorem dL_law_1349 : decode cL_law 1349 = .ok (.invokevirtual 176, 3) := by decide +kernel
theorem dL_law_1352 : decode cL_law 1352 = .ok (.aload_n 2, 1) := by decide +kernel
theorem dL_law_1353 : decode cL_law 1353 = .ok (.invokevirtual 179, 3) := by decide +kernel
theorem dL_law_1356 : decode cL_law 1356 = .ok (.if_icmp .eq 28, 3) := by decide +kernel
theorem dL_law_1359 : decode cL_law 1359 = .ok (.iconst 0, 1) := by decide +kernel
theorem dL_law_1360 : decode cL_law 1360 = .ok (.ireturn, 1) := by decide +kernel
theorem dL_law_1361 : decode cL_law 1361 = .ok (.aload_n 1, 1) := by decide +kernel
theorem dL_law_1362 : decode cL_law 1362 = .ok (.aload_n 0, 1) := by decide +kernel
theorem dL_law_1363 : decode cL_law 1363 = .ok (.iload_n 3, 1) := by decide +kernel
theorem dL_law_1364 : decode cL_law 1364 = .ok (.iconst 1, 1) := by decide +kernel
theorem dL_law_1365 : decode cL_law 1365 = .ok (.iadd, 1) := by decide +kernel
theorem dL_law_1366 : decode cL_law 1366 = .ok (.iaload, 1) := by decide +kernel
theorem dL_law_1367 : decode cL_law 1367 = .ok (.invokevirtual 180, 3) := by decide +kernel
theorem dL_law_1370 : decode cL_law 1370 = .ok (.aload_n 2, 1) := by decide +kernel
theorem dL_law_1371 : decode cL_law 1371 = .ok (.aload_n 0, 1) := by decide +kernel
theorem dL_law_1372 : decode cL_law 1372 = .ok (.iload_n 3, 1) := by decide +kernel
theorem dL_law_1373 : decode cL_law 1373 = .ok (.iconst 1, 1) := by decide +kernel
theorem dL_law_1374 : decode cL_law 1374 = .ok (.iadd, 1) := by decide +kernel
theorem dL_law_1375 : decode cL_law 1375 = .ok (.iaload, 1) := by decide +kernel
theorem dL_law_1376 : decode cL_law 1376 = .ok (.invokevirtual 183, 3) := by decide +kernel
theorem dL_law_1379 : decode cL_law 1379 = .ok (.if_icmp .eq 5, 3) := by decide +kernel
theorem dL_law_1382 : decode cL_law 1382 = .ok (.iconst 0, 1) := by decide +kernel
theorem dL_law_1383 : decode cL_law 1383 = .ok (.ireturn, 1) := by decide +kernel
theorem dL_law_1384 : decode cL_law 1384 = .ok (.iinc 3 5, 3) := by decide +kernel
theorem dL_law_1387 : decode cL_law 1387 = .ok (.goto (-1369), 3) := by decide +kernel
theorem dL_law_1390 : decode cL_law 1390 = .ok (.iconst 1, 1) := by decide +kernel
theorem dL_law_1391 : decode cL_law 1391 = .ok (.ireturn, 1) := by decide +kernel
end
section
-- THE SMALL JUDGEMENT: mm_R (a frame runs to a return with Qf) over a world of cells that name each other by their places; mm_E (a method's contract)
def mm_tb : List Cond := lw_tbl.filter goodWord
theorem mm_in {x : Cond} (i : Nat) (h : lw_tbl[i]? = some x) (g : goodWord x = true) : x ∈ mm_tb := List.mem_filter.mpr ⟨List.mem_of_getElem? h, g⟩
theorem mm_ins (xs : List Cond) (ps : List Nat) (h : xs = ps.filterMap (fun i => lw_tbl[i]?)) (g : xs.all goodWord = true) : ∀ x ∈ xs, x ∈ mm_tb := by
  intro x hx
  have h1 := List.all_eq_true.mp g x hx
  rw [h] at hx
  obtain ⟨i, -, hi⟩ := List.mem_filterMap.mp hx
  exact mm_in i hi h1
theorem mm_tbl {x : Cond} (h : x ∈ mm_tb) : x ∈ lw_tbl := (List.mem_filter.mp h).1
theorem mm_good {x : Cond} (h : x ∈ mm_tb) : (x.onTables && x.keeps) = true ∨ ∃ ty, x = .arrayClass ty := good_of_word (List.mem_filter.mp h).2
theorem mm_goodIn {x : Cond} (h : x ∈ mm_tb) : GoodIn mm_tb (x :: mm_tb) := by
  intro z hz
  rcases List.mem_cons.mp hz with rfl | hz
  · exact ⟨h, mm_good h⟩
  · exact ⟨hz, mm_good hz⟩
abbrev mm_W : Type := List va_E
abbrev mm_M : Type := String × ByteArray × Nat × Bool × Option FieldType
/-- a value as the machine has it: places become addresses, .retAddr j the j-th thing outside (0 the script, j + 1 the j-th literal) -/
def mm_rv (ρ X : Nat → Nat) (v : Value) : Value := match v with
  | .int x => .int x
  | .long x => .long x
  | .float x => .float x
  | .double x => .double x
  | .null => .null
  | .ref i => .ref (ρ i)
  | .retAddr j => .ref (X j)
/-- places renamed -/
def mm_rn (σ : Nat → Nat) (v : Value) : Value := match v with
  | .int x => .int x
  | .long x => .long x
  | .float x => .float x
  | .double x => .double x
  | .null => .null
  | .ref i => .ref (σ i)
  | .retAddr j => .retAddr j
def mm_ra (ρ : Nat → Nat) (a : vp_A) : vp_A := match a with
  | (n, .inl f) => (n, .inl f)
  | (n, .inr (.inl f)) => (n, .inr (.inl f))
  | (n, .inr (.inr (.inl f))) => (n, .inr (.inr (.inl f)))
  | (n, .inr (.inr (.inr (.inl f)))) => (n, .inr (.inr (.inr (.inl f))))
  | (n, .inr (.inr (.inr (.inr f)))) => (n, .inr (.inr (.inr (.inr (fun j => (f j).map ρ)))))
def mm_re (ρ X aC : Nat → Nat) (e : va_E) : va_E := match e with
  | .inl (t, a) => .inl (aC t, mm_ra ρ a)
  | .inr (ci, fs) => .inr (ci, fs.map (mm_rv ρ X))
def mm_rc (σ : Nat → Nat) (e : va_E) : va_E := match e with
  | .inl (t, a) => .inl (t, mm_ra σ a)
  | .inr (ci, fs) => .inr (ci, fs.map (mm_rn σ))
theorem mm_rv_rn (ρ X σ : Nat → Nat) (v : Value) : mm_rv ρ X (mm_rn σ v) = mm_rv (fun k => ρ (σ k)) X v := by cases v <;> rfl
theorem mm_ra_ra (ρ σ : Nat → Nat) (a : vp_A) : mm_ra ρ (mm_ra σ a) = mm_ra (fun k => ρ (σ k)) a := by
  obtain ⟨n, f | f | f | f | f⟩ := a
  · rfl
  · rfl
  · rfl
  · rfl
  · simp only [mm_ra, Option.map_map]
    rfl
theorem mm_re_rc (ρ X aC σ : Nat → Nat) (e : va_E) : mm_re ρ X aC (mm_rc σ e) = mm_re (fun k => ρ (σ k)) X aC e := by
  obtain ⟨t, a⟩ | ⟨ci, fs⟩ := e
  · simp only [mm_re, mm_rc, mm_ra_ra]
  · simp only [mm_re, mm_rc, List.map_map]
    congr 3
    funext v
    exact mm_rv_rn ρ X σ v
theorem mm_rv_cat (ρ X : Nat → Nat) (v : Value) : (mm_rv ρ X v).category = v.category := by cases v <;> rfl
/-- the array classes: by their places 0 int, 1 byte, 2 boolean, 3 Floor, 4 Sheet -/
def mm_ty (aC : Nat → Nat) : List (ClassId × FieldType) := [(aC 0, .int), (aC 1, .byte), (aC 2, .boolean), (aC 3, .object RX0), (aC 4, .object RX3)]
/-- the private members that nest mates call -/
def mm_nl : List (String × Nat × MethodName × String) := [("FloorYears", 9, ⟨"FloorYears$Floor", "<init>", "()V"⟩, "FloorYears"), ("FloorYears", 29, ⟨"FloorYears$Reader", "<init>", "()V"⟩, "FloorYears"), ("FloorYears$Reader", 11, ⟨"FloorYears$Tape", "<init>", "()V"⟩, "FloorYears"), ("FloorYears$Reader", 20, ⟨"FloorYears$Floor", "<init>", "()V"⟩, "FloorYears"), ("FloorYears", 36, ⟨"FloorYears$Sights", "<init>", "()V"⟩, "FloorYears"), ("FloorYears", 43, ⟨"FloorYears$Search", "<init>", "()V"⟩, "FloorYears"), ("FloorYears", 50, ⟨"FloorYears$Tally", "<init>", "()V"⟩, "FloorYears"), ("FloorYears", 61, ⟨"FloorYears$Sheet", "<init>", "()V"⟩, "FloorYears"), ("FloorYears$Reader", 112, ⟨"FloorYears", "isSo", "(II)Z"⟩, "FloorYears"), ("FloorYears$Floor", 74, ⟨"FloorYears", "isSo", "(II)Z"⟩, "FloorYears"), ("FloorYears$Floor", 63, ⟨"FloorYears", "isBit", "(I)Z"⟩, "FloorYears"), ("FloorYears$Search", 34, ⟨"FloorYears", "power", "(II)J"⟩, "FloorYears"), ("FloorYears$Search", 66, ⟨"FloorYears", "undone", "(II)I"⟩, "FloorYears"), ("FloorYears$Search", 83, ⟨"FloorYears", "isSo", "(II)Z"⟩, "FloorYears"), ("FloorYears$Search", 87, ⟨"FloorYears", "bit", "(Z)I"⟩, "FloorYears"), ("FloorYears$Floor", 90, ⟨"FloorYears", "bit", "(Z)I"⟩, "FloorYears"), ("FloorYears$Sights", 39, ⟨"FloorYears", "isSo", "(II)Z"⟩, "FloorYears"), ("FloorYears$Sights", 53, ⟨"FloorYears", "bit", "(Z)I"⟩, "FloorYears")]
/-- the literals: entry, text, length, bytes -/
def mm_sx : List (Nat × String × Nat × List Int32) := [(75, "plain", 5, [112, 108, 97, 105, 110]), (81, "echo", 4, [101, 99, 104, 111]), (83, "contrary", 8, [99, 111, 110, 116, 114, 97, 114, 121]), (85, "jealous", 7, [106, 101, 97, 108, 111, 117, 115]), (87, "easy", 4, [101, 97, 115, 121]), (89, "so", 2, [115, 111]), (91, "guest", 5, [103, 117, 101, 115, 116]), (93, "ban", 3, [98, 97, 110])]
def mm_Sv (X aV : Nat → Nat) (A : Nat → Prop) (U : State) (H : Heap) : Prop :=
  vk_S 8 (mm_sx.map fun q => q.2.2.1) (mm_sx.map fun q => q.2.2.2) (fun j => X (j + 1)) aV A U H ∧ va_Z "java/lang/String" "COMPACT_STRINGS" "Z" (.int 1) A U H ∧ va_Zq "jdk/internal/util/Preconditions" "SIOOBE_FORMATTER" "Ljava/util/function/BiFunction;" A U H
/-- what is there beside the world: nest words, literals -/
def mm_Ev (X aV : Nat → Nat) (A : Nat → Prop) (U : State) (H : Heap) : Prop :=
  (∀ q ∈ mm_nl, va_Nw (.methodLinkNest q.1 q.2.1 q.2.2.1 q.2.2.2) U) ∧ (∀ (j : Nat) (q : Nat × String × Nat × List Int32), mm_sx[j]? = some q → vk_R RX1 q.1 q.2.1 (X (j + 1)) U) ∧ (va_AO RX0 U ∧ va_AO RX3 U) ∧ mm_Sv X aV A U H
theorem mm_Sv.moved {X aV : Nat → Nat} {A : Nat → Prop} {u U : State} {H : Heap} (hvm : u.vm.Alike U.vm) (h : mm_Sv X aV A u H) : mm_Sv X aV A U H := ⟨vk_S.moved hvm h.1, va_Z.moved hvm h.2.1, va_Zq.moved hvm h.2.2⟩
theorem mm_Sv.kept {X aV : Nat → Nat} {A : Nat → Prop} {U : State} {H H1 : Heap} (h : mm_Sv X aV A U H) (hq : ∀ a : Nat, a < H.size → ¬ A a → H1[a]? = H[a]?) : mm_Sv X aV A U H1 := ⟨h.1.kept hq, h.2.1.kept hq, h.2.2.kept hq⟩
theorem mm_Sv.narrow {X aV : Nat → Nat} {A B : Nat → Prop} {U : State} {H : Heap} (h : mm_Sv X aV A U H) (hAB : ∀ q, B q → A q) : mm_Sv X aV B U H := ⟨h.1.narrow hAB, h.2.1.narrow hAB, h.2.2.narrow hAB⟩
theorem mm_Ev.warm {X aV : Nat → Nat} {A : Nat → Prop} {s U : State} {H : Heap} (hW : s.WarmedH U.vm) (h : mm_Ev X aV A s H) : mm_Ev X aV A U H :=
  ⟨fun q hq => va_Nw.warmM hW (h.1 q hq), fun j q hq => vk_R.warm hW (h.2.1 j q hq), ⟨h.2.2.1.1.moved hW.alike, h.2.2.1.2.moved hW.alike⟩, h.2.2.2.moved hW.alike⟩
theorem mm_Ev.same {X aV : Nat → Nat} {A : Nat → Prop} {u U : State} {H : Heap} (hv : U.vm = u.vm) (h : mm_Ev X aV A u H) : mm_Ev X aV A U H :=
  by
  have ha : u.vm.Alike U.vm := by rw [hv]; exact Vm.Alike.refl _
  exact ⟨fun q hq => va_Nw.same rfl hv.symm (h.1 q hq), fun j q hq => vk_R.same hv (h.2.1 j q hq), ⟨h.2.2.1.1.moved ha, h.2.2.1.2.moved ha⟩, h.2.2.2.moved ha⟩
theorem mm_Ev.kept {X aV : Nat → Nat} {A : Nat → Prop} {U : State} {H H1 : Heap} (h : mm_Ev X aV A U H) (hq : ∀ a : Nat, a < H.size → ¬ A a → H1[a]? = H[a]?) : mm_Ev X aV A U H1 := ⟨h.1, h.2.1, h.2.2.1, h.2.2.2.kept hq⟩
theorem mm_Ev.narrow {X aV : Nat → Nat} {A B : Nat → Prop} {U : State} {H : Heap} (h : mm_Ev X aV A U H) (hAB : ∀ q, B q → A q) : mm_Ev X aV B U H := ⟨h.1, h.2.1, h.2.2.1, h.2.2.2.narrow hAB⟩
/-- the heap holds the world (al: cells are being made) -/
def mm_Rl (al : Bool) (n0 : Nat) (A : Nat → Prop) (H0 H : Heap) (locs : List Loc) (ρ X aC : Nat → Nat) (D : va_G) (w : mm_W) : Prop :=
  (∀ (k : Nat) (c : va_E), w[k]? = some c → va_at D vwCl (ρ k, mm_re ρ X aC c) H) ∧ (∀ i j : Nat, i < w.length → j < w.length → ρ i = ρ j → i = j) ∧ (∀ k : Nat, k < w.length → A (ρ k)) ∧ va_S A H0 H locs ∧
  (al = true → n0 ≤ w.length ∧ H.size + n0 = H0.size + w.length ∧ ∀ k : Nat, w.length ≤ k → ρ k = H.size + (k - w.length)) ∧ (al = false → w.length = n0)
/-- locals: which slots hold what -/
def mm_as (ρ X : Nat → Nat) : Nat → List (Option Value) → List (Nat × Value)
  | _, [] => []
  | i, none :: t => mm_as ρ X (i + 1) t
  | i, some v :: t => (i, mm_rv ρ X v) :: mm_as ρ X (i + 1) t
theorem mm_as_mem (ρ X : Nat → Nat) : ∀ (L : List (Option Value)) (i : Nat) (q : Nat × Value), q ∈ mm_as ρ X i L ↔ ∃ (k : Nat) (v : Value), L[k]? = some (some v) ∧ q = (i + k, mm_rv ρ X v) := by
  intro L
  induction L with
  | nil => intro i q; simp [mm_as]
  | cons a t ih =>
    intro i q
    cases a with
    | none =>
      rw [mm_as, ih]
      constructor
      · rintro ⟨k, v, h1, h2⟩
        exact ⟨k + 1, v, by simpa using h1, by rw [h2, show i + 1 + k = i + (k + 1) by omega]⟩
      · rintro ⟨k, v, h1, h2⟩
        cases k with
        | zero => simp at h1
        | succ k => exact ⟨k, v, by simpa using h1, by rw [h2, show i + 1 + k = i + (k + 1) by omega]⟩
    | some u =>
      rw [mm_as, List.mem_cons, ih]
      constructor
      · rintro (h | ⟨k, v, h1, h2⟩)
        · exact ⟨0, u, by simp, by rw [h]; rfl⟩
        · exact ⟨k + 1, v, by simpa using h1, by rw [h2, show i + 1 + k = i + (k + 1) by omega]⟩
      · rintro ⟨k, v, h1, h2⟩
        cases k with
        | zero =>
          simp at h1
          rw [h1]
          exact Or.inl h2
        | succ k => exact Or.inr ⟨k, v, by simpa using h1, by rw [h2, show i + 1 + k = i + (k + 1) by omega]⟩
abbrev mm_LV (ρ X : Nat → Nat) (ls : Array Slot) (nL : Nat) (L : List (Option Value)) : Prop := lv_has ls nL (mm_as ρ X 0 L)
theorem mm_LV.at {ρ X : Nat → Nat} {ls : Array Slot} {nL : Nat} {L : List (Option Value)} (h : mm_LV ρ X ls nL L) {i : Nat} {v : Value} (hi : L[i]? = some (some v)) : ls[i]? = some (.val (mm_rv ρ X v)) :=
  h.2.2 (i, mm_rv ρ X v) ((mm_as_mem ρ X L 0 _).mpr ⟨i, v, hi, by rw [Nat.zero_add]⟩)
theorem mm_LV.mono {ρ X : Nat → Nat} {ls : Array Slot} {nL : Nat} {L L' : List (Option Value)} (h : mm_LV ρ X ls nL L) (hs : ∀ (i : Nat) (v : Value), L'[i]? = some (some v) → L[i]? = some (some v)) : mm_LV ρ X ls nL L' := by
  refine ⟨h.1, h.2.1, fun q hq => ?_⟩
  obtain ⟨k, v, h1, h2⟩ := (mm_as_mem ρ X L' 0 q).mp hq
  exact h.2.2 q ((mm_as_mem ρ X L 0 q).mpr ⟨k, v, hs k v h1, h2⟩)
/-- a slot that held a long is spoilt when its second half is written -/
def mm_kl (a : Option Value) : Option Value := match a with
  | some (.long _) => none
  | some (.double _) => none
  | a => a
theorem mm_kl_spec {a : Option Value} {v : Value} (h : mm_kl a = some v) : a = some v ∧ ¬ v.category = 2 := by
  cases a with
  | none => simp [mm_kl] at h
  | some u => cases u <;> simp [mm_kl] at h <;> subst h <;> exact ⟨rfl, by simp [Value.category]⟩
def mm_s1 : List (Option Value) → Nat → Value → List (Option Value)
  | [], _, _ => []
  | _ :: t, 0, v => some v :: t
  | a :: t, 1, v => mm_kl a :: mm_s1 t 0 v
  | a :: t, i + 2, v => a :: mm_s1 t (i + 1) v
def mm_s2 : List (Option Value) → Nat → Value → List (Option Value)
  | [], _, _ => []
  | _ :: [], 0, _ => [none]
  | _ :: _ :: t, 0, v => some v :: none :: t
  | a :: t, 1, v => mm_kl a :: mm_s2 t 0 v
  | a :: t, i + 2, v => a :: mm_s2 t (i + 1) v
theorem mm_s1_spec : ∀ (L : List (Option Value)) (i : Nat) (v : Value) (j : Nat) (u : Value), (mm_s1 L i v)[j]? = some (some u) → (j = i ∧ u = v) ∨ (j ≠ i ∧ L[j]? = some (some u) ∧ ¬ (j + 1 = i ∧ u.category = 2)) := by
  intro L
  induction L with
  | nil => intro i v j u h; simp [mm_s1] at h
  | cons a t ih =>
    intro i v j u h
    match i, h with
    | 0, h =>
      cases j with
      | zero => simp [mm_s1] at h; exact Or.inl ⟨rfl, h.symm⟩
      | succ j => simp [mm_s1] at h; exact Or.inr ⟨by omega, by simpa using h, by omega⟩
    | 1, h =>
      cases j with
      | zero =>
        simp [mm_s1] at h
        obtain ⟨h1, h2⟩ := mm_kl_spec h
        exact Or.inr ⟨by omega, by simp [h1], fun z => h2 z.2⟩
      | succ j =>
        simp [mm_s1] at h
        rcases ih 0 v j u h with ⟨h1, h2⟩ | ⟨h1, h2, h3⟩
        · exact Or.inl ⟨by omega, h2⟩
        · exact Or.inr ⟨by omega, by simpa using h2, by omega⟩
    | i + 2, h =>
      cases j with
      | zero => simp [mm_s1] at h; exact Or.inr ⟨by omega, by simp [h], by omega⟩
      | succ j =>
        simp [mm_s1] at h
        rcases ih (i + 1) v j u h with ⟨h1, h2⟩ | ⟨h1, h2, h3⟩
        · exact Or.inl ⟨by omega, h2⟩
        · exact Or.inr ⟨by omega, by simpa using h2, fun z => h3 ⟨by omega, z.2⟩⟩
theorem mm_s2_spec : ∀ (L : List (Option Value)) (i : Nat) (v : Value) (j : Nat) (u : Value), (mm_s2 L i v)[j]? = some (some u) → (j = i ∧ u = v) ∨ (j ≠ i ∧ j ≠ i + 1 ∧ L[j]? = some (some u) ∧ ¬ (j + 1 = i ∧ u.category = 2)) := by
  intro L
  induction L with
  | nil => intro i v j u h; simp [mm_s2] at h
  | cons a t ih =>
    intro i v j u h
    match i, h with
    | 0, h =>
      cases t with
      | nil => cases j <;> simp [mm_s2] at h
      | cons b t =>
        cases j with
        | zero => simp [mm_s2] at h; exact Or.inl ⟨rfl, h.symm⟩
        | succ j =>
          cases j with
          | zero => simp [mm_s2] at h
          | succ j => simp [mm_s2] at h; exact Or.inr ⟨by omega, by omega, by simpa using h, by omega⟩
    | 1, h =>
      cases j with
      | zero =>
        simp [mm_s2] at h
        obtain ⟨h1, h2⟩ := mm_kl_spec h
        exact Or.inr ⟨by omega, by omega, by simp [h1], fun z => h2 z.2⟩
      | succ j =>
        simp [mm_s2] at h
        rcases ih 0 v j u h with ⟨h1, h2⟩ | ⟨h1, h2, h3, h4⟩
        · exact Or.inl ⟨by omega, h2⟩
        · exact Or.inr ⟨by omega, by omega, by simpa using h3, by omega⟩
    | i + 2, h =>
      cases j with
      | zero => simp [mm_s2] at h; exact Or.inr ⟨by omega, by omega, by simp [h], by omega⟩
      | succ j =>
        simp [mm_s2] at h
        rcases ih (i + 1) v j u h with ⟨h1, h2⟩ | ⟨h1, h2, h3, h4⟩
        · exact Or.inl ⟨by omega, h2⟩
        · exact Or.inr ⟨by omega, by omega, by simpa using h3, fun z => h4 ⟨by omega, z.2⟩⟩
theorem mm_LV.s1 {ρ X : Nat → Nat} {ls : Array Slot} {nL : Nat} {L : List (Option Value)} {i : Nat} {v : Value} (h : lv_has ls nL ((i, mm_rv ρ X v) :: (mm_as ρ X 0 L).filter (fun q => !(q.1 == i) && !(q.1 + 1 == i && q.2.category == 2)))) : mm_LV ρ X ls nL (mm_s1 L i v) := by
  refine ⟨h.1, h.2.1, fun q hq => ?_⟩
  obtain ⟨k, u, h1, h2⟩ := (mm_as_mem ρ X _ 0 q).mp hq
  refine h.2.2 q ?_
  rw [Nat.zero_add] at h2
  rcases mm_s1_spec L i v k u h1 with ⟨e1, e2⟩ | ⟨e1, e2, e3⟩
  · rw [h2, e1, e2]; exact List.mem_cons_self
  · refine List.mem_cons_of_mem _ (List.mem_filter.mpr ⟨(mm_as_mem ρ X L 0 q).mpr ⟨k, u, e2, by rw [h2, Nat.zero_add]⟩, ?_⟩)
    rw [h2]
    simp only [Bool.and_eq_true, Bool.not_eq_true', beq_eq_false_iff_ne, ne_eq, mm_rv_cat, Bool.and_eq_false_imp, beq_iff_eq]
    exact ⟨e1, fun z y => e3 ⟨z, y⟩⟩
theorem mm_LV.s2 {ρ X : Nat → Nat} {ls : Array Slot} {nL : Nat} {L : List (Option Value)} {i : Nat} {v : Value} (h : lv_has ls nL ((i, mm_rv ρ X v) :: (mm_as ρ X 0 L).filter (fun q => !(q.1 == i) && (!(q.1 == i + 1) && !(q.1 + 1 == i && q.2.category == 2))))) : mm_LV ρ X ls nL (mm_s2 L i v) := by
  refine ⟨h.1, h.2.1, fun q hq => ?_⟩
  obtain ⟨k, u, h1, h2⟩ := (mm_as_mem ρ X _ 0 q).mp hq
  refine h.2.2 q ?_
  rw [Nat.zero_add] at h2
  rcases mm_s2_spec L i v k u h1 with ⟨e1, e2⟩ | ⟨e1, e0, e2, e3⟩
  · rw [h2, e1, e2]; exact List.mem_cons_self
  · refine List.mem_cons_of_mem _ (List.mem_filter.mpr ⟨(mm_as_mem ρ X L 0 q).mpr ⟨k, u, e2, by rw [h2, Nat.zero_add]⟩, ?_⟩)
    rw [h2]
    simp only [Bool.and_eq_true, Bool.not_eq_true', beq_eq_false_iff_ne, ne_eq, mm_rv_cat, Bool.and_eq_false_imp, beq_iff_eq]
    exact ⟨e1, e0, fun z y => e3 ⟨z, y⟩⟩
/-- locals at the start -/
def mm_l1 : List Value → List (Option Value)
  | [] => []
  | .long x :: t => some (.long x) :: none :: mm_l1 t
  | .double x :: t => some (.double x) :: none :: mm_l1 t
  | v :: t => some v :: mm_l1 t
def mm_l0 (vs : List Value) (n : Nat) : List (Option Value) := mm_l1 vs ++ List.replicate (n - (mm_l1 vs).length) none
theorem mm_as_none (ρ X : Nat → Nat) : ∀ (n i : Nat), mm_as ρ X i (List.replicate n none) = [] := by
  intro n
  induction n with
  | zero => intro i; rfl
  | succ n ih => intro i; rw [List.replicate_succ, mm_as, ih]
theorem mm_as_l1 (ρ X : Nat → Nat) (n : Nat) : ∀ (vs : List Value) (i : Nat), mm_as ρ X i (mm_l1 vs ++ List.replicate n none) = lv_args i (vs.map (mm_rv ρ X)) := by
  intro vs
  induction vs with
  | nil => intro i; simp [mm_l1, mm_as_none, lv_args]
  | cons v t ih =>
    intro i
    cases v <;> simp [mm_l1, mm_as, lv_args, mm_rv, Value.category, ih]
theorem mm_l1_len (ρ X : Nat → Nat) : ∀ (vs : List Value), (lg_sl (vs.map (mm_rv ρ X))).length = (mm_l1 vs).length := by
  intro vs
  induction vs with
  | nil => rfl
  | cons v t ih =>
    have e : ∀ (a : Value) (l : List Value), lg_sl (a :: l) = (if a.category = 2 then [Slot.val a, Slot.second] else [Slot.val a]) ++ lg_sl l := fun a l => rfl
    cases v <;> simp [mm_l1, e, mm_rv, Value.category, ih] <;> omega
/-- which return it is -/
def mm_rt (cc : ByteArray) (ret : Option FieldType) (pc : Nat) (v : Option Value) : Prop := match v with
  | none => decode cc pc = .ok (.return_, 1) ∧ ret = none
  | some (.int x) => decode cc pc = .ok (.ireturn, 1) ∧ ∃ ty, ret = some ty ∧ narrow ty (.int x) = .int x
  | some (.long _) => decode cc pc = .ok (.lreturn, 1) ∧ ret = some .long
  | _ => False
def mm_sc (scr : Option (Nat × (Nat → Int32))) (b : Nat) (A : Nat → Prop) (s : State) : Prop := match scr with
  | none => True
  | some q => va_X b q.1 q.2 s s.heap ∧ b < s.heap.size ∧ ¬ A b
def mm_Cx (d : Nat) (M : mm_M) (scr : Option (Nat × (Nat → Int32))) (mc ms : Nat) (ah : Bool) (Qf : Option Value → mm_W → Prop) (l : Launch) (p : Program) (e : Env) (R : Room) (s : State) (m : MethodId) (args : Array Value) (below : List Frame) (meth : Method) (c : Code) (Q : State → Prop) (D : va_G) (ρ X aC aV : Nat → Nat) (A : Nat → Prop) (n0 : Nat) : Prop :=
  p.tables.exec = Jvm.exec ∧ c.code = M.2.1 ∧ c.maxLocals = M.2.2.1 ∧ s.vm.findClass M.1 = some m.cls ∧ (∀ x ∈ mm_tb, x.before args s = true) ∧ (M.2.2.2.1 = true → meth.name = "<init>") ∧ va_K D vwCl (mm_ty aC) s ∧ (∀ q : Nat, s.heap.size ≤ q → A q) ∧ mm_Ev X aV A s s.heap ∧ mm_sc scr (X 0) A s ∧ (d ≤ R.frames ∧ 34 * d ≤ R.locals ∧ mc ≤ R.cells ∧ ms ≤ R.slots) ∧
  ∀ (kc ks pc : Nat) (v : Option Value) (w : mm_W) (H : Heap) (locs : List Loc) (ls : Array Slot), kc ≤ mc → ks ≤ ms → Qf v w → mm_rt M.2.1 M.2.2.2.2 pc v → va_S A s.heap H locs → (scr = none → mm_Rl ah n0 A s.heap H locs ρ X aC D w) → W p l e R s m args below meth c H locs kc ks Q (F0 m pc ls (v.map (mm_rv ρ X)).toList)
/-- THE JUDGEMENT -/
def mm_R (d : Nat) (M : mm_M) (scr : Option (Nat × (Nat → Int32))) (mc ms : Nat) (ah al : Bool) (Qf : Option Value → mm_W → Prop) (kc ks pc : Nat) (L : List (Option Value)) (st : List Value) (w : mm_W) : Prop :=
  ∀ (l : Launch) (p : Program) (e : Env) (R : Room) (s : State) (m : MethodId) (args : Array Value) (below : List Frame) (meth : Method) (c : Code) (Q : State → Prop) (D : va_G) (ρ X aC aV : Nat → Nat) (A : Nat → Prop) (n0 : Nat), mm_Cx d M scr mc ms ah Qf l p e R s m args below meth c Q D ρ X aC aV A n0 →
    ∀ (H : Heap) (locs : List Loc) (ls : Array Slot), mm_Rl al n0 A s.heap H locs ρ X aC D w → mm_LV ρ X ls M.2.2.1 L → W p l e R s m args below meth c H locs kc ks Q (F0 m pc ls (st.map (mm_rv ρ X)))
/-- a method's cells: its world's, and those that it makes -/
def mm_A (ρ : Nat → Nat) (n sz : Nat) : Nat → Prop := fun q => (∃ k, k < n ∧ q = ρ k) ∨ sz ≤ q
def mm_Qc (al : Bool) (Qf : Option Value → mm_W → Prop) (ρ X aC : Nat → Nat) (D : va_G) (n sz : Nat) : Array Value → State → Outcome → State → Prop := fun _ st oc t =>
  (∃ (v : Option Value) (u : mm_W), oc = .returned (v.map (mm_rv ρ X)) ∧ Qf v u ∧ (∀ (k : Nat) (c : va_E), u[k]? = some c → va_at D vwCl (ρ k, mm_re ρ X aC c) t.heap) ∧ (al = true → n ≤ u.length ∧ t.heap.size + n = sz + u.length) ∧ (al = false → u.length = n)) ∧ va_F (mm_A ρ n sz) st t
def mm_Pc (ρ X aC aV : Nat → Nat) (D : va_G) (args : List Value) (w : mm_W) (sz : Nat) : Array Value → State → Prop :=
  va_Pc (args.map (mm_rv ρ X)) (fun U => U.heap.size = sz ∧ (∀ (k : Nat) (c : va_E), w[k]? = some c → va_at D vwCl (ρ k, mm_re ρ X aC c) U.heap) ∧ va_K D vwCl (mm_ty aC) U ∧ mm_Ev X aV (mm_A ρ w.length sz) U U.heap)
/-- A METHOD'S CONTRACT -/
def mm_E (al : Bool) (d : Nat) (y : MethodName) (M : mm_M) (args : List Value) (w : mm_W) (mc ms : Nat) (Qf : Option Value → mm_W → Prop) : Prop :=
  ∀ (l : Launch) (D : va_G) (ρ X aC aV : Nat → Nat) (sz : Nat), (al = true → ∀ k : Nat, w.length ≤ k → ρ k = sz + (k - w.length)) → (∀ i j : Nat, i < w.length → j < w.length → ρ i = ρ j → i = j) →
    Met l y (.code y M.2.1 M.2.2.1 M.2.2.2.2 :: mm_tb) { frames := d, cells := mc, slots := ms, locals := 34 * d } (mm_Pc ρ X aC aV D args w sz) (mm_Qc al Qf ρ X aC D w.length sz) mc ms (mm_A ρ w.length sz)
theorem mm_blind (ρ X aC aV : Nat → Nat) (D : va_G) (args : List Value) (w : mm_W) (sz : Nat) : FrameBlind (mm_Pc ρ X aC aV D args w sz) := by
  intro a U g mk h
  obtain ⟨h1, h2, h3, h4, h5⟩ := h
  exact ⟨h1, h2, h3, va_K.moved (u := U) (U := U.calling g mk a) (Vm.Alike.refl U.vm) h4, mm_Ev.same (u := U) (U := U.calling g mk a) rfl h5⟩
set_option maxHeartbeats 4000000 in
theorem mm_E.of {al : Bool} {d : Nat} {y : MethodName} {M : mm_M} {args : List Value} {w : mm_W} {mc ms : Nat} {Qf : Option Value → mm_W → Prop} (hcls : y.cls = M.1) (hpl : plainName y.cls = true) (hini : M.2.2.2.1 = true → y.name = "<init>") (hlen : (mm_l1 args).length ≤ M.2.2.1)
    (h : mm_R d M none mc ms al al Qf 0 0 0 (mm_l0 args M.2.2.1) [] w) : mm_E al d y M args w mc ms Qf := by
  intro l D ρ X aC aV sz hρ hinj
  refine Met.ofW (cc := M.2.1) (maxL := M.2.2.1) (ret := M.2.2.2.2) hpl rfl ?_
  intro p e s m args' below meth c s₁ B hml hv
  obtain ⟨rfl, hsz, hP, hK, hEv⟩ := hv
  subst hsz
  have hts := atoms_spec (ws := .code y M.2.1 M.2.2.1 M.2.2.2.2 :: mm_tb) B.pre
  have hown : s.vm.findClass M.1 = some m.cls := by rw [← hcls]; exact findClass_of_methodNamed B.named
  have hlocks := B.notSynchronized
  have hin : M.2.2.2.1 = true → meth.name = "<init>" := fun z => ((name_of_methodNamed B.named B.method).1).trans (hini z)
  have hl := lv_entry (args.map (mm_rv ρ X)) (n := M.2.2.1) (by rw [mm_l1_len]; exact hlen)
  rw [lg_entry_eq]
  generalize hls : (lg_sl (args.map (mm_rv ρ X)) ++ List.replicate (M.2.2.1 - (lg_sl (args.map (mm_rv ρ X))).length) Slot.unset).toArray = ls at hl ⊢
  have hL : mm_LV ρ X ls M.2.2.1 (mm_l0 args M.2.2.1) := by
    show lv_has ls M.2.2.1 (mm_as ρ X 0 (mm_l1 args ++ List.replicate _ none))
    rw [mm_as_l1]
    exact hl
  have hA : ∀ q : Nat, s.heap.size ≤ q → mm_A ρ w.length s.heap.size q := fun q hq => Or.inr hq
  refine h l p e _ s m _ below meth c _ D ρ X aC aV (mm_A ρ w.length s.heap.size) w.length ⟨B.exec, B.bytes, hml, hown, fun x hx => hts x (List.mem_cons_of_mem _ hx), hin, hK, hA, hEv, trivial, ⟨Nat.le_refl _, Nat.le_refl _, Nat.le_refl _, Nat.le_refl _⟩, ?_⟩ s.heap [] ls ⟨hP, hinj, fun k hk => Or.inl ⟨k, hk, rfl⟩, va_S.rf, fun z => ⟨Nat.le_refl _, rfl, hρ z⟩, fun _ => rfl⟩ hL
  intro kc ks pc v w' H locs ls' h1 h2 hQ hrt hS0 hR
  have hR := hR rfl
  refine W.widen h1 h2 ?_
  obtain ⟨r1, r2, r3, r4, r5, r6⟩ := hR
  have hr := B.returns
  have post : ∀ t : State, t.heap = H → mm_Qc al Qf ρ X aC D w.length s.heap.size (args.map (mm_rv ρ X)).toArray s (.returned (v.map (mm_rv ρ X))) t := by
    intro t ht
    refine ⟨⟨v, w', rfl, hQ, ?_, ?_, r6⟩, r4.F ht⟩
    · rw [ht]; exact r1
    · intro z
      obtain ⟨z1, z2, -⟩ := r5 z
      exact ⟨z1, by rw [ht]; exact z2⟩
  match v, hrt, post with
  | none, hrt, post => exact W.vret B.exec B.bytes (by rw [hr]; exact hrt.2) (fun t ht _ => post t ht) r4.2.2 hrt.1
  | some (.int x), hrt, post =>
    obtain ⟨g1, ty, g2, g3⟩ := hrt
    exact W.zret (ty := ty) B.exec B.bytes (by rw [hr]; exact g2) g3 (fun t ht _ => post t ht) r4.2.2 g1
  | some (.long x), hrt, post => exact W.lret B.exec B.bytes (by rw [hr]; exact hrt.2) (fun t ht _ => post t ht) r4.2.2 hrt.1
  | some .null, hrt, _ => exact absurd hrt id
  | some (.ref _), hrt, _ => exact absurd hrt id
  | some (.float _), hrt, _ => exact absurd hrt id
  | some (.double _), hrt, _ => exact absurd hrt id
  | some (.retAddr _), hrt, _ => exact absurd hrt id
end
section
section MMR
variable {d : Nat} {M : mm_M} {scr : Option (Nat × (Nat → Int32))} {mc ms : Nat} {ah al : Bool} {Qf : Option Value → mm_W → Prop} {kc ks pc : Nat} {L : List (Option Value)} {st : List Value} {w : mm_W}

theorem r_iconst {n : Int} {v : Int32} (pc' : Nat) (h : decode M.2.1 pc = .ok (.iconst n, 1)) (hp : pc + 1 = pc') (hv : Int32.ofInt n = v) (k : mm_R d M scr mc ms ah al Qf kc ks pc' L (.int v :: st) w) : mm_R d M scr mc ms ah al Qf kc ks pc L st w := by
  subst hp
  intro l p e R s m args below meth c Q D ρ X aC aV A n0 hC H locs ls hR hL
  exact lv_iconst hC.1 hC.2.1 h hv (k l p e R s m args below meth c Q D ρ X aC aV A n0 hC H locs ls hR hL)

theorem r_bipush {n : Int} {v : Int32} (pc' : Nat) (h : decode M.2.1 pc = .ok (.bipush n, 2)) (hp : pc + 2 = pc') (hv : (Int8.ofInt n).toInt32 = v) (k : mm_R d M scr mc ms ah al Qf kc ks pc' L (.int v :: st) w) : mm_R d M scr mc ms ah al Qf kc ks pc L st w := by
  subst hp
  intro l p e R s m args below meth c Q D ρ X aC aV A n0 hC H locs ls hR hL
  exact lv_bipush hC.1 hC.2.1 h hv (k l p e R s m args below meth c Q D ρ X aC aV A n0 hC H locs ls hR hL)

theorem r_sipush {n : Int} {v : Int32} (pc' : Nat) (h : decode M.2.1 pc = .ok (.sipush n, 3)) (hp : pc + 3 = pc') (hv : (Int16.ofInt n).toInt32 = v) (k : mm_R d M scr mc ms ah al Qf kc ks pc' L (.int v :: st) w) : mm_R d M scr mc ms ah al Qf kc ks pc L st w := by
  subst hp
  intro l p e R s m args below meth c Q D ρ X aC aV A n0 hC H locs ls hR hL
  exact lv_sipush hC.1 hC.2.1 h hv (k l p e R s m args below meth c Q D ρ X aC aV A n0 hC H locs ls hR hL)

theorem r_lconst {n : Fin 2} {v : Int64} (pc' : Nat) (h : decode M.2.1 pc = .ok (.lconst n, 1)) (hp : pc + 1 = pc') (hv : Int64.ofNat (n : Nat) = v) (k : mm_R d M scr mc ms ah al Qf kc ks pc' L (.long v :: st) w) : mm_R d M scr mc ms ah al Qf kc ks pc L st w := by
  subst hp
  intro l p e R s m args below meth c Q D ρ X aC aV A n0 hC H locs ls hR hL
  exact lv_lconst hC.1 hC.2.1 h hv (k l p e R s m args below meth c Q D ρ X aC aV A n0 hC H locs ls hR hL)

theorem r_ldc {i : Nat} {v : Int32} (pc' : Nat) (h : decode M.2.1 pc = .ok (.ldc i, 2)) (hp : pc + 2 = pc') (hv : Cond.constant M.1 i v ∈ mm_tb) (k : mm_R d M scr mc ms ah al Qf kc ks pc' L (.int v :: st) w) : mm_R d M scr mc ms ah al Qf kc ks pc L st w := by
  subst hp
  intro l p e R s m args below meth c Q D ρ X aC aV A n0 hC H locs ls hR hL
  exact lv_ldc hC.1 hC.2.1 hC.2.2.2.1 (hC.2.2.2.2.1 _ hv) h (k l p e R s m args below meth c Q D ρ X aC aV A n0 hC H locs ls hR hL)

theorem r_ldcw {i : Nat} {v : Int32} (pc' : Nat) (h : decode M.2.1 pc = .ok (.ldc_w i, 3)) (hp : pc + 3 = pc') (hv : Cond.constant M.1 i v ∈ mm_tb) (k : mm_R d M scr mc ms ah al Qf kc ks pc' L (.int v :: st) w) : mm_R d M scr mc ms ah al Qf kc ks pc L st w := by
  subst hp
  intro l p e R s m args below meth c Q D ρ X aC aV A n0 hC H locs ls hR hL
  exact lv_ldcw hC.1 hC.2.1 hC.2.2.2.1 (hC.2.2.2.2.1 _ hv) h (k l p e R s m args below meth c Q D ρ X aC aV A n0 hC H locs ls hR hL)

theorem r_ldc2 {i : Nat} {v : Int64} (pc' : Nat) (h : decode M.2.1 pc = .ok (.ldc2_w i, 3)) (hp : pc + 3 = pc') (hv : Cond.constantLong M.1 i v ∈ mm_tb) (k : mm_R d M scr mc ms ah al Qf kc ks pc' L (.long v :: st) w) : mm_R d M scr mc ms ah al Qf kc ks pc L st w := by
  subst hp
  intro l p e R s m args below meth c Q D ρ X aC aV A n0 hC H locs ls hR hL
  exact lv_ldc2 hC.1 hC.2.1 hC.2.2.2.1 (hC.2.2.2.2.1 _ hv) h (k l p e R s m args below meth c Q D ρ X aC aV A n0 hC H locs ls hR hL)

theorem r_ldcS {i j : Nat} {q : Nat × String × Nat × List Int32} (pc' : Nat) (h : decode M.2.1 pc = .ok (.ldc i, 2)) (hp : pc + 2 = pc') (ho : M.1 = RX1) (hq : mm_sx[j]? = some q) (hi : q.1 = i) (k : mm_R d M scr mc ms ah al Qf kc ks pc' L (.retAddr (j + 1) :: st) w) : mm_R d M scr mc ms ah al Qf kc ks pc L st w := by
  subst hp
  intro l p e R s m args below meth c Q D ρ X aC aV A n0 hC H locs ls hR hL
  exact va_ldcS hC.1 hC.2.1 (own := M.1) (tx := q.2.1) (q := X (j + 1)) hC.2.2.2.1 (by rw [ho, ← hi]; exact hC.2.2.2.2.2.2.2.2.1.2.1 j q hq) h (k l p e R s m args below meth c Q D ρ X aC aV A n0 hC H locs ls hR hL)

theorem r_iload_n {k : Fin 4} {i : Nat} {x : Int32} (pc' : Nat) (h : decode M.2.1 pc = .ok (.iload_n k, 1)) (hp : pc + 1 = pc') (hi : (k : Nat) = i) (hv : L[i]? = some (some (.int x))) (k : mm_R d M scr mc ms ah al Qf kc ks pc' L (.int x :: st) w) : mm_R d M scr mc ms ah al Qf kc ks pc L st w := by
  subst hp
  intro l p e R s m args below meth c Q D ρ X aC aV A n0 hC H locs ls hR hL
  exact lv_iload_n hC.1 hC.2.1 h hi (hL.at hv) (k l p e R s m args below meth c Q D ρ X aC aV A n0 hC H locs ls hR hL)

theorem r_iload {i : Nat} {x : Int32} (pc' : Nat) (h : decode M.2.1 pc = .ok (.iload i, 2)) (hp : pc + 2 = pc') (hv : L[i]? = some (some (.int x))) (k : mm_R d M scr mc ms ah al Qf kc ks pc' L (.int x :: st) w) : mm_R d M scr mc ms ah al Qf kc ks pc L st w := by
  subst hp
  intro l p e R s m args below meth c Q D ρ X aC aV A n0 hC H locs ls hR hL
  exact lv_iload hC.1 hC.2.1 h (hL.at hv) (k l p e R s m args below meth c Q D ρ X aC aV A n0 hC H locs ls hR hL)

theorem r_lload_n {k : Fin 4} {i : Nat} {x : Int64} (pc' : Nat) (h : decode M.2.1 pc = .ok (.lload_n k, 1)) (hp : pc + 1 = pc') (hi : (k : Nat) = i) (hv : L[i]? = some (some (.long x))) (k : mm_R d M scr mc ms ah al Qf kc ks pc' L (.long x :: st) w) : mm_R d M scr mc ms ah al Qf kc ks pc L st w := by
  subst hp
  intro l p e R s m args below meth c Q D ρ X aC aV A n0 hC H locs ls hR hL
  exact lv_lload_n hC.1 hC.2.1 h hi (hL.at hv) (k l p e R s m args below meth c Q D ρ X aC aV A n0 hC H locs ls hR hL)

theorem r_lload {i : Nat} {x : Int64} (pc' : Nat) (h : decode M.2.1 pc = .ok (.lload i, 2)) (hp : pc + 2 = pc') (hv : L[i]? = some (some (.long x))) (k : mm_R d M scr mc ms ah al Qf kc ks pc' L (.long x :: st) w) : mm_R d M scr mc ms ah al Qf kc ks pc L st w := by
  subst hp
  intro l p e R s m args below meth c Q D ρ X aC aV A n0 hC H locs ls hR hL
  exact lv_lload hC.1 hC.2.1 h (hL.at hv) (k l p e R s m args below meth c Q D ρ X aC aV A n0 hC H locs ls hR hL)

theorem r_aload_n {k : Fin 4} {i : Nat} {x : Nat} (pc' : Nat) (h : decode M.2.1 pc = .ok (.aload_n k, 1)) (hp : pc + 1 = pc') (hi : (k : Nat) = i) (hv : L[i]? = some (some (.ref x))) (k : mm_R d M scr mc ms ah al Qf kc ks pc' L (.ref x :: st) w) : mm_R d M scr mc ms ah al Qf kc ks pc L st w := by
  subst hp
  intro l p e R s m args below meth c Q D ρ X aC aV A n0 hC H locs ls hR hL
  exact lv_aload_n hC.1 hC.2.1 h hi (hL.at hv) (k l p e R s m args below meth c Q D ρ X aC aV A n0 hC H locs ls hR hL)

theorem r_aload {i : Nat} {x : Nat} (pc' : Nat) (h : decode M.2.1 pc = .ok (.aload i, 2)) (hp : pc + 2 = pc') (hv : L[i]? = some (some (.ref x))) (k : mm_R d M scr mc ms ah al Qf kc ks pc' L (.ref x :: st) w) : mm_R d M scr mc ms ah al Qf kc ks pc L st w := by
  subst hp
  intro l p e R s m args below meth c Q D ρ X aC aV A n0 hC H locs ls hR hL
  exact lv_aload hC.1 hC.2.1 h (hL.at hv) (k l p e R s m args below meth c Q D ρ X aC aV A n0 hC H locs ls hR hL)

theorem r_xload_n {k : Fin 4} {i : Nat} {x : Nat} (pc' : Nat) (h : decode M.2.1 pc = .ok (.aload_n k, 1)) (hp : pc + 1 = pc') (hi : (k : Nat) = i) (hv : L[i]? = some (some (.retAddr x))) (k : mm_R d M scr mc ms ah al Qf kc ks pc' L (.retAddr x :: st) w) : mm_R d M scr mc ms ah al Qf kc ks pc L st w := by
  subst hp
  intro l p e R s m args below meth c Q D ρ X aC aV A n0 hC H locs ls hR hL
  exact lv_aload_n hC.1 hC.2.1 h hi (hL.at hv) (k l p e R s m args below meth c Q D ρ X aC aV A n0 hC H locs ls hR hL)

theorem r_xload {i : Nat} {x : Nat} (pc' : Nat) (h : decode M.2.1 pc = .ok (.aload i, 2)) (hp : pc + 2 = pc') (hv : L[i]? = some (some (.retAddr x))) (k : mm_R d M scr mc ms ah al Qf kc ks pc' L (.retAddr x :: st) w) : mm_R d M scr mc ms ah al Qf kc ks pc L st w := by
  subst hp
  intro l p e R s m args below meth c Q D ρ X aC aV A n0 hC H locs ls hR hL
  exact lv_aload hC.1 hC.2.1 h (hL.at hv) (k l p e R s m args below meth c Q D ρ X aC aV A n0 hC H locs ls hR hL)

theorem r_istore_n {k : Fin 4} {i : Nat} {x : Int32} (pc' : Nat) (h : decode M.2.1 pc = .ok (.istore_n k, 1)) (hp : pc + 1 = pc') (hi : (k : Nat) = i) (hn : Nat.ble (i + 1) M.2.2.1 = true) (k : mm_R d M scr mc ms ah al Qf kc ks pc' (mm_s1 L i (.int x)) st w) : mm_R d M scr mc ms ah al Qf kc ks pc L (.int x :: st) w := by
  subst hp
  intro l p e R s m args below meth c Q D ρ X aC aV A n0 hC H locs ls hR hL
  exact lv_istore_n hC.1 hC.2.1 h hi hL (Nat.le_of_ble_eq_true hn) rfl (fun ls2 hl2 => k l p e R s m args below meth c Q D ρ X aC aV A n0 hC H locs ls2 hR (mm_LV.s1 (v := .int x) hl2))

theorem r_istore {i : Nat} {x : Int32} (pc' : Nat) (h : decode M.2.1 pc = .ok (.istore i, 2)) (hp : pc + 2 = pc') (hn : Nat.ble (i + 1) M.2.2.1 = true) (k : mm_R d M scr mc ms ah al Qf kc ks pc' (mm_s1 L i (.int x)) st w) : mm_R d M scr mc ms ah al Qf kc ks pc L (.int x :: st) w := by
  subst hp
  intro l p e R s m args below meth c Q D ρ X aC aV A n0 hC H locs ls hR hL
  exact lv_istore hC.1 hC.2.1 h hL (Nat.le_of_ble_eq_true hn) rfl (fun ls2 hl2 => k l p e R s m args below meth c Q D ρ X aC aV A n0 hC H locs ls2 hR (mm_LV.s1 (v := .int x) hl2))

theorem r_lstore_n {k : Fin 4} {i : Nat} {x : Int64} (pc' : Nat) (h : decode M.2.1 pc = .ok (.lstore_n k, 1)) (hp : pc + 1 = pc') (hi : (k : Nat) = i) (hn : Nat.ble (i + 2) M.2.2.1 = true) (k : mm_R d M scr mc ms ah al Qf kc ks pc' (mm_s2 L i (.long x)) st w) : mm_R d M scr mc ms ah al Qf kc ks pc L (.long x :: st) w := by
  subst hp
  intro l p e R s m args below meth c Q D ρ X aC aV A n0 hC H locs ls hR hL
  exact lv_lstore_n hC.1 hC.2.1 h hi hL (Nat.le_of_ble_eq_true hn) rfl (fun ls2 hl2 => k l p e R s m args below meth c Q D ρ X aC aV A n0 hC H locs ls2 hR (mm_LV.s2 (v := .long x) hl2))

theorem r_lstore {i : Nat} {x : Int64} (pc' : Nat) (h : decode M.2.1 pc = .ok (.lstore i, 2)) (hp : pc + 2 = pc') (hn : Nat.ble (i + 2) M.2.2.1 = true) (k : mm_R d M scr mc ms ah al Qf kc ks pc' (mm_s2 L i (.long x)) st w) : mm_R d M scr mc ms ah al Qf kc ks pc L (.long x :: st) w := by
  subst hp
  intro l p e R s m args below meth c Q D ρ X aC aV A n0 hC H locs ls hR hL
  exact lv_lstore hC.1 hC.2.1 h hL (Nat.le_of_ble_eq_true hn) rfl (fun ls2 hl2 => k l p e R s m args below meth c Q D ρ X aC aV A n0 hC H locs ls2 hR (mm_LV.s2 (v := .long x) hl2))

theorem r_astore_n {k : Fin 4} {i : Nat} {x : Nat} (pc' : Nat) (h : decode M.2.1 pc = .ok (.astore_n k, 1)) (hp : pc + 1 = pc') (hi : (k : Nat) = i) (hn : Nat.ble (i + 1) M.2.2.1 = true) (k : mm_R d M scr mc ms ah al Qf kc ks pc' (mm_s1 L i (.ref x)) st w) : mm_R d M scr mc ms ah al Qf kc ks pc L (.ref x :: st) w := by
  subst hp
  intro l p e R s m args below meth c Q D ρ X aC aV A n0 hC H locs ls hR hL
  exact lv_astore_n hC.1 hC.2.1 h hi hL (Nat.le_of_ble_eq_true hn) rfl (fun ls2 hl2 => k l p e R s m args below meth c Q D ρ X aC aV A n0 hC H locs ls2 hR (mm_LV.s1 (v := .ref x) hl2))

theorem r_astore {i : Nat} {x : Nat} (pc' : Nat) (h : decode M.2.1 pc = .ok (.astore i, 2)) (hp : pc + 2 = pc') (hn : Nat.ble (i + 1) M.2.2.1 = true) (k : mm_R d M scr mc ms ah al Qf kc ks pc' (mm_s1 L i (.ref x)) st w) : mm_R d M scr mc ms ah al Qf kc ks pc L (.ref x :: st) w := by
  subst hp
  intro l p e R s m args below meth c Q D ρ X aC aV A n0 hC H locs ls hR hL
  exact lv_astore hC.1 hC.2.1 h hL (Nat.le_of_ble_eq_true hn) rfl (fun ls2 hl2 => k l p e R s m args below meth c Q D ρ X aC aV A n0 hC H locs ls2 hR (mm_LV.s1 (v := .ref x) hl2))

theorem r_iinc {i : Nat} {n : Int} {x v : Int32} (pc' : Nat) (h : decode M.2.1 pc = .ok (.iinc i n, 3)) (hp : pc + 3 = pc') (hx : L[i]? = some (some (.int x))) (hv : x + Int32.ofInt n = v) (hn : Nat.ble (i + 1) M.2.2.1 = true) (k : mm_R d M scr mc ms ah al Qf kc ks pc' (mm_s1 L i (.int v)) st w) : mm_R d M scr mc ms ah al Qf kc ks pc L st w := by
  subst hp
  intro l p e R s m args below meth c Q D ρ X aC aV A n0 hC H locs ls hR hL
  have hm : (i, Value.int x) ∈ mm_as ρ X 0 L := (mm_as_mem ρ X L 0 _).mpr ⟨i, _, hx, by rw [Nat.zero_add]; rfl⟩
  obtain ⟨j, hj⟩ := List.getElem?_of_mem hm
  exact lv_iinc hC.1 hC.2.1 h hL hj hv (Nat.le_of_ble_eq_true hn) rfl (fun ls2 hl2 => k l p e R s m args below meth c Q D ρ X aC aV A n0 hC H locs ls2 hR (mm_LV.s1 (v := .int v) hl2))

theorem r_iadd {x y : Int32} (pc' : Nat) (h : decode M.2.1 pc = .ok (.iadd, 1)) (hp : pc + 1 = pc') (k : mm_R d M scr mc ms ah al Qf kc ks pc' L (.int (x + y) :: st) w) : mm_R d M scr mc ms ah al Qf kc ks pc L (.int y :: .int x :: st) w := by
  subst hp
  intro l p e R s m args below meth c Q D ρ X aC aV A n0 hC H locs ls hR hL
  exact lv_iadd hC.1 hC.2.1 h (k l p e R s m args below meth c Q D ρ X aC aV A n0 hC H locs ls hR hL)

theorem r_isub {x y : Int32} (pc' : Nat) (h : decode M.2.1 pc = .ok (.isub, 1)) (hp : pc + 1 = pc') (k : mm_R d M scr mc ms ah al Qf kc ks pc' L (.int (x - y) :: st) w) : mm_R d M scr mc ms ah al Qf kc ks pc L (.int y :: .int x :: st) w := by
  subst hp
  intro l p e R s m args below meth c Q D ρ X aC aV A n0 hC H locs ls hR hL
  exact lv_isub hC.1 hC.2.1 h (k l p e R s m args below meth c Q D ρ X aC aV A n0 hC H locs ls hR hL)

theorem r_imul {x y : Int32} (pc' : Nat) (h : decode M.2.1 pc = .ok (.imul, 1)) (hp : pc + 1 = pc') (k : mm_R d M scr mc ms ah al Qf kc ks pc' L (.int (x * y) :: st) w) : mm_R d M scr mc ms ah al Qf kc ks pc L (.int y :: .int x :: st) w := by
  subst hp
  intro l p e R s m args below meth c Q D ρ X aC aV A n0 hC H locs ls hR hL
  exact lv_imul hC.1 hC.2.1 h (k l p e R s m args below meth c Q D ρ X aC aV A n0 hC H locs ls hR hL)

theorem r_iand {x y : Int32} (pc' : Nat) (h : decode M.2.1 pc = .ok (.iand, 1)) (hp : pc + 1 = pc') (k : mm_R d M scr mc ms ah al Qf kc ks pc' L (.int (x &&& y) :: st) w) : mm_R d M scr mc ms ah al Qf kc ks pc L (.int y :: .int x :: st) w := by
  subst hp
  intro l p e R s m args below meth c Q D ρ X aC aV A n0 hC H locs ls hR hL
  exact lv_iand hC.1 hC.2.1 h (k l p e R s m args below meth c Q D ρ X aC aV A n0 hC H locs ls hR hL)

theorem r_ior {x y : Int32} (pc' : Nat) (h : decode M.2.1 pc = .ok (.ior, 1)) (hp : pc + 1 = pc') (k : mm_R d M scr mc ms ah al Qf kc ks pc' L (.int (x ||| y) :: st) w) : mm_R d M scr mc ms ah al Qf kc ks pc L (.int y :: .int x :: st) w := by
  subst hp
  intro l p e R s m args below meth c Q D ρ X aC aV A n0 hC H locs ls hR hL
  exact lv_ior hC.1 hC.2.1 h (k l p e R s m args below meth c Q D ρ X aC aV A n0 hC H locs ls hR hL)

theorem r_ixor {x y : Int32} (pc' : Nat) (h : decode M.2.1 pc = .ok (.ixor, 1)) (hp : pc + 1 = pc') (k : mm_R d M scr mc ms ah al Qf kc ks pc' L (.int (x ^^^ y) :: st) w) : mm_R d M scr mc ms ah al Qf kc ks pc L (.int y :: .int x :: st) w := by
  subst hp
  intro l p e R s m args below meth c Q D ρ X aC aV A n0 hC H locs ls hR hL
  exact lv_ixor hC.1 hC.2.1 h (k l p e R s m args below meth c Q D ρ X aC aV A n0 hC H locs ls hR hL)

theorem r_ishl {x y : Int32} (pc' : Nat) (h : decode M.2.1 pc = .ok (.ishl, 1)) (hp : pc + 1 = pc') (k : mm_R d M scr mc ms ah al Qf kc ks pc' L (.int (x <<< (y &&& 31)) :: st) w) : mm_R d M scr mc ms ah al Qf kc ks pc L (.int y :: .int x :: st) w := by
  subst hp
  intro l p e R s m args below meth c Q D ρ X aC aV A n0 hC H locs ls hR hL
  exact lv_ishl hC.1 hC.2.1 h (k l p e R s m args below meth c Q D ρ X aC aV A n0 hC H locs ls hR hL)

theorem r_ishr {x y : Int32} (pc' : Nat) (h : decode M.2.1 pc = .ok (.ishr, 1)) (hp : pc + 1 = pc') (k : mm_R d M scr mc ms ah al Qf kc ks pc' L (.int (x >>> (y &&& 31)) :: st) w) : mm_R d M scr mc ms ah al Qf kc ks pc L (.int y :: .int x :: st) w := by
  subst hp
  intro l p e R s m args below meth c Q D ρ X aC aV A n0 hC H locs ls hR hL
  exact lv_ishr hC.1 hC.2.1 h (k l p e R s m args below meth c Q D ρ X aC aV A n0 hC H locs ls hR hL)

theorem r_idiv {x y : Int32} (pc' : Nat) (h : decode M.2.1 pc = .ok (.idiv, 1)) (hp : pc + 1 = pc') (hne : ¬ y = 0) (k : mm_R d M scr mc ms ah al Qf kc ks pc' L (.int (x / y) :: st) w) : mm_R d M scr mc ms ah al Qf kc ks pc L (.int y :: .int x :: st) w := by
  subst hp
  intro l p e R s m args below meth c Q D ρ X aC aV A n0 hC H locs ls hR hL
  exact lv_idiv hC.1 hC.2.1 h hne (k l p e R s m args below meth c Q D ρ X aC aV A n0 hC H locs ls hR hL)

theorem r_irem {x y : Int32} (pc' : Nat) (h : decode M.2.1 pc = .ok (.irem, 1)) (hp : pc + 1 = pc') (hne : ¬ y = 0) (k : mm_R d M scr mc ms ah al Qf kc ks pc' L (.int (x - x / y * y) :: st) w) : mm_R d M scr mc ms ah al Qf kc ks pc L (.int y :: .int x :: st) w := by
  subst hp
  intro l p e R s m args below meth c Q D ρ X aC aV A n0 hC H locs ls hR hL
  exact lv_irem hC.1 hC.2.1 h hne (k l p e R s m args below meth c Q D ρ X aC aV A n0 hC H locs ls hR hL)

theorem r_iushr {x y : Int32} (pc' : Nat) (h : decode M.2.1 pc = .ok (.iushr, 1)) (hp : pc + 1 = pc') (k : mm_R d M scr mc ms ah al Qf kc ks pc' L (.int (x.toUInt32 >>> (y.toUInt32 &&& Int32.toUInt32 31)).toInt32 :: st) w) : mm_R d M scr mc ms ah al Qf kc ks pc L (.int y :: .int x :: st) w := by
  subst hp
  intro l p e R s m args below meth c Q D ρ X aC aV A n0 hC H locs ls hR hL
  exact lv_iushr hC.1 hC.2.1 h rfl (k l p e R s m args below meth c Q D ρ X aC aV A n0 hC H locs ls hR hL)

theorem r_ladd {x y : Int64} (pc' : Nat) (h : decode M.2.1 pc = .ok (.ladd, 1)) (hp : pc + 1 = pc') (k : mm_R d M scr mc ms ah al Qf kc ks pc' L (.long (x + y) :: st) w) : mm_R d M scr mc ms ah al Qf kc ks pc L (.long y :: .long x :: st) w := by
  subst hp
  intro l p e R s m args below meth c Q D ρ X aC aV A n0 hC H locs ls hR hL
  exact lv_ladd hC.1 hC.2.1 h (k l p e R s m args below meth c Q D ρ X aC aV A n0 hC H locs ls hR hL)

theorem r_lsub {x y : Int64} (pc' : Nat) (h : decode M.2.1 pc = .ok (.lsub, 1)) (hp : pc + 1 = pc') (k : mm_R d M scr mc ms ah al Qf kc ks pc' L (.long (x - y) :: st) w) : mm_R d M scr mc ms ah al Qf kc ks pc L (.long y :: .long x :: st) w := by
  subst hp
  intro l p e R s m args below meth c Q D ρ X aC aV A n0 hC H locs ls hR hL
  exact lv_lsub hC.1 hC.2.1 h (k l p e R s m args below meth c Q D ρ X aC aV A n0 hC H locs ls hR hL)

theorem r_lmul {x y : Int64} (pc' : Nat) (h : decode M.2.1 pc = .ok (.lmul, 1)) (hp : pc + 1 = pc') (k : mm_R d M scr mc ms ah al Qf kc ks pc' L (.long (x * y) :: st) w) : mm_R d M scr mc ms ah al Qf kc ks pc L (.long y :: .long x :: st) w := by
  subst hp
  intro l p e R s m args below meth c Q D ρ X aC aV A n0 hC H locs ls hR hL
  exact lv_lmul hC.1 hC.2.1 h (k l p e R s m args below meth c Q D ρ X aC aV A n0 hC H locs ls hR hL)

theorem r_land {x y : Int64} (pc' : Nat) (h : decode M.2.1 pc = .ok (.land, 1)) (hp : pc + 1 = pc') (k : mm_R d M scr mc ms ah al Qf kc ks pc' L (.long (x &&& y) :: st) w) : mm_R d M scr mc ms ah al Qf kc ks pc L (.long y :: .long x :: st) w := by
  subst hp
  intro l p e R s m args below meth c Q D ρ X aC aV A n0 hC H locs ls hR hL
  exact lv_land hC.1 hC.2.1 h (k l p e R s m args below meth c Q D ρ X aC aV A n0 hC H locs ls hR hL)

theorem r_lor {x y : Int64} (pc' : Nat) (h : decode M.2.1 pc = .ok (.lor, 1)) (hp : pc + 1 = pc') (k : mm_R d M scr mc ms ah al Qf kc ks pc' L (.long (x ||| y) :: st) w) : mm_R d M scr mc ms ah al Qf kc ks pc L (.long y :: .long x :: st) w := by
  subst hp
  intro l p e R s m args below meth c Q D ρ X aC aV A n0 hC H locs ls hR hL
  exact lv_lor hC.1 hC.2.1 h (k l p e R s m args below meth c Q D ρ X aC aV A n0 hC H locs ls hR hL)

theorem r_ldiv {x y : Int64} (pc' : Nat) (h : decode M.2.1 pc = .ok (.ldiv, 1)) (hp : pc + 1 = pc') (hne : ¬ y = 0) (k : mm_R d M scr mc ms ah al Qf kc ks pc' L (.long (x / y) :: st) w) : mm_R d M scr mc ms ah al Qf kc ks pc L (.long y :: .long x :: st) w := by
  subst hp
  intro l p e R s m args below meth c Q D ρ X aC aV A n0 hC H locs ls hR hL
  exact lv_ldiv hC.1 hC.2.1 h hne (k l p e R s m args below meth c Q D ρ X aC aV A n0 hC H locs ls hR hL)

theorem r_lrem {x y : Int64} (pc' : Nat) (h : decode M.2.1 pc = .ok (.lrem, 1)) (hp : pc + 1 = pc') (hne : ¬ y = 0) (k : mm_R d M scr mc ms ah al Qf kc ks pc' L (.long (x - x / y * y) :: st) w) : mm_R d M scr mc ms ah al Qf kc ks pc L (.long y :: .long x :: st) w := by
  subst hp
  intro l p e R s m args below meth c Q D ρ X aC aV A n0 hC H locs ls hR hL
  exact lv_lrem hC.1 hC.2.1 h hne (k l p e R s m args below meth c Q D ρ X aC aV A n0 hC H locs ls hR hL)

theorem r_lushr {x : Int64} {y : Int32} (pc' : Nat) (h : decode M.2.1 pc = .ok (.lushr, 1)) (hp : pc + 1 = pc') (k : mm_R d M scr mc ms ah al Qf kc ks pc' L (.long (x.toUInt64 >>> (y.toInt64.toUInt64 &&& Int64.toUInt64 63)).toInt64 :: st) w) : mm_R d M scr mc ms ah al Qf kc ks pc L (.int y :: .long x :: st) w := by
  subst hp
  intro l p e R s m args below meth c Q D ρ X aC aV A n0 hC H locs ls hR hL
  exact lv_lushr hC.1 hC.2.1 h rfl (k l p e R s m args below meth c Q D ρ X aC aV A n0 hC H locs ls hR hL)

theorem r_lshl {x : Int64} {y : Int32} (pc' : Nat) (h : decode M.2.1 pc = .ok (.lshl, 1)) (hp : pc + 1 = pc') (k : mm_R d M scr mc ms ah al Qf kc ks pc' L (.long (x <<< (y.toInt64 &&& 63)) :: st) w) : mm_R d M scr mc ms ah al Qf kc ks pc L (.int y :: .long x :: st) w := by
  subst hp
  intro l p e R s m args below meth c Q D ρ X aC aV A n0 hC H locs ls hR hL
  exact lv_lshl hC.1 hC.2.1 h rfl (k l p e R s m args below meth c Q D ρ X aC aV A n0 hC H locs ls hR hL)

theorem r_lcmp {x y : Int64} (pc' : Nat) (h : decode M.2.1 pc = .ok (.lcmp, 1)) (hp : pc + 1 = pc') (k : mm_R d M scr mc ms ah al Qf kc ks pc' L (.int (lg_cmp x y) :: st) w) : mm_R d M scr mc ms ah al Qf kc ks pc L (.long y :: .long x :: st) w := by
  subst hp
  intro l p e R s m args below meth c Q D ρ X aC aV A n0 hC H locs ls hR hL
  exact W.lcmp hC.1 hC.2.1 h (k l p e R s m args below meth c Q D ρ X aC aV A n0 hC H locs ls hR hL)

theorem r_i2l {x : Int32} (pc' : Nat) (h : decode M.2.1 pc = .ok (.i2l, 1)) (hp : pc + 1 = pc') (k : mm_R d M scr mc ms ah al Qf kc ks pc' L (.long x.toInt64 :: st) w) : mm_R d M scr mc ms ah al Qf kc ks pc L (.int x :: st) w := by
  subst hp
  intro l p e R s m args below meth c Q D ρ X aC aV A n0 hC H locs ls hR hL
  exact lv_i2l hC.1 hC.2.1 h rfl (k l p e R s m args below meth c Q D ρ X aC aV A n0 hC H locs ls hR hL)

theorem r_l2i {x : Int64} (pc' : Nat) (h : decode M.2.1 pc = .ok (.l2i, 1)) (hp : pc + 1 = pc') (k : mm_R d M scr mc ms ah al Qf kc ks pc' L (.int x.toInt32 :: st) w) : mm_R d M scr mc ms ah al Qf kc ks pc L (.long x :: st) w := by
  subst hp
  intro l p e R s m args below meth c Q D ρ X aC aV A n0 hC H locs ls hR hL
  exact lv_l2i hC.1 hC.2.1 h rfl (k l p e R s m args below meth c Q D ρ X aC aV A n0 hC H locs ls hR hL)

theorem r_i2b {x : Int32} (pc' : Nat) (h : decode M.2.1 pc = .ok (.i2b, 1)) (hp : pc + 1 = pc') (k : mm_R d M scr mc ms ah al Qf kc ks pc' L (.int x.toInt8.toInt32 :: st) w) : mm_R d M scr mc ms ah al Qf kc ks pc L (.int x :: st) w := by
  subst hp
  intro l p e R s m args below meth c Q D ρ X aC aV A n0 hC H locs ls hR hL
  exact lv_i2b hC.1 hC.2.1 h rfl (k l p e R s m args below meth c Q D ρ X aC aV A n0 hC H locs ls hR hL)

theorem r_i2s {x : Int32} (pc' : Nat) (h : decode M.2.1 pc = .ok (.i2s, 1)) (hp : pc + 1 = pc') (k : mm_R d M scr mc ms ah al Qf kc ks pc' L (.int x.toInt16.toInt32 :: st) w) : mm_R d M scr mc ms ah al Qf kc ks pc L (.int x :: st) w := by
  subst hp
  intro l p e R s m args below meth c Q D ρ X aC aV A n0 hC H locs ls hR hL
  exact lv_i2s hC.1 hC.2.1 h rfl (k l p e R s m args below meth c Q D ρ X aC aV A n0 hC H locs ls hR hL)

theorem r_i2c {x : Int32} (pc' : Nat) (h : decode M.2.1 pc = .ok (.i2c, 1)) (hp : pc + 1 = pc') (k : mm_R d M scr mc ms ah al Qf kc ks pc' L (.int (x.toUInt32 % 65536).toInt32 :: st) w) : mm_R d M scr mc ms ah al Qf kc ks pc L (.int x :: st) w := by
  subst hp
  intro l p e R s m args below meth c Q D ρ X aC aV A n0 hC H locs ls hR hL
  exact lv_i2c hC.1 hC.2.1 h rfl (k l p e R s m args below meth c Q D ρ X aC aV A n0 hC H locs ls hR hL)

theorem r_dup {v : Value} (pc' : Nat) (h : decode M.2.1 pc = .ok (.dup, 1)) (hp : pc + 1 = pc') (hc : v.category = 1) (k : mm_R d M scr mc ms ah al Qf kc ks pc' L (v :: v :: st) w) : mm_R d M scr mc ms ah al Qf kc ks pc L (v :: st) w := by
  subst hp
  intro l p e R s m args below meth c Q D ρ X aC aV A n0 hC H locs ls hR hL
  exact lv_dup hC.1 hC.2.1 h (by rw [mm_rv_cat]; exact hc) (k l p e R s m args below meth c Q D ρ X aC aV A n0 hC H locs ls hR hL)

theorem r_pop {v : Value} (pc' : Nat) (h : decode M.2.1 pc = .ok (.pop, 1)) (hp : pc + 1 = pc') (hc : v.category = 1) (k : mm_R d M scr mc ms ah al Qf kc ks pc' L st w) : mm_R d M scr mc ms ah al Qf kc ks pc L (v :: st) w := by
  subst hp
  intro l p e R s m args below meth c Q D ρ X aC aV A n0 hC H locs ls hR hL
  exact lv_pop hC.1 hC.2.1 h (va := mm_rv ρ X v) (by rw [mm_rv_cat]; exact hc) (k l p e R s m args below meth c Q D ρ X aC aV A n0 hC H locs ls hR hL)

theorem r_dup_x1 {v u : Value} (pc' : Nat) (h : decode M.2.1 pc = .ok (.dup_x1, 1)) (hp : pc + 1 = pc') (hc : v.category = 1) (hu : u.category = 1) (k : mm_R d M scr mc ms ah al Qf kc ks pc' L (v :: u :: v :: st) w) : mm_R d M scr mc ms ah al Qf kc ks pc L (v :: u :: st) w := by
  subst hp
  intro l p e R s m args below meth c Q D ρ X aC aV A n0 hC H locs ls hR hL
  exact lv_dup_x1 hC.1 hC.2.1 h (by rw [mm_rv_cat]; exact hc) (by rw [mm_rv_cat]; exact hu) (k l p e R s m args below meth c Q D ρ X aC aV A n0 hC H locs ls hR hL)

theorem r_dup2 {v u : Value} (pc' : Nat) (h : decode M.2.1 pc = .ok (.dup2, 1)) (hp : pc + 1 = pc') (hc : v.category = 1) (hu : u.category = 1) (k : mm_R d M scr mc ms ah al Qf kc ks pc' L (v :: u :: v :: u :: st) w) : mm_R d M scr mc ms ah al Qf kc ks pc L (v :: u :: st) w := by
  subst hp
  intro l p e R s m args below meth c Q D ρ X aC aV A n0 hC H locs ls hR hL
  exact lv_dup2_11 hC.1 hC.2.1 h (by rw [mm_rv_cat]; exact hc) (by rw [mm_rv_cat]; exact hu) (k l p e R s m args below meth c Q D ρ X aC aV A n0 hC H locs ls hR hL)

theorem r_dup2L {x : Int64} (pc' : Nat) (h : decode M.2.1 pc = .ok (.dup2, 1)) (hp : pc + 1 = pc') (k : mm_R d M scr mc ms ah al Qf kc ks pc' L (.long x :: .long x :: st) w) : mm_R d M scr mc ms ah al Qf kc ks pc L (.long x :: st) w := by
  subst hp
  intro l p e R s m args below meth c Q D ρ X aC aV A n0 hC H locs ls hR hL
  exact lv_dup2_2 hC.1 hC.2.1 h (va := .long x) rfl (k l p e R s m args below meth c Q D ρ X aC aV A n0 hC H locs ls hR hL)

theorem r_goto {off : Int} (pc' : Nat) (h : decode M.2.1 pc = .ok (.goto off, 3)) (ht : (pc : Int) + off = (pc' : Int)) (k : mm_R d M scr mc ms ah al Qf kc ks pc' L st w) : mm_R d M scr mc ms ah al Qf kc ks pc L st w := by
  intro l p e R s m args below meth c Q D ρ X aC aV A n0 hC H locs ls hR hL
  exact lv_goto hC.1 hC.2.1 h ht (k l p e R s m args below meth c Q D ρ X aC aV A n0 hC H locs ls hR hL)

theorem r_tabOut {dflt lo hi : Int} {offs : Array Int} {len : Nat} {x : Int32} (pc' : Nat) (h : decode M.2.1 pc = .ok (.tableswitch dflt lo hi offs, len)) (hx : x.toInt < lo ∨ hi < x.toInt) (ht : (pc : Int) + dflt = (pc' : Int)) (k : mm_R d M scr mc ms ah al Qf kc ks pc' L st w) : mm_R d M scr mc ms ah al Qf kc ks pc L (.int x :: st) w := by
  intro l p e R s m args below meth c Q D ρ X aC aV A n0 hC H locs ls hR hL
  exact lv_tableOut hC.1 hC.2.1 h hx ht (k l p e R s m args below meth c Q D ρ X aC aV A n0 hC H locs ls hR hL)

theorem r_tabIn {dflt lo hi off : Int} {offs : Array Int} {len : Nat} {x : Int32} (pc' : Nat) (h : decode M.2.1 pc = .ok (.tableswitch dflt lo hi offs, len)) (h1 : ¬ x.toInt < lo) (h2 : ¬ hi < x.toInt) (ho : offs[(x.toInt - lo).toNat]? = some off) (ht : (pc : Int) + off = (pc' : Int)) (k : mm_R d M scr mc ms ah al Qf kc ks pc' L st w) : mm_R d M scr mc ms ah al Qf kc ks pc L (.int x :: st) w := by
  intro l p e R s m args below meth c Q D ρ X aC aV A n0 hC H locs ls hR hL
  exact lv_tableIn hC.1 hC.2.1 h h1 h2 ho ht (k l p e R s m args below meth c Q D ρ X aC aV A n0 hC H locs ls hR hL)

theorem r_lookup {dflt off : Int} {ps : Array (Int × Int)} {len : Nat} {x : Int32} (pc' : Nat) (h : decode M.2.1 pc = .ok (.lookupswitch dflt ps, len)) (hs : (ps.toList.zip (ps.toList.drop 1)).all (fun (a, next) => a.1 < next.1) = true) (ho : Op.lookupswitch.offset ps.toList dflt x.toInt = off) (ht : (pc : Int) + off = (pc' : Int)) (k : mm_R d M scr mc ms ah al Qf kc ks pc' L st w) : mm_R d M scr mc ms ah al Qf kc ks pc L (.int x :: st) w := by
  intro l p e R s m args below meth c Q D ρ X aC aV A n0 hC H locs ls hR hL
  exact lv_lookup hC.1 hC.2.1 h hs ho ht (k l p e R s m args below meth c Q D ρ X aC aV A n0 hC H locs ls hR hL)

theorem r_if_eq {x : Int32} {off : Int} (tgt pc' : Nat) (h : decode M.2.1 pc = .ok (.ifCond .eq off, 3)) (ht : (pc : Int) + off = (tgt : Int)) (hp : pc + 3 = pc') (kt : x = 0 → mm_R d M scr mc ms ah al Qf kc ks tgt L st w) (kf : ¬ x = 0 → mm_R d M scr mc ms ah al Qf kc ks pc' L st w) : mm_R d M scr mc ms ah al Qf kc ks pc L (.int x :: st) w := by
  subst hp
  intro l p e R s m args below meth c Q D ρ X aC aV A n0 hC H locs ls hR hL
  exact lv_if_eq hC.1 hC.2.1 h ht (fun z => kt z l p e R s m args below meth c Q D ρ X aC aV A n0 hC H locs ls hR hL) (fun z => kf z l p e R s m args below meth c Q D ρ X aC aV A n0 hC H locs ls hR hL)

theorem r_icmp_eq {x y : Int32} {off : Int} (tgt pc' : Nat) (h : decode M.2.1 pc = .ok (.if_icmp .eq off, 3)) (ht : (pc : Int) + off = (tgt : Int)) (hp : pc + 3 = pc') (kt : x = y → mm_R d M scr mc ms ah al Qf kc ks tgt L st w) (kf : ¬ x = y → mm_R d M scr mc ms ah al Qf kc ks pc' L st w) : mm_R d M scr mc ms ah al Qf kc ks pc L (.int y :: .int x :: st) w := by
  subst hp
  intro l p e R s m args below meth c Q D ρ X aC aV A n0 hC H locs ls hR hL
  exact lv_icmp_eq hC.1 hC.2.1 h ht (fun z => kt z l p e R s m args below meth c Q D ρ X aC aV A n0 hC H locs ls hR hL) (fun z => kf z l p e R s m args below meth c Q D ρ X aC aV A n0 hC H locs ls hR hL)

theorem r_if_ne {x : Int32} {off : Int} (tgt pc' : Nat) (h : decode M.2.1 pc = .ok (.ifCond .ne off, 3)) (ht : (pc : Int) + off = (tgt : Int)) (hp : pc + 3 = pc') (kt : ¬ x = 0 → mm_R d M scr mc ms ah al Qf kc ks tgt L st w) (kf : x = 0 → mm_R d M scr mc ms ah al Qf kc ks pc' L st w) : mm_R d M scr mc ms ah al Qf kc ks pc L (.int x :: st) w := by
  subst hp
  intro l p e R s m args below meth c Q D ρ X aC aV A n0 hC H locs ls hR hL
  exact lv_if_ne hC.1 hC.2.1 h ht (fun z => kt z l p e R s m args below meth c Q D ρ X aC aV A n0 hC H locs ls hR hL) (fun z => kf z l p e R s m args below meth c Q D ρ X aC aV A n0 hC H locs ls hR hL)

theorem r_icmp_ne {x y : Int32} {off : Int} (tgt pc' : Nat) (h : decode M.2.1 pc = .ok (.if_icmp .ne off, 3)) (ht : (pc : Int) + off = (tgt : Int)) (hp : pc + 3 = pc') (kt : ¬ x = y → mm_R d M scr mc ms ah al Qf kc ks tgt L st w) (kf : x = y → mm_R d M scr mc ms ah al Qf kc ks pc' L st w) : mm_R d M scr mc ms ah al Qf kc ks pc L (.int y :: .int x :: st) w := by
  subst hp
  intro l p e R s m args below meth c Q D ρ X aC aV A n0 hC H locs ls hR hL
  exact lv_icmp_ne hC.1 hC.2.1 h ht (fun z => kt z l p e R s m args below meth c Q D ρ X aC aV A n0 hC H locs ls hR hL) (fun z => kf z l p e R s m args below meth c Q D ρ X aC aV A n0 hC H locs ls hR hL)

theorem r_if_lt {x : Int32} {off : Int} (tgt pc' : Nat) (h : decode M.2.1 pc = .ok (.ifCond .lt off, 3)) (ht : (pc : Int) + off = (tgt : Int)) (hp : pc + 3 = pc') (kt : x < 0 → mm_R d M scr mc ms ah al Qf kc ks tgt L st w) (kf : ¬ x < 0 → mm_R d M scr mc ms ah al Qf kc ks pc' L st w) : mm_R d M scr mc ms ah al Qf kc ks pc L (.int x :: st) w := by
  subst hp
  intro l p e R s m args below meth c Q D ρ X aC aV A n0 hC H locs ls hR hL
  exact lv_if_lt hC.1 hC.2.1 h ht (fun z => kt z l p e R s m args below meth c Q D ρ X aC aV A n0 hC H locs ls hR hL) (fun z => kf z l p e R s m args below meth c Q D ρ X aC aV A n0 hC H locs ls hR hL)

theorem r_icmp_lt {x y : Int32} {off : Int} (tgt pc' : Nat) (h : decode M.2.1 pc = .ok (.if_icmp .lt off, 3)) (ht : (pc : Int) + off = (tgt : Int)) (hp : pc + 3 = pc') (kt : x < y → mm_R d M scr mc ms ah al Qf kc ks tgt L st w) (kf : ¬ x < y → mm_R d M scr mc ms ah al Qf kc ks pc' L st w) : mm_R d M scr mc ms ah al Qf kc ks pc L (.int y :: .int x :: st) w := by
  subst hp
  intro l p e R s m args below meth c Q D ρ X aC aV A n0 hC H locs ls hR hL
  exact lv_icmp_lt hC.1 hC.2.1 h ht (fun z => kt z l p e R s m args below meth c Q D ρ X aC aV A n0 hC H locs ls hR hL) (fun z => kf z l p e R s m args below meth c Q D ρ X aC aV A n0 hC H locs ls hR hL)

theorem r_if_ge {x : Int32} {off : Int} (tgt pc' : Nat) (h : decode M.2.1 pc = .ok (.ifCond .ge off, 3)) (ht : (pc : Int) + off = (tgt : Int)) (hp : pc + 3 = pc') (kt : 0 ≤ x → mm_R d M scr mc ms ah al Qf kc ks tgt L st w) (kf : ¬ 0 ≤ x → mm_R d M scr mc ms ah al Qf kc ks pc' L st w) : mm_R d M scr mc ms ah al Qf kc ks pc L (.int x :: st) w := by
  subst hp
  intro l p e R s m args below meth c Q D ρ X aC aV A n0 hC H locs ls hR hL
  exact lv_if_ge hC.1 hC.2.1 h ht (fun z => kt z l p e R s m args below meth c Q D ρ X aC aV A n0 hC H locs ls hR hL) (fun z => kf z l p e R s m args below meth c Q D ρ X aC aV A n0 hC H locs ls hR hL)

theorem r_icmp_ge {x y : Int32} {off : Int} (tgt pc' : Nat) (h : decode M.2.1 pc = .ok (.if_icmp .ge off, 3)) (ht : (pc : Int) + off = (tgt : Int)) (hp : pc + 3 = pc') (kt : y ≤ x → mm_R d M scr mc ms ah al Qf kc ks tgt L st w) (kf : ¬ y ≤ x → mm_R d M scr mc ms ah al Qf kc ks pc' L st w) : mm_R d M scr mc ms ah al Qf kc ks pc L (.int y :: .int x :: st) w := by
  subst hp
  intro l p e R s m args below meth c Q D ρ X aC aV A n0 hC H locs ls hR hL
  exact lv_icmp_ge hC.1 hC.2.1 h ht (fun z => kt z l p e R s m args below meth c Q D ρ X aC aV A n0 hC H locs ls hR hL) (fun z => kf z l p e R s m args below meth c Q D ρ X aC aV A n0 hC H locs ls hR hL)

theorem r_if_gt {x : Int32} {off : Int} (tgt pc' : Nat) (h : decode M.2.1 pc = .ok (.ifCond .gt off, 3)) (ht : (pc : Int) + off = (tgt : Int)) (hp : pc + 3 = pc') (kt : 0 < x → mm_R d M scr mc ms ah al Qf kc ks tgt L st w) (kf : ¬ 0 < x → mm_R d M scr mc ms ah al Qf kc ks pc' L st w) : mm_R d M scr mc ms ah al Qf kc ks pc L (.int x :: st) w := by
  subst hp
  intro l p e R s m args below meth c Q D ρ X aC aV A n0 hC H locs ls hR hL
  exact lv_if_gt hC.1 hC.2.1 h ht (fun z => kt z l p e R s m args below meth c Q D ρ X aC aV A n0 hC H locs ls hR hL) (fun z => kf z l p e R s m args below meth c Q D ρ X aC aV A n0 hC H locs ls hR hL)

theorem r_icmp_gt {x y : Int32} {off : Int} (tgt pc' : Nat) (h : decode M.2.1 pc = .ok (.if_icmp .gt off, 3)) (ht : (pc : Int) + off = (tgt : Int)) (hp : pc + 3 = pc') (kt : y < x → mm_R d M scr mc ms ah al Qf kc ks tgt L st w) (kf : ¬ y < x → mm_R d M scr mc ms ah al Qf kc ks pc' L st w) : mm_R d M scr mc ms ah al Qf kc ks pc L (.int y :: .int x :: st) w := by
  subst hp
  intro l p e R s m args below meth c Q D ρ X aC aV A n0 hC H locs ls hR hL
  exact lv_icmp_gt hC.1 hC.2.1 h ht (fun z => kt z l p e R s m args below meth c Q D ρ X aC aV A n0 hC H locs ls hR hL) (fun z => kf z l p e R s m args below meth c Q D ρ X aC aV A n0 hC H locs ls hR hL)

theorem r_if_le {x : Int32} {off : Int} (tgt pc' : Nat) (h : decode M.2.1 pc = .ok (.ifCond .le off, 3)) (ht : (pc : Int) + off = (tgt : Int)) (hp : pc + 3 = pc') (kt : x ≤ 0 → mm_R d M scr mc ms ah al Qf kc ks tgt L st w) (kf : ¬ x ≤ 0 → mm_R d M scr mc ms ah al Qf kc ks pc' L st w) : mm_R d M scr mc ms ah al Qf kc ks pc L (.int x :: st) w := by
  subst hp
  intro l p e R s m args below meth c Q D ρ X aC aV A n0 hC H locs ls hR hL
  exact lv_if_le hC.1 hC.2.1 h ht (fun z => kt z l p e R s m args below meth c Q D ρ X aC aV A n0 hC H locs ls hR hL) (fun z => kf z l p e R s m args below meth c Q D ρ X aC aV A n0 hC H locs ls hR hL)

theorem r_icmp_le {x y : Int32} {off : Int} (tgt pc' : Nat) (h : decode M.2.1 pc = .ok (.if_icmp .le off, 3)) (ht : (pc : Int) + off = (tgt : Int)) (hp : pc + 3 = pc') (kt : x ≤ y → mm_R d M scr mc ms ah al Qf kc ks tgt L st w) (kf : ¬ x ≤ y → mm_R d M scr mc ms ah al Qf kc ks pc' L st w) : mm_R d M scr mc ms ah al Qf kc ks pc L (.int y :: .int x :: st) w := by
  subst hp
  intro l p e R s m args below meth c Q D ρ X aC aV A n0 hC H locs ls hR hL
  exact lv_icmp_le hC.1 hC.2.1 h ht (fun z => kt z l p e R s m args below meth c Q D ρ X aC aV A n0 hC H locs ls hR hL) (fun z => kf z l p e R s m args below meth c Q D ρ X aC aV A n0 hC H locs ls hR hL)

theorem r_drop (L' : List (Option Value)) (hs : ∀ (i : Nat) (v : Value), L'[i]? = some (some v) → L[i]? = some (some v)) (k : mm_R d M scr mc ms ah al Qf kc ks pc L' st w) : mm_R d M scr mc ms ah al Qf kc ks pc L st w := by
  intro l p e R s m args below meth c Q D ρ X aC aV A n0 hC H locs ls hR hL
  exact k l p e R s m args below meth c Q D ρ X aC aV A n0 hC H locs ls hR (hL.mono hs)
theorem r_ret (v : Option Value) (h : mm_rt M.2.1 M.2.2.2.2 pc v) (hc : kc ≤ mc) (hk : ks ≤ ms) (hq : Qf v w) (ha : scr = none → ah = al) (hst : st = v.toList) : mm_R d M scr mc ms ah al Qf kc ks pc L st w := by
  intro l p e R s m args below meth c Q D ρ X aC aV A n0 hC H locs ls hR hL
  subst hst
  have := hC.2.2.2.2.2.2.2.2.2.2.2 kc ks pc v w H locs ls hc hk hq h hR.2.2.2.1 (fun z => by rw [ha z]; exact hR)
  cases v with
  | none => exact this
  | some v => exact this
theorem r_noal (ha : ¬ scr = none) (k : mm_R d M scr mc ms ah false Qf kc ks pc L st w) : mm_R d M scr mc ms ah al Qf kc ks pc L st w := by
  intro l p e R s m args below meth c Q D ρ X aC aV A n0 hC H locs ls hR hL
  obtain ⟨r1, r2, r3, r4, r5, r6⟩ := hR
  have hC2 : mm_Cx d M scr mc ms ah Qf l p e R s m args below meth c Q D ρ X aC aV A w.length := by
    obtain ⟨c1, c2, c3, c4, c5, c6, c7, c8, c9, c10, c11, c12⟩ := hC
    exact ⟨c1, c2, c3, c4, c5, c6, c7, c8, c9, c10, c11, fun kc ks pc v w H locs ls a1 a2 a3 a4 a5 a6 => c12 kc ks pc v w H locs ls a1 a2 a3 a4 a5 (fun z => absurd z ha)⟩
  exact k l p e R s m args below meth c Q D ρ X aC aV A w.length hC2 H locs ls ⟨r1, r2, r3, r4, fun z => absurd z Bool.false_ne_true, fun _ => rfl⟩ hL

end MMR
end
section
theorem mm_Rl.upd {al : Bool} {n0 : Nat} {A : Nat → Prop} {H0 H H1 : Heap} {locs : List Loc} {ρ X aC : Nat → Nat} {D : va_G} {w : mm_W} {i : Nat} {c c' : va_E} (hR : mm_Rl al n0 A H0 H locs ρ X aC D w) (hw : w[i]? = some c) (he : va_at D vwCl (ρ i, mm_re ρ X aC c') H1) (z : H1.size = H.size) (oq : ∀ q : Nat, q ≠ ρ i → H1[q]? = H[q]?) (k : Nat) :
    mm_Rl al n0 A H0 H1 (locs ++ [⟨ρ i, k⟩]) ρ X aC D (w.set i c') := by
  obtain ⟨r1, r2, r3, r4, r5, r6⟩ := hR
  have hi : i < w.length := (List.getElem?_eq_some_iff.mp hw).1
  refine ⟨fun j x hj => ?_, by rw [List.length_set]; exact r2, by rw [List.length_set]; exact r3, r4.put z oq (r3 i hi), ?_, ?_⟩
  · by_cases hji : j = i
    · subst hji
      rw [List.getElem?_set_self hi] at hj
      cases hj
      exact he
    · rw [List.getElem?_set_ne (Ne.symm hji)] at hj
      have hjl : j < w.length := (List.getElem?_eq_some_iff.mp hj).1
      exact (r1 j x hj).kept (oq _ (fun e => hji (r2 j i hjl hi e)))
  · intro ha
    rw [List.length_set, z]
    exact r5 ha
  · intro ha
    rw [List.length_set]
    exact r6 ha
theorem mm_P1 {D : va_G} {a : Nat} {e : va_E} {H : Heap} (h : va_at D vwCl (a, e) H) : va_P D vwCl [(a, e)] H := by
  intro k q hk
  cases k with
  | zero => cases hk; exact h
  | succ k => simp at hk
def mm_FL (own : String) (idx ci k : Nat) (fin : Bool) (ty : FieldType) : Prop := ∃ (C : String) (T : u_T) (N : Nat) (ty0 : Nat → FieldType), vwCl[ci]? = some (C, T, N) ∧ (∀ x ∈ u_ws C T N, x ∈ mm_tb) ∧ k < N ∧ Cond.fieldLink own idx (T k).1 (T k).2.1 (T k).2.2.1 ∈ mm_tb ∧ (T k).2.2.2 = fin ∧ (∀ j, j < N → parseFieldDescriptor (T j).2.2.1 = some (ty0 j)) ∧ ty0 k = ty ∧ (∀ a, a < N → ∀ b, b < N → a ≠ b → (T a).2.1 ≠ (T b).2.1) ∧ (T k).1 = C
section MMH
variable {d : Nat} {M : mm_M} {scr : Option (Nat × (Nat → Int32))} {mc ms : Nat} {ah al : Bool} {Qf : Option Value → mm_W → Prop} {kc ks pc : Nat} {L : List (Option Value)} {st : List Value} {w : mm_W}
theorem r_getf {idx ci k i : Nat} {fin : Bool} {ty : FieldType} {fs : List Value} {v : Value} (pc' : Nat) (h : decode M.2.1 pc = .ok (.getfield idx, 3)) (hp : pc + 3 = pc') (hF : mm_FL M.1 idx ci k fin ty) (hw : w[i]? = some (.inr (ci, fs))) (hv : fs[k]? = some v) (kk : mm_R d M scr mc ms ah al Qf kc ks pc' L (v :: st) w) : mm_R d M scr mc ms ah al Qf kc ks pc L (.ref i :: st) w := by
  subst hp
  intro l p e R s m args below meth c Q D ρ X aC aV A n0 hC H locs ls hR hL
  obtain ⟨C, T, N, ty0, f1, f2, f3, f4, f5, f6, f7, f8, f9⟩ := hF
  exact va_get (own := M.1) (C := C) (T := T) (N := N) (ci := ci) (Ts := mm_tb) hC.1 hC.2.1 hC.2.2.2.2.1 f2 hC.2.2.2.1 hC.2.2.2.2.2.2.1 (mm_P1 (hR.1 i _ hw)) 0 (fs := fs.map (mm_rv ρ X)) rfl f1 k f3 (hC.2.2.2.2.1 _ f4) (fun _ z => z) (v := mm_rv ρ X v) (by rw [List.getElem?_map, hv]; rfl) h (kk l p e R s m args below meth c Q D ρ X aC aV A n0 hC H locs ls hR hL)
set_option maxHeartbeats 1000000 in
theorem r_putf {idx ci k i : Nat} {fin : Bool} {ty : FieldType} {fs : List Value} {v : Value} (pc' : Nat) (h : decode M.2.1 pc = .ok (.putfield idx, 3)) (hp : pc + 3 = pc') (hF : mm_FL M.1 idx ci k fin ty) (hw : w[i]? = some (.inr (ci, fs))) (hl : Nat.ble (k + 1) fs.length = true) (hv : ∀ ρ X : Nat → Nat, narrow ty (mm_rv ρ X v) = mm_rv ρ X v ∧ fits ty (mm_rv ρ X v) = true) (hfin : fin = true → M.2.2.2.1 = true ∧ (vwCl[ci]?).map (fun q => q.1) = some M.1) (kk : mm_R d M scr mc ms ah al Qf kc ks pc' L st (w.set i (.inr (ci, fs.set k v)))) : mm_R d M scr mc ms ah al Qf kc ks pc L (v :: .ref i :: st) w := by
  subst hp
  intro l p e R s m args below meth c Q D ρ X aC aV A n0 hC H locs ls hR hL
  obtain ⟨C, T, N, ty0, f1, f2, f3, f4, f5, f6, f7, f8, f9⟩ := hF
  obtain ⟨hx, hb, hml, hown, hts, hini, hK, -⟩ := id hC
  have hd : parseFieldDescriptor (T k).2.2.1 = some ty := by rw [← f7]; exact f6 k f3
  have hap := va_apart (own := M.1) hts f2 ty0 f6 f8 hK f1
  obtain ⟨r, h1, cell, q1, q2, q3, q4⟩ := hR.1 i _ hw
  have hr : r = (C, T, N) := Option.some.inj (h1.symm.trans f1)
  subst hr
  obtain ⟨hS, hfc, kC, hkC, hkind⟩ := hK.1 ci _ f1
  obtain ⟨cf, kf, fi, f, hi, hsl⟩ := hS k f3
  have hlay := hts _ (f2 _ (u_in_lay f3))
  unfold u_lay at hlay
  have hst := (u_facts hfc hkC (u_lays hts f2 f3) hi).1
  have fin' : ∀ (H' : Heap), H'[ρ i]? = some (cell.setSlot f.slot (mm_rv ρ X v)) → H'.size = H.size → (∀ q, q ≠ ρ i → H'[q]? = H[q]?) → W p l e R s m args below meth c H' (locs ++ [⟨ρ i, f.slot⟩]) kc ks Q (F0 m (pc + 3) ls (st.map (mm_rv ρ X))) := by
    intro H' e1 e2 e3
    refine kk l p e R s m args below meth c Q D ρ X aC aV A n0 hC H' _ ls (hR.upd hw ?_ e2 e3 f.slot) hL
    show ∃ r : vw_C, vwCl[ci]? = some r ∧ t_OB (ρ i) (D.1 ci) r.2.2 (D.2 ci) H' (vp_V ((fs.set k v).map (mm_rv ρ X)))
    rw [hsl] at e1
    refine ⟨_, f1, ?_⟩
    rw [List.map_set]
    exact t_OB.to (V := updV (vp_V (fs.map (mm_rv ρ X))) k (mm_rv ρ X v)) ⟨_, e1, q2, q3, t_set q4 hap f3 _⟩ (fun j _ => vp_updV_set (by rw [List.length_map]; exact Nat.le_of_ble_eq_true hl) _ j)
  cases hfn : fin with
  | false =>
    rw [if_neg (by rw [f5, hfn]; decide)] at hlay
    have h6 := u_store hfc hkC hkind hlay hi hd (hv ρ X).1 (hv ρ X).2
    exact W.putK hx hb (f := f) ⟨hown, hts _ f4, ⟨_, _, _, hi⟩, hst⟩ (by rw [q2]; exact h6) q1 q3 (by rw [hsl]; exact k2_hasslot (q4 k f3)) rfl rfl h fin'
  | true =>
    rw [if_pos (by rw [f5, hfn])] at hlay
    have hcf : m.cls = cf := by
      obtain ⟨_, _, c', _, _, _, -, -, hf', -, -, -, hown2, -⟩ := Cond.laysFinal_spec hlay
      have e1 : c' = cf := by have := hi.symm.trans hf'; simp at this; exact this.1.symm
      have hCM : C = M.1 := by have := (hfin hfn).2; rw [f1] at this; exact Option.some.inj this
      rw [f9, hCM] at hown2
      rw [← e1]; exact Option.some.inj (hown.symm.trans hown2)
    have h6 := u_fits hfc hkC hkind (Or.inr hlay) hi hd (hv ρ X).1 (hv ρ X).2
    exact W.putFinK hx hb hown (hts _ f4) hi hst hcf (hini (hfin hfn).1) (by rw [q2]; exact h6) q1 q3 (by rw [hsl]; exact k2_hasslot (q4 k f3)) rfl rfl h fin'
theorem r_iald {i n : Nat} {f : Nat → Int32} {x : Int32} (pc' : Nat) (h : decode M.2.1 pc = .ok (.iaload, 1)) (hp : pc + 1 = pc') (hw : w[i]? = some (.inl (0, (n, .inl f)))) (hin : vp_in x n) (kk : mm_R d M scr mc ms ah al Qf kc ks pc' L (.int (f x.toNatClampNeg) :: st) w) : mm_R d M scr mc ms ah al Qf kc ks pc L (.int x :: .ref i :: st) w := by
  subst hp
  intro l p e R s m args below meth c Q D ρ X aC aV A n0 hC H locs ls hR hL
  exact va_iald hC.1 hC.2.1 hC.2.2.2.2.2.2.1 (mm_P1 (hR.1 i _ hw)) 0 0 (n := n) (f := f) rfl rfl hin h (kk l p e R s m args below meth c Q D ρ X aC aV A n0 hC H locs ls hR hL)
theorem r_bald {i n : Nat} {f : Nat → Int32} {x : Int32} (pc' : Nat) (h : decode M.2.1 pc = .ok (.baload, 1)) (hp : pc + 1 = pc') (hw : w[i]? = some (.inl (1, (n, .inl f)))) (hin : vp_in x n) (kk : mm_R d M scr mc ms ah al Qf kc ks pc' L (.int (f x.toNatClampNeg) :: st) w) : mm_R d M scr mc ms ah al Qf kc ks pc L (.int x :: .ref i :: st) w := by
  subst hp
  intro l p e R s m args below meth c Q D ρ X aC aV A n0 hC H locs ls hR hL
  exact va_bald hC.1 hC.2.1 hC.2.2.2.2.2.2.1 (mm_P1 (hR.1 i _ hw)) 0 1 (n := n) (f := f) rfl rfl hin h (kk l p e R s m args below meth c Q D ρ X aC aV A n0 hC H locs ls hR hL)
theorem r_zald {i n : Nat} {f : Nat → Int32} {x : Int32} (pc' : Nat) (h : decode M.2.1 pc = .ok (.baload, 1)) (hp : pc + 1 = pc') (hw : w[i]? = some (.inl (2, (n, .inl f)))) (hin : vp_in x n) (kk : mm_R d M scr mc ms ah al Qf kc ks pc' L (.int (f x.toNatClampNeg) :: st) w) : mm_R d M scr mc ms ah al Qf kc ks pc L (.int x :: .ref i :: st) w := by
  subst hp
  intro l p e R s m args below meth c Q D ρ X aC aV A n0 hC H locs ls hR hL
  exact va_zald hC.1 hC.2.1 hC.2.2.2.2.2.2.1 (mm_P1 (hR.1 i _ hw)) 0 2 (n := n) (f := f) rfl rfl hin h (kk l p e R s m args below meth c Q D ρ X aC aV A n0 hC H locs ls hR hL)
theorem r_aald3 {i n j : Nat} {f : Nat → Option Nat} {x : Int32} (pc' : Nat) (h : decode M.2.1 pc = .ok (.aaload, 1)) (hp : pc + 1 = pc') (hw : w[i]? = some (.inl (3, (n, .inr (.inr (.inr (.inr f))))))) (hin : vp_in x n) (hj : f x.toNatClampNeg = some j) (kk : mm_R d M scr mc ms ah al Qf kc ks pc' L (.ref j :: st) w) : mm_R d M scr mc ms ah al Qf kc ks pc L (.int x :: .ref i :: st) w := by
  subst hp
  intro l p e R s m args below meth c Q D ρ X aC aV A n0 hC H locs ls hR hL
  have k2 := kk l p e R s m args below meth c Q D ρ X aC aV A n0 hC H locs ls hR hL
  refine va_aldq hC.1 hC.2.1 hC.2.2.2.2.2.2.1 (mm_P1 (hR.1 i _ hw)) 0 3 (C := RX0) (n := n) (f := fun j => (f j).map ρ) rfl rfl hin h ?_
  rw [hj]
  exact k2
theorem r_aald4 {i n j : Nat} {f : Nat → Option Nat} {x : Int32} (pc' : Nat) (h : decode M.2.1 pc = .ok (.aaload, 1)) (hp : pc + 1 = pc') (hw : w[i]? = some (.inl (4, (n, .inr (.inr (.inr (.inr f))))))) (hin : vp_in x n) (hj : f x.toNatClampNeg = some j) (kk : mm_R d M scr mc ms ah al Qf kc ks pc' L (.ref j :: st) w) : mm_R d M scr mc ms ah al Qf kc ks pc L (.int x :: .ref i :: st) w := by
  subst hp
  intro l p e R s m args below meth c Q D ρ X aC aV A n0 hC H locs ls hR hL
  have k2 := kk l p e R s m args below meth c Q D ρ X aC aV A n0 hC H locs ls hR hL
  refine va_aldq hC.1 hC.2.1 hC.2.2.2.2.2.2.1 (mm_P1 (hR.1 i _ hw)) 0 4 (C := RX3) (n := n) (f := fun j => (f j).map ρ) rfl rfl hin h ?_
  rw [hj]
  exact k2
theorem mm_arr {cA n k : Nat} {f : Nat → Int32} {x : Int32} {v : Value} (hv : v = .int x) : (vp_cell cA (n, .inl f)).setSlot k v = vp_cell cA (n, .inl (upd f k x)) := by
  rw [vp_cell_i, vp_cell_i, arrV_store]
  congr 1
  funext q
  by_cases hq : q = k
  · subst hq
    simp [updV, upd, hv]
  · simp [updV, upd, hq]
theorem r_iast {i n : Nat} {f : Nat → Int32} {x y : Int32} (pc' : Nat) (h : decode M.2.1 pc = .ok (.iastore, 1)) (hp : pc + 1 = pc') (hw : w[i]? = some (.inl (0, (n, .inl f)))) (hin : vp_in x n) (kk : mm_R d M scr mc ms ah al Qf kc ks pc' L st (w.set i (.inl (0, (n, .inl (upd f x.toNatClampNeg y)))))) : mm_R d M scr mc ms ah al Qf kc ks pc L (.int y :: .int x :: .ref i :: st) w := by
  subst hp
  intro l p e R s m args below meth c Q D ρ X aC aV A n0 hC H locs ls hR hL
  have hK := hC.2.2.2.2.2.2.1
  have hcell : H[ρ i]? = some (vp_cell (aC 0) (n, .inl f)) := hR.1 i _ hw
  refine W.iast hC.1 hC.2.1 hcell ((hK.2 0 _ rfl).1 n (fun j => .int (f j))) (fun q => by cases q) (by show ¬ (x < 0 ∨ (arrV _ _ _).slots.size ≤ _); rw [arrV_size]; exact hin) rfl rfl h fun H1 e z oq => ?_
  refine kk l p _ R s m args below meth c Q D ρ X aC aV A n0 hC H1 _ ls (hR.upd hw ?_ z oq _) hL
  show H1[ρ i]? = some (vp_cell (aC 0) (n, .inl (upd f x.toNatClampNeg y)))
  rw [e, mm_arr rfl]
theorem r_bast {i n : Nat} {f : Nat → Int32} {x y : Int32} (pc' : Nat) (h : decode M.2.1 pc = .ok (.bastore, 1)) (hp : pc + 1 = pc') (hw : w[i]? = some (.inl (1, (n, .inl f)))) (hin : vp_in x n) (kk : mm_R d M scr mc ms ah al Qf kc ks pc' L st (w.set i (.inl (1, (n, .inl (upd f x.toNatClampNeg y.toInt8.toInt32)))))) : mm_R d M scr mc ms ah al Qf kc ks pc L (.int y :: .int x :: .ref i :: st) w := by
  subst hp
  intro l p e R s m args below meth c Q D ρ X aC aV A n0 hC H locs ls hR hL
  have hK := hC.2.2.2.2.2.2.1
  have hcell : H[ρ i]? = some (vp_cell (aC 1) (n, .inl f)) := hR.1 i _ hw
  refine W.bast hC.1 hC.2.1 hcell ((hK.2 1 _ rfl).1 n (fun j => .int (f j))) (fun q => by cases q) (by show ¬ (x < 0 ∨ (arrV _ _ _).slots.size ≤ _); rw [arrV_size]; exact hin) rfl rfl h fun H1 e z oq => ?_
  refine kk l p _ R s m args below meth c Q D ρ X aC aV A n0 hC H1 _ ls (hR.upd hw ?_ z oq _) hL
  show H1[ρ i]? = some (vp_cell (aC 1) (n, .inl (upd f x.toNatClampNeg y.toInt8.toInt32)))
  rw [e, mm_arr (narrow_byte y)]
theorem r_zast {i n : Nat} {f : Nat → Int32} {x y : Int32} (pc' : Nat) (h : decode M.2.1 pc = .ok (.bastore, 1)) (hp : pc + 1 = pc') (hw : w[i]? = some (.inl (2, (n, .inl f)))) (hin : vp_in x n) (hy : narrow .boolean (.int y) = .int y) (kk : mm_R d M scr mc ms ah al Qf kc ks pc' L st (w.set i (.inl (2, (n, .inl (upd f x.toNatClampNeg y)))))) : mm_R d M scr mc ms ah al Qf kc ks pc L (.int y :: .int x :: .ref i :: st) w := by
  subst hp
  intro l p e R s m args below meth c Q D ρ X aC aV A n0 hC H locs ls hR hL
  have hK := hC.2.2.2.2.2.2.1
  have hcell : H[ρ i]? = some (vp_cell (aC 2) (n, .inl f)) := hR.1 i _ hw
  refine W.zast hC.1 hC.2.1 hcell ((hK.2 2 _ rfl).1 n (fun j => .int (f j))) (fun q => by cases q) (by show ¬ (x < 0 ∨ (arrV _ _ _).slots.size ≤ _); rw [arrV_size]; exact hin) rfl rfl h fun H1 e z oq => ?_
  refine kk l p _ R s m args below meth c Q D ρ X aC aV A n0 hC H1 _ ls (hR.upd hw ?_ z oq _) hL
  show H1[ρ i]? = some (vp_cell (aC 2) (n, .inl (upd f x.toNatClampNeg y)))
  rw [e, mm_arr hy]
theorem mm_aast {i n t ci j : Nat} {C : String} {T : u_T} {N : Nat} {f : Nat → Option Nat} {fs : List Value} {x : Int32} (ht : ∀ aC : Nat → Nat, (mm_ty aC)[t]? = some (aC t, .object C)) (hcl : vwCl[ci]? = some (C, T, N)) (pc' : Nat) (h : decode M.2.1 pc = .ok (.aastore, 1)) (hp : pc + 1 = pc') (hw : w[i]? = some (.inl (t, (n, .inr (.inr (.inr (.inr f))))))) (hj : w[j]? = some (.inr (ci, fs))) (hin : vp_in x n) (kk : mm_R d M scr mc ms ah al Qf kc ks pc' L st (w.set i (.inl (t, (n, .inr (.inr (.inr (.inr (va_up f x.toNatClampNeg (some j)))))))))) : mm_R d M scr mc ms ah al Qf kc ks pc L (.ref j :: .int x :: .ref i :: st) w := by
  subst hp
  intro l p e R s m args below meth c Q D ρ X aC aV A n0 hC H locs ls hR hL
  have hK := hC.2.2.2.2.2.2.1
  have hcell : H[ρ i]? = some (vp_cell (aC t) (n, .inr (.inr (.inr (.inr (fun j => (f j).map ρ)))))) := hR.1 i _ hw
  have hlt : x.toNatClampNeg < n := Nat.not_le.mp fun q => hin (Or.inr q)
  have h0 : ¬ x < 0 := fun q => hin (Or.inl q)
  obtain ⟨r', hr', cellV, g1, g2, g3, -⟩ := hR.1 j _ hj
  have hcls := (hK.1 ci _ hcl).2
  obtain ⟨kA, comp, k1, k2, k3, -⟩ := (hK.2 t _ (ht aC)).2
  have hcomp : comp = D.1 ci := Option.some.inj (k3.symm.trans hcls.1)
  subst hcomp
  obtain ⟨kC, hkC, -⟩ := hcls.2
  refine W.aast hC.1 hC.2.1 hcell (fun q h => by cases h) (fun h => by cases h) k1 k2 rfl hkC ⟨h0, by show _ < (arrV _ _ _).slots.size; rw [arrV_size]; exact hlt⟩ g1 (fun q h => by rw [g3] at h; cases h) (by rw [g2]; exact hkC) (by rw [g2]; exact va_assign hcls) rfl rfl h fun H1 e z oq => ?_
  refine kk l p _ R s m args below meth c Q D ρ X aC aV A n0 hC H1 _ ls (hR.upd hw ?_ z oq _) hL
  show H1[ρ i]? = some (vp_cell (aC t) (n, .inr (.inr (.inr (.inr (fun q => (va_up f x.toNatClampNeg (some j) q).map ρ))))))
  rw [e]
  rw [vp_cell_q, vp_cell_q, arrV_store]
  congr 2
  funext q
  by_cases hq : q = x.toNatClampNeg
  · subst hq
    simp [updV, va_up, va_rf]
  · simp [updV, va_up, hq]
theorem r_sld {q : Nat × (Nat → Int32)} {x : Int32} (pc' : Nat) (h : decode M.2.1 pc = .ok (.iaload, 1)) (hp : pc + 1 = pc') (hs : scr = some q) (hin : vp_in x q.1) (kk : mm_R d M scr mc ms ah al Qf kc ks pc' L (.int (q.2 x.toNatClampNeg) :: st) w) : mm_R d M scr mc ms ah al Qf kc ks pc L (.int x :: .retAddr 0 :: st) w := by
  subst hp
  intro l p e R s m args below meth c Q D ρ X aC aV A n0 hC H locs ls hR hL
  have hX := hC.2.2.2.2.2.2.2.2.2.1
  have k2 := kk l p e R s m args below meth c Q D ρ X aC aV A n0 hC H locs ls hR hL
  rw [hs] at hX
  exact va_sld hC.1 hC.2.1 hX.1 hX.2.1 hX.2.2 hR.2.2.2.1 hin h k2
theorem r_slen {q : Nat × (Nat → Int32)} (pc' : Nat) (h : decode M.2.1 pc = .ok (.arraylength, 1)) (hp : pc + 1 = pc') (hs : scr = some q) (kk : mm_R d M scr mc ms ah al Qf kc ks pc' L (.int (Int32.ofNat q.1) :: st) w) : mm_R d M scr mc ms ah al Qf kc ks pc L (.retAddr 0 :: st) w := by
  subst hp
  intro l p e R s m args below meth c Q D ρ X aC aV A n0 hC H locs ls hR hL
  have hX := hC.2.2.2.2.2.2.2.2.2.1
  have k2 := kk l p e R s m args below meth c Q D ρ X aC aV A n0 hC H locs ls hR hL
  rw [hs] at hX
  exact va_slen hC.1 hC.2.1 hX.1 hX.2.1 hX.2.2 hR.2.2.2.1 h k2
theorem mm_Rl.push {n0 : Nat} {A : Nat → Prop} {H0 H H1 : Heap} {locs : List Loc} {ρ X aC : Nat → Nat} {D : va_G} {w : mm_W} {c : va_E} (hR : mm_Rl true n0 A H0 H locs ρ X aC D w) (hA : ∀ q, H0.size ≤ q → A q) (he : va_at D vwCl (H.size, mm_re ρ X aC c) H1) (z : H1.size = H.size + 1) (oq : ∀ q : Nat, q < H.size → H1[q]? = H[q]?) : mm_Rl true n0 A H0 H1 locs ρ X aC D (w ++ [c]) ∧ ρ w.length = H.size := by
  obtain ⟨r1, r2, r3, r4, r5, r6⟩ := hR
  obtain ⟨r7, r8, r9⟩ := r5 rfl
  have e0 : ρ w.length = H.size := by rw [r9 _ (Nat.le_refl _)]; omega
  have hlt : ∀ k : Nat, k < w.length → ρ k < H.size := fun k hk => (r1 k _ (List.getElem?_eq_getElem hk)).lt
  have hl : (w ++ [c]).length = w.length + 1 := by simp
  refine ⟨⟨fun j x hj => ?_, fun i j hi hj hij => ?_, fun k hk => ?_, ⟨by have := r4.1; omega, fun q h1 h2 => ?_, r4.2.2⟩, fun _ => ⟨by omega, by rw [hl, z]; omega, fun k hk => ?_⟩, fun z => absurd z (by decide)⟩, e0⟩
  · by_cases hjl : j < w.length
    · rw [List.getElem?_append_left hjl] at hj
      exact (r1 j x hj).kept (oq _ (hlt j hjl))
    · have hj2 : j < (w ++ [c]).length := (List.getElem?_eq_some_iff.mp hj).1
      have hjw : j = w.length := by omega
      subst hjw
      rw [List.getElem?_append_right (Nat.le_refl _), Nat.sub_self] at hj
      cases hj
      rw [e0]
      exact he
  · rw [hl] at hi hj
    by_cases h1 : i < w.length <;> by_cases h2 : j < w.length
    · exact r2 i j h1 h2 hij
    · have : j = w.length := by omega
      subst this
      have := hlt i h1
      omega
    · have : i = w.length := by omega
      subst this
      have := hlt j h2
      omega
    · omega
  · rw [hl] at hk
    by_cases h1 : k < w.length
    · exact r3 k h1
    · have : k = w.length := by omega
      subst this
      rw [e0]
      exact hA _ r4.1
  · have := r4.1
    rw [oq q (by omega)]
    exact r4.2.1 q h1 h2
  · rw [hl] at hk
    rw [r9 k (by omega), hl, z]
    omega
def mm_NC (own : String) (idx ci N : Nat) (fs : List Value) : Prop := ∃ (C : String) (T : u_T) (ty0 : Nat → FieldType), vwCl[ci]? = some (C, T, N) ∧ (∀ x ∈ u_ws C T N, x ∈ mm_tb) ∧ (∀ j, j < N → parseFieldDescriptor (T j).2.2.1 = some (ty0 j)) ∧ Cond.classLink own idx C ∈ mm_tb ∧ Cond.instantiable C N ∈ mm_tb ∧ Cond.initialized C ∈ mm_tb ∧ (∀ j, j < N → defaultValue (ty0 j) = vp_V fs j) ∧ ∀ ρ X, fs.map (mm_rv ρ X) = fs
theorem r_new {idx ci N : Nat} {fs : List Value} (pc' : Nat) (h : decode M.2.1 pc = .ok (.new idx, 3)) (hp : pc + 3 = pc') (hN : mm_NC M.1 idx ci N fs) (hc : kc + 1 ≤ mc) (hk : ks + N ≤ ms) (kk : mm_R d M scr mc ms ah true Qf (kc + 1) (ks + N) pc' L (.ref w.length :: st) (w ++ [.inr (ci, fs)])) : mm_R d M scr mc ms ah true Qf kc ks pc L st w := by
  subst hp
  intro l p e R s m args below meth c Q D ρ X aC aV A n0 hC H locs ls hR hL
  obtain ⟨C, T, ty0, f1, f2, f3, f4, f5, f6, f7, f8⟩ := hN
  obtain ⟨hx, hb, hml, hown, hts, hini, hK, hA, hEv, hsc, ⟨hr1, hr2, hr3, hr4⟩, hret⟩ := id hC
  have hKn := hK.1 ci _ f1
  refine W.newcK hx hb hown (hts _ f4) (hts _ f5) (hts _ f6) rfl h (by omega) (by omega) hKn.2.1 rfl fun H1 kC hkC e1 z1 o1 => ?_
  obtain ⟨g1, g2⟩ := hR.push (c := .inr (ci, fs)) (H1 := H1) hA ⟨_, f1, by rw [f8 ρ X]; exact (u_born ty0 hts f2 hKn hkC e1 f3).to f7⟩ z1 o1
  have := kk l p e R s m args below meth c Q D ρ X aC aV A n0 hC H1 locs ls g1 hL
  rw [← g2]
  exact this
theorem r_newa {t : Nat} {at0 : ArrayType} {ty : FieldType} {n : Int32} {N : Nat} (hty : newarray.typeOf at0 = ty) (ht : ∀ aC : Nat → Nat, (mm_ty aC)[t]? = some (aC t, ty)) (hn : ∀ (U : State) (cA : Nat), va_RA U cA ty → U.vm.findClass ("[" ++ ty.toString) = some cA) (hdf : defaultValue ty = .int 0) (hm : Cond.arrayClass ty ∈ mm_tb) (hb0 : N * componentBytes ty ≤ 536870912) (pc' : Nat) (h : decode M.2.1 pc = .ok (.newarray at0, 2)) (hp : pc + 2 = pc') (hx0 : ¬ n < 0) (hN : n.toNatClampNeg = N) (hc : kc + 1 ≤ mc) (hk : ks + N ≤ ms) (kk : mm_R d M scr mc ms ah true Qf (kc + 1) (ks + N) pc' L (.ref w.length :: st) (w ++ [.inl (t, (N, .inl (fun _ => 0)))])) : mm_R d M scr mc ms ah true Qf kc ks pc L (.int n :: st) w := by
  subst hp
  subst hty
  intro l p e R s m args below meth c Q D ρ X aC aV A n0 hC H locs ls hR hL
  obtain ⟨hx, hb, hml, hown, hts, hini, hK, hA, hEv, hsc, ⟨hr1, hr2, hr3, hr4⟩, hret⟩ := id hC
  refine va_newaK hx hb (hts _ hm) rfl h rfl hx0 hN hb0 (by omega) (by omega) rfl fun H1 cA e1 z1 o1 hAr hNm => ?_
  have hcA : cA = aC t := Option.some.inj (hNm.symm.trans (hn _ _ (hK.2 t _ (ht aC)).2))
  subst hcA
  obtain ⟨g1, g2⟩ := hR.push (c := .inl (t, (N, .inl (fun _ => 0)))) (H1 := H1) hA (by
    show H1[H.size]? = some (vp_cell (aC t) (N, .inl (fun _ => 0)))
    rw [e1, hdf]
    rfl) z1 o1
  have := kk l p e R s m args below meth c Q D ρ X aC aV A n0 hC H1 locs ls g1 hL
  rw [← g2]
  exact this
theorem r_anew {t idx : Nat} {C : String} {n : Int32} {N : Nat} (ht : ∀ aC : Nat → Nat, (mm_ty aC)[t]? = some (aC t, .object C)) (ho : ∀ (X aV : Nat → Nat) (A : Nat → Prop) (U : State) (H : Heap), mm_Ev X aV A U H → va_AO C U) (hm : Cond.classLink M.1 idx C ∈ mm_tb) (hb0 : N * 4 ≤ 536870912) (pc' : Nat) (h : decode M.2.1 pc = .ok (.anewarray idx, 3)) (hp : pc + 3 = pc') (hx0 : ¬ n < 0) (hN : n.toNatClampNeg = N) (hc : kc + 1 ≤ mc) (hk : ks + N ≤ ms) (kk : mm_R d M scr mc ms ah true Qf (kc + 1) (ks + N) pc' L (.ref w.length :: st) (w ++ [.inl (t, (N, .inr (.inr (.inr (.inr (fun _ => none))))))])) : mm_R d M scr mc ms ah true Qf kc ks pc L (.int n :: st) w := by
  subst hp
  subst hN
  intro l p e R s m args below meth c Q D ρ X aC aV A n0 hC H locs ls hR hL
  obtain ⟨hx, hb, hml, hown, hts, hini, hK, hA, hEv, hsc, ⟨hr1, hr2, hr3, hr4⟩, hret⟩ := id hC
  refine W.anew hx hb hown (hts _ hm) (va_AO.use (ho X aV A s _ hEv)) rfl h rfl hx0 hb0 (by omega) (by omega) fun cA kA comp f1 f2 f3 f4 => ?_
  generalize hH1 : H.push ({ cls := cA, slots := Array.replicate n.toNatClampNeg .null, vm := .none } : Cell) = H1
  have z1 : H1.size = H.size + 1 := by rw [← hH1, Array.size_push]
  have e1 : H1[H.size]? = some (arrV cA n.toNatClampNeg (fun _ => .null)) := by rw [← hH1, Array.getElem?_push_size, ← arrV_new]
  have o1 : ∀ q : Nat, q < H.size → H1[q]? = H[q]? := fun q hq => by rw [← hH1, Array.getElem?_push, if_neg (Nat.ne_of_lt hq)]
  obtain ⟨kA', comp', -, -, -, g4⟩ := (hK.2 t _ (ht aC)).2
  have hcA : cA = aC t := Option.some.inj (f1.symm.trans g4)
  subst hcA
  obtain ⟨g1, g2⟩ := hR.push (c := .inl (t, (n.toNatClampNeg, .inr (.inr (.inr (.inr (fun _ => none))))))) (H1 := H1) hA (by
    show H1[H.size]? = some (vp_cell (aC t) (n.toNatClampNeg, .inr (.inr (.inr (.inr (fun _ => none))))))
    rw [e1]
    rfl) z1 o1
  have := kk l p e R s m args below meth c Q D ρ X aC aV A n0 hC H1 locs ls g1 hL
  rw [← g2]
  exact this
theorem r_objInit {idx : Nat} {v : Value} (pc' : Nat) (h : decode M.2.1 pc = .ok (.invokespecial idx, 3)) (hp : pc + 3 = pc') (h1 : Cond.methodLink M.1 idx objectInit ∈ mm_tb) (h2 : Cond.instanceMethod objectInit ∈ mm_tb) (h3 : Cond.code objectInit ⟨#[0xb1]⟩ 1 none ∈ mm_tb) {i : Nat} (hd : 1 ≤ d) (hst : st = []) (kk : mm_R d M scr mc ms ah al Qf kc ks pc' L st w) : mm_R d M scr mc ms ah al Qf kc ks pc L (.ref i :: st) w := by
  subst hp
  subst hst
  intro l p e R s m args below meth c Q D ρ X aC aV A n0 hC H locs ls hR hL
  obtain ⟨hx, hb, hml, hown, hts, hini, hK, hA, hEv, hsc, ⟨hr1, hr2, hr3, hr4⟩, hret⟩ := id hC
  exact W.objInit hx hb hown (hts _ h1) (hts _ h2) (hts _ h3) (g := F0 m pc ls [.ref (ρ i)]) rfl (by rw [hml]; exact hL.1) (a := ρ i) (rest := []) rfl h (by omega) (by show 2 * 0 + 0 + 12 ≤ _; omega) (kk l p e R s m args below meth c Q D ρ X aC aV A n0 hC H locs ls hR hL)
end MMH
end
section
/-- a callee's places in the caller's world -/
def mm_sg (is : List Nat) (n k : Nat) : Nat := match is[k]? with
  | some i => i
  | none => n + (k - is.length)
def mm_bk : List Nat → mm_W → mm_W → mm_W
  | [], _, w => w
  | _ :: _, [], w => w
  | i :: is, c :: u, w => mm_bk is u (w.set i c)
def mm_back (is : List Nat) (w u : mm_W) : mm_W := mm_bk is (u.map (mm_rc (mm_sg is w.length))) w ++ (u.drop is.length).map (mm_rc (mm_sg is w.length))
theorem mm_bk_len : ∀ (is : List Nat) (u w : mm_W), (mm_bk is u w).length = w.length := by
  intro is
  induction is with
  | nil => intro u w; cases u <;> rfl
  | cons i is ih =>
    intro u w
    cases u with
    | nil => rfl
    | cons c u => rw [mm_bk, ih, List.length_set]
theorem mm_bk_get : ∀ (is : List Nat) (u w : mm_W) (k : Nat) (c : va_E), (mm_bk is u w)[k]? = some c → (∃ j : Nat, is[j]? = some k ∧ u[j]? = some c) ∨ ((∀ j : Nat, j < u.length → is[j]? ≠ some k) ∧ w[k]? = some c) := by
  intro is
  induction is with
  | nil =>
    intro u w k c h
    have h2 : w[k]? = some c := by cases u <;> exact h
    exact Or.inr ⟨fun j _ => by simp, h2⟩
  | cons i is ih =>
    intro u w k c h
    cases u with
    | nil => exact Or.inr ⟨fun j hj => absurd hj (by simp), h⟩
    | cons c0 u =>
      rw [mm_bk] at h
      rcases ih u (w.set i c0) k c h with ⟨j, h1, h2⟩ | ⟨h1, h2⟩
      · exact Or.inl ⟨j + 1, by simpa using h1, by simpa using h2⟩
      · by_cases hk : k = i
        · subst hk
          have hl : k < (w.set k c0).length := (List.getElem?_eq_some_iff.mp h2).1
          rw [List.length_set] at hl
          rw [List.getElem?_set_self hl] at h2
          cases h2
          exact Or.inl ⟨0, rfl, rfl⟩
        · rw [List.getElem?_set_ne (Ne.symm hk)] at h2
          refine Or.inr ⟨fun j hj => ?_, h2⟩
          cases j with
          | zero => simp; exact fun e => hk e.symm
          | succ j => simpa using h1 j (by simpa using hj)
theorem mm_set_same {w : mm_W} {i : Nat} {c : va_E} (h : w[i]? = some c) : w.set i c = w := by
  have hl := (List.getElem?_eq_some_iff.mp h).1
  apply List.ext_getElem?
  intro k
  by_cases hk : k = i
  · subst hk
    rw [List.getElem?_set_self hl, h]
  · rw [List.getElem?_set_ne (Ne.symm hk)]
theorem mm_bk_same : ∀ (is : List Nat) (u w : mm_W), is.map (fun i => w[i]?) = u.map some → mm_bk is u w = w := by
  intro is
  induction is with
  | nil => intro u w _; cases u <;> rfl
  | cons i is ih =>
    intro u w h
    cases u with
    | nil => rfl
    | cons c u =>
      simp only [List.map_cons, List.cons.injEq] at h
      rw [mm_bk, mm_set_same h.1]
      exact ih u w h.2
theorem mm_back_same {is : List Nat} {w u : mm_W} (h : is.map (fun i => w[i]?) = u.map (fun c => some (mm_rc (mm_sg is w.length) c))) : mm_back is w u = w := by
  have h1 : is.map (fun i => w[i]?) = (u.map (mm_rc (mm_sg is w.length))).map some := by rw [h, List.map_map]; rfl
  have h2 : is.length = u.length := by have := congrArg List.length h; simpa using this
  rw [mm_back, mm_bk_same is _ w h1, h2]
  simp
section MMC
variable {p : Program} {l : Launch} {e : Env} {R : Room} {s : State} {m : MethodId} {args : Array Value} {below : List Frame} {meth : Method} {c : Code} {H : Heap} {locs : List Loc} {Q : State → Prop}
variable {D : va_G} {ρ X aC aV : Nat → Nat} {A : Nat → Prop} {n0 kc ks mc' ms' pc : Nat} {al : Bool} {w w0 : mm_W} {ls : Array Slot} {st0 rest : List Value} {Q0 : Option Value → mm_W → Prop} {a : Array Value}
theorem mm_subAt {is : List Nat} (hsub : is.map (fun i => w[i]?) = w0.map (fun c => some (mm_rc (mm_sg is w.length) c))) : is.length = w0.length ∧ ∀ (j : Nat) (cj : va_E), w0[j]? = some cj → ∃ i, is[j]? = some i ∧ mm_sg is w.length j = i ∧ w[i]? = some (mm_rc (mm_sg is w.length) cj) := by
  refine ⟨by have := congrArg List.length hsub; simpa using this, fun j cj hj => ?_⟩
  have h1 : (is.map (fun i => w[i]?))[j]? = some (some (mm_rc (mm_sg is w.length) cj)) := by rw [hsub, List.getElem?_map, hj]; rfl
  rw [List.getElem?_map] at h1
  cases hi : is[j]? with
  | none => rw [hi] at h1; cases h1
  | some i =>
    rw [hi] at h1
    exact ⟨i, rfl, by simp [mm_sg, hi], Option.some.inj h1⟩
set_option maxHeartbeats 1000000 in
theorem mm_callW {is : List Nat} (hsub : is.map (fun i => w[i]?) = w0.map (fun c => some (mm_rc (mm_sg is w.length) c)))
    (hr : va_Run p l e R s m args below meth c H locs kc ks mc' ms' (F0 m pc ls st0) rest (mm_Qc al Q0 (fun k => ρ (mm_sg is w.length k)) X aC D w0.length H.size a) (mm_A (fun k => ρ (mm_sg is w.length k)) w0.length H.size))
    (hR : mm_Rl al n0 A s.heap H locs ρ X aC D w) (hA : ∀ q, s.heap.size ≤ q → A q)
    (kk : ∀ (v : Option Value) (u : mm_W) (H1 : Heap) (locs1 : List Loc), Q0 v u → mm_Rl al n0 A s.heap H1 locs1 ρ X aC D (mm_back is w u) → W p l e R s m args below meth c H1 locs1 (kc + mc') (ks + ms') Q (F0 m (pc + 3) ls ((v.map (mm_rv (fun k => ρ (mm_sg is w.length k)) X)).toList ++ rest))) :
    W p l e R s m args below meth c H locs kc ks Q (F0 m pc ls st0) := by
  intro T hT X1
  obtain ⟨v', st₀, t, T', Lc, h0, X', hL, e1, e2, ⟨⟨v, u, hv, hq, hPu, hal, hna⟩, hz, hk⟩, stp⟩ := hr T hT X1
  have hv : v' = v.map (mm_rv (fun k => ρ (mm_sg is w.length k)) X) := Outcome.returned.inj hv
  subst hv
  rw [h0] at hz hk
  rw [← e1] at hPu hal hz hk
  obtain ⟨r1, r2, r3, r4, r5, r6⟩ := hR
  obtain ⟨hlen, hat⟩ := mm_subAt hsub
  have hisl : ∀ (j i : Nat), is[j]? = some i → i < w.length := by
    intro j i hj
    have hjl : j < w0.length := by rw [← hlen]; exact (List.getElem?_eq_some_iff.mp hj).1
    obtain ⟨i', h1, h2, h3⟩ := hat j _ (List.getElem?_eq_getElem hjl)
    rw [hj] at h1
    cases h1
    exact (List.getElem?_eq_some_iff.mp h3).1
  have hsg : ∀ (j i : Nat), is[j]? = some i → mm_sg is w.length j = i := fun j i h => by simp [mm_sg, h]
  have hul : w0.length ≤ u.length := by
    cases hb : al with
    | true => exact (hal hb).1
    | false => exact Nat.le_of_eq (hna hb).symm
  have hAA : ∀ q, mm_A (fun k => ρ (mm_sg is w.length k)) w0.length H.size q → A q := by
    intro q hq
    rcases hq with ⟨j, hj, rfl⟩ | hq
    · have hj2 : j < is.length := by rw [hlen]; exact hj
      show A (ρ (mm_sg is w.length j))
      rw [hsg j _ (List.getElem?_eq_getElem hj2)]
      exact r3 _ (hisl j _ (List.getElem?_eq_getElem hj2))
    · exact hA q (Nat.le_trans r4.1 hq)
  have hbl : (mm_back is w u).length = w.length + (u.length - is.length) := by simp [mm_back, mm_bk_len]
  have hlt : ∀ k : Nat, k < w.length → ρ k < H.size := fun k hk => (r1 k _ (List.getElem?_eq_getElem hk)).lt
  have hnew : ∀ k : Nat, w.length ≤ k → k < (mm_back is w u).length → al = true := by
    intro k h1 h2
    cases hb : al with
    | true => rfl
    | false =>
      have := hna hb
      omega
  have main : mm_Rl al n0 A s.heap T'.heap (locs ++ Lc) ρ X aC D (mm_back is w u) := by
    refine ⟨fun k x hx => ?_, fun i j hi hj hij => ?_, fun k hk1 => ?_, ⟨Nat.le_trans r4.1 hz, fun q h1 h2 => ?_, fun q hq1 => ?_⟩, fun hb => ?_, fun hb => ?_⟩
    · by_cases hkl : k < w.length
      · have hx2 : (mm_bk is (u.map (mm_rc (mm_sg is w.length))) w)[k]? = some x := by
          rw [mm_back, List.getElem?_append_left (by rw [mm_bk_len]; exact hkl)] at hx
          exact hx
        rcases mm_bk_get _ _ _ _ _ hx2 with ⟨j, g1, g2⟩ | ⟨g1, g2⟩
        · rw [List.getElem?_map] at g2
          cases hu : u[j]? with
          | none => rw [hu] at g2; cases g2
          | some cu =>
            rw [hu] at g2
            cases g2
            have g3 := hPu j cu hu
            simp only [hsg j k g1] at g3
            rw [mm_re_rc]
            exact g3
        · refine (r1 k x g2).kept (hk _ (hlt k hkl) ?_)
          rintro (⟨j, hj, hjk⟩ | hge)
          · have hj2 : j < is.length := by rw [hlen]; exact hj
            have hjk : ρ k = ρ (mm_sg is w.length j) := hjk
            rw [hsg j _ (List.getElem?_eq_getElem hj2)] at hjk
            have := r2 _ _ hkl (hisl j _ (List.getElem?_eq_getElem hj2)) hjk
            refine g1 j (by rw [List.length_map]; omega) ?_
            rw [List.getElem?_eq_getElem hj2, ← this]
          · have := hlt k hkl
            exact absurd hge (by show ¬ H.size ≤ ρ k; omega)
      · have hk2 : k < (mm_back is w u).length := (List.getElem?_eq_some_iff.mp hx).1
        have hb := hnew k (by omega) hk2
        rw [mm_back, List.getElem?_append_right (by rw [mm_bk_len]; omega), mm_bk_len, List.getElem?_map, List.getElem?_drop] at hx
        cases hu : u[is.length + (k - w.length)]? with
        | none => rw [hu] at hx; cases hx
        | some cu =>
          rw [hu] at hx
          cases hx
          have g3 := hPu _ cu hu
          have g4 : mm_sg is w.length (is.length + (k - w.length)) = k := by
            have : is[is.length + (k - w.length)]? = none := List.getElem?_eq_none (by omega)
            simp only [mm_sg, this]
            omega
          simp only [g4] at g3
          rw [mm_re_rc]
          exact g3
    · by_cases h1 : i < w.length <;> by_cases h2 : j < w.length
      · exact r2 i j h1 h2 hij
      · have hb := hnew j (by omega) hj
        have g1 := (r5 hb).2.2 j (by omega)
        have g2 := hlt i h1
        omega
      · have hb := hnew i (by omega) hi
        have g1 := (r5 hb).2.2 i (by omega)
        have g2 := hlt j h2
        omega
      · have hb := hnew j (by omega) hj
        have g1 := (r5 hb).2.2 j (by omega)
        have g2 := (r5 hb).2.2 i (by omega)
        omega
    · by_cases h1 : k < w.length
      · exact r3 k h1
      · have hb := hnew k (by omega) hk1
        have g1 := (r5 hb).2.2 k (by omega)
        exact hA _ (by have := r4.1; omega)
    · have hq1 : q < H.size := Nat.lt_of_lt_of_le h1 r4.1
      rw [hk q hq1 (fun z => h2 (hAA q z))]
      exact r4.2.1 q h1 h2
    · rcases List.mem_append.mp hq1 with h | h
      · exact r4.2.2 q h
      · exact hAA _ (hL q h)
    · obtain ⟨g1, g2, g3⟩ := r5 hb
      obtain ⟨g4, g5⟩ := hal hb
      refine ⟨by omega, by omega, fun k hk1 => ?_⟩
      rw [g3 k (by omega)]
      omega
    · have g1 := r6 hb
      have g2 := hna hb
      omega
  obtain ⟨t2, a1, b1⟩ := kk v u T'.heap (locs ++ Lc) hq main T' rfl X'
  exact ⟨t2, stp t2 a1, b1⟩
end MMC
def mm_Yk (y : MethodName) (M' : mm_M) (n : Nat) : Prop := Cond.code y M'.2.1 M'.2.2.1 M'.2.2.2.2 ∈ mm_tb ∧ Cond.initialized y.cls ∈ mm_tb ∧ (y.cls ≠ "java/lang/invoke/MethodHandle" ∧ y.cls ≠ "java/lang/invoke/VarHandle" ∧ (parseMethodDescriptor y.desc).map (fun d => d.parameters.length) = some n) ∧ M'.2.2.1 ≤ 15
section MMD
variable {d : Nat} {M : mm_M} {scr : Option (Nat × (Nat → Int32))} {mc ms : Nat} {ah al : Bool} {Qf : Option Value → mm_W → Prop} {kc ks pc : Nat} {L : List (Option Value)} {st : List Value} {w : mm_W}
variable {idx n : Nat} {y : MethodName} {M' : mm_M} {As0 : List Value} {r0 : Nat} {w0 : mm_W} {mc' ms' : Nat} {Q0 : Option Value → mm_W → Prop} {rest : List Value}
theorem mm_pre {p : Program} {l : Launch} {e : Env} {R : Room} {s : State} {m : MethodId} {args : Array Value} {below : List Frame} {meth : Method} {c : Code} {Q : State → Prop} {D : va_G} {ρ X aC aV : Nat → Nat} {A : Nat → Prop} {n0 : Nat} {H : Heap} {locs : List Loc} {is : List Nat}
    (hC : mm_Cx d M scr mc ms ah Qf l p e R s m args below meth c Q D ρ X aC aV A n0) (hR : mm_Rl al n0 A s.heap H locs ρ X aC D w) (hsub : is.map (fun i => w[i]?) = w0.map (fun c => some (mm_rc (mm_sg is w.length) c))) (Bs : List Value) :
    ∀ U : State, U.heap = H → s.WarmedH U.vm → mm_Pc (fun k => ρ (mm_sg is w.length k)) X aC aV D Bs w0 H.size ((Bs.map (mm_rv (fun k => ρ (mm_sg is w.length k)) X)).toArray) U := by
  intro U hU hW
  obtain ⟨hx, hb, hml, hown, hts, hini, hK, hA, hEv, hsc, hrm, hret⟩ := hC
  obtain ⟨r1, r2, r3, r4, r5, r6⟩ := hR
  obtain ⟨hlen, hat⟩ := mm_subAt hsub
  refine ⟨rfl, by rw [hU], fun k ck hk => ?_, va_K.moved hW.alike hK, ?_⟩
  · obtain ⟨i, h1, h2, h3⟩ := hat k ck hk
    have := r1 i _ h3
    rw [mm_re_rc] at this
    show va_at D vwCl (ρ (mm_sg is w.length k), _) U.heap
    rw [h2, hU]
    exact this
  · rw [hU]
    refine ((hEv.kept r4.2.1).narrow ?_).warm hW
    intro q hq
    rcases hq with ⟨j, hj, rfl⟩ | hq
    · obtain ⟨i, h1, h2, h3⟩ := hat j _ (List.getElem?_eq_getElem hj)
      show A (ρ (mm_sg is w.length j))
      rw [h2]
      exact r3 i (List.getElem?_eq_some_iff.mp h3).1
    · exact hA q (Nat.le_trans r4.1 hq)
theorem mm_inj {A : Nat → Prop} {H0 H : Heap} {locs : List Loc} {ρ X aC : Nat → Nat} {D : va_G} {n0 : Nat} {is : List Nat} (hR : mm_Rl al n0 A H0 H locs ρ X aC D w) (hnd : va_nd is = true) (hsub : is.map (fun i => w[i]?) = w0.map (fun c => some (mm_rc (mm_sg is w.length) c))) :
    (al = true → ∀ k : Nat, w0.length ≤ k → ρ (mm_sg is w.length k) = H.size + (k - w0.length)) ∧ (∀ i j : Nat, i < w0.length → j < w0.length → ρ (mm_sg is w.length i) = ρ (mm_sg is w.length j) → i = j) := by
  obtain ⟨hlen, hat⟩ := mm_subAt hsub
  refine ⟨fun hb k hk => ?_, fun i j hi hj hij => ?_⟩
  · have : is[k]? = none := List.getElem?_eq_none (by omega)
    simp only [mm_sg, this]
    rw [(hR.2.2.2.2.1 hb).2.2 _ (by omega)]
    omega
  · obtain ⟨i', a1, a2, a3⟩ := hat i _ (List.getElem?_eq_getElem hi)
    obtain ⟨j', b1, b2, b3⟩ := hat j _ (List.getElem?_eq_getElem hj)
    rw [a2, b2] at hij
    have := hR.2.1 _ _ (List.getElem?_eq_some_iff.mp a3).1 (List.getElem?_eq_some_iff.mp b3).1 hij
    subst this
    exact va_nd_inj is hnd i j i' a1 b1
theorem mm_mapsg {ρ X σ : Nat → Nat} (Bs : List Value) : Bs.map (mm_rv (fun k => ρ (σ k)) X) = (Bs.map (mm_rn σ)).map (mm_rv ρ X) := by
  rw [List.map_map]
  congr 1
  funext v
  exact (mm_rv_rn ρ X σ v).symm
theorem mm_catsum {ρ X : Nat → Nat} (vs : List Value) : ((vs.map (mm_rv ρ X)).map fun v => v.category) = vs.map fun v => v.category := by
  rw [List.map_map]
  congr 1
  funext v
  exact mm_rv_cat ρ X v
theorem mm_retv {ρ X σ : Nat → Nat} (v : Option Value) (rest : List Value) : (v.map (mm_rv (fun k => ρ (σ k)) X)).toList ++ rest.map (mm_rv ρ X) = ((v.map (mm_rn σ)).toList ++ rest).map (mm_rv ρ X) := by
  cases v with
  | none => rfl
  | some v => simp [mm_rv_rn]
def mm_LkV (own : String) (idx : Nat) (y : MethodName) : Prop := (Cond.methodLink own idx y ∈ mm_tb ∨ ∃ host, (own, idx, y, host) ∈ mm_nl) ∧ Cond.instanceMethod y ∈ mm_tb ∧ Cond.selects y.cls y y ∈ mm_tb
def mm_LkS (own : String) (idx : Nat) (y : MethodName) : Prop := (Cond.methodLink own idx y ∈ mm_tb ∨ ∃ host, (own, idx, y, host) ∈ mm_nl) ∧ Cond.static y ∈ mm_tb
def mm_LkI (own : String) (idx : Nat) (y : MethodName) : Prop := (Cond.methodLink own idx y ∈ mm_tb ∨ ∃ host, (own, idx, y, host) ∈ mm_nl) ∧ Cond.instanceMethod y ∈ mm_tb ∧ y.name = "<init>"
set_option maxHeartbeats 1000000 in
theorem r_callV (is : List Nat) (pc' : Nat) (h : decode M.2.1 pc = .ok (.invokevirtual idx, 3)) (hp : pc + 3 = pc') (hy : mm_Yk y M' n) (hlk : mm_LkV M.1 idx y) (hE : mm_E al d y M' (.ref r0 :: As0) w0 mc' ms' Q0) (hn : As0.length = n) (hnd : va_nd is = true) (hsub : is.map (fun i => w[i]?) = w0.map (fun c => some (mm_rc (mm_sg is w.length) c))) {ci : Nat} {fs : List Value} {T : u_T} {N : Nat} (hrc : w0[r0]? = some (.inr (ci, fs))) (hcl : vwCl[ci]? = some (y.cls, T, N))
    (hst : st = (As0.map (mm_rn (mm_sg is w.length))).reverse ++ .ref (mm_sg is w.length r0) :: rest) (hcat : (rest.map fun v => v.category).sum ≤ 8) (hc : kc + mc' ≤ mc) (hk : ks + ms' ≤ ms) (kk : ∀ v u, Q0 v u → mm_R (d + 1) M scr mc ms ah al Qf (kc + mc') (ks + ms') pc' L ((v.map (mm_rn (mm_sg is w.length))).toList ++ rest) (mm_back is w u)) : mm_R (d + 1) M scr mc ms ah al Qf kc ks pc L st w := by
  subst hp
  subst hst
  intro l p e R s m args below meth c Q D ρ X aC aV A n0 hC H locs ls hR hL
  obtain ⟨hx, hb, hml, hown, hts, hini, hK, hA, hEv, hsc, ⟨hr1, hr2, hr3, hr4⟩, hret⟩ := id hC
  obtain ⟨y1, y2, y3, y4⟩ := hy
  obtain ⟨i1, i2⟩ := mm_inj hR hnd hsub
  have hM := hE l D (fun k => ρ (mm_sg is w.length k)) X aC aV H.size i1 i2
  obtain ⟨hlen, hat⟩ := mm_subAt hsub
  have hpre : PreV s H y.cls (ρ (mm_sg is w.length r0)) (mm_Pc (fun k => ρ (mm_sg is w.length k)) X aC aV D (.ref r0 :: As0) w0 H.size) (As0.map (mm_rv (fun k => ρ (mm_sg is w.length k)) X)) := by
    refine ⟨mm_blind _ _ _ _ _ _ _ _, ?_, mm_pre hC hR hsub (.ref r0 :: As0)⟩
    obtain ⟨i, h1, h2, h3⟩ := hat r0 _ hrc
    have := hR.1 i _ h3
    rw [mm_re_rc] at this
    rw [h2]
    exact va_recv hK (mm_P1 this) hcl (q0 := 0) rfl
  have hrun : va_Run p l e R s m args below meth c H locs kc ks mc' ms' (F0 m pc ls (((As0.map (mm_rn (mm_sg is w.length))).reverse ++ .ref (mm_sg is w.length r0) :: rest).map (mm_rv ρ X))) (rest.map (mm_rv ρ X)) (mm_Qc al Q0 (fun k => ρ (mm_sg is w.length k)) X aC D w0.length H.size (Value.ref (ρ (mm_sg is w.length r0)) :: As0.map (mm_rv (fun k => ρ (mm_sg is w.length k)) X)).toArray) (mm_A (fun k => ρ (mm_sg is w.length k)) w0.length H.size) := by
    have hstk : ((As0.map (mm_rn (mm_sg is w.length))).reverse ++ .ref (mm_sg is w.length r0) :: rest).map (mm_rv ρ X) = (As0.map (mm_rv (fun k => ρ (mm_sg is w.length k)) X)).reverse ++ .ref (ρ (mm_sg is w.length r0)) :: rest.map (mm_rv ρ X) := by
      rw [mm_mapsg (ρ := ρ) (X := X) (σ := mm_sg is w.length) As0, List.map_append, List.map_reverse]
      rfl
    rcases hlk with ⟨hl | ⟨host, hl⟩, k1, k2⟩
    · exact va_runV (Ts := mm_tb) ⟨hx, hb, hml, hown, hts⟩ hM ⟨callB_of n hts (mm_goodIn y1) rfl rfl rfl (hts _ y2) (hts _ hl) y3 ⟨hr1, by show 8 + (M'.2.2.1 + 11) + 34 * d ≤ R.locals; omega⟩, hts _ k1, hts _ k2⟩ hpre rfl (by rw [List.length_map]; exact hn) hL.1 hstk (lv_room (by rw [mm_catsum]; exact hcat)) h ⟨by omega, by omega⟩
    · exact va_runVN (Ts := mm_tb) (host := host) ⟨hx, hb, hml, hown, hts⟩ hM ⟨va_cnB n hts (mm_goodIn y1) rfl rfl rfl (hEv.1 _ hl) (hts _ y2) y3 ⟨hr1, by show 8 + (M'.2.2.1 + 11) + 34 * d ≤ R.locals; omega⟩, hts _ k1, hts _ k2⟩ hpre rfl (by rw [List.length_map]; exact hn) hL.1 hstk (lv_room (by rw [mm_catsum]; exact hcat)) h ⟨by omega, by omega⟩
  refine mm_callW hsub hrun hR hA (fun v u H1 locs1 hq hR1 => ?_)
  rw [mm_retv]
  exact kk v u hq l p e R s m args below meth c Q D ρ X aC aV A n0 hC H1 locs1 ls hR1 hL
set_option maxHeartbeats 1000000 in
theorem r_callS (is : List Nat) (pc' : Nat) (h : decode M.2.1 pc = .ok (.invokestatic idx, 3)) (hp : pc + 3 = pc') (hy : mm_Yk y M' n) (hlk : mm_LkS M.1 idx y) (hE : mm_E al d y M' As0 w0 mc' ms' Q0) (hn : As0.length = n) (hnd : va_nd is = true) (hsub : is.map (fun i => w[i]?) = w0.map (fun c => some (mm_rc (mm_sg is w.length) c)))
    (hst : st = (As0.map (mm_rn (mm_sg is w.length))).reverse ++ rest) (hcat : (rest.map fun v => v.category).sum ≤ 8) (hc : kc + mc' ≤ mc) (hk : ks + ms' ≤ ms) (kk : ∀ v u, Q0 v u → mm_R (d + 1) M scr mc ms ah al Qf (kc + mc') (ks + ms') pc' L ((v.map (mm_rn (mm_sg is w.length))).toList ++ rest) (mm_back is w u)) : mm_R (d + 1) M scr mc ms ah al Qf kc ks pc L st w := by
  subst hp
  subst hst
  intro l p e R s m args below meth c Q D ρ X aC aV A n0 hC H locs ls hR hL
  obtain ⟨hx, hb, hml, hown, hts, hini, hK, hA, hEv, hsc, ⟨hr1, hr2, hr3, hr4⟩, hret⟩ := id hC
  obtain ⟨y1, y2, y3, y4⟩ := hy
  obtain ⟨i1, i2⟩ := mm_inj hR hnd hsub
  have hM := hE l D (fun k => ρ (mm_sg is w.length k)) X aC aV H.size i1 i2
  have hpre : PreS s H (mm_Pc (fun k => ρ (mm_sg is w.length k)) X aC aV D As0 w0 H.size) (As0.map (mm_rv (fun k => ρ (mm_sg is w.length k)) X)) := ⟨mm_blind _ _ _ _ _ _ _ _, mm_pre hC hR hsub As0⟩
  have hrun : va_Run p l e R s m args below meth c H locs kc ks mc' ms' (F0 m pc ls (((As0.map (mm_rn (mm_sg is w.length))).reverse ++ rest).map (mm_rv ρ X))) (rest.map (mm_rv ρ X)) (mm_Qc al Q0 (fun k => ρ (mm_sg is w.length k)) X aC D w0.length H.size (As0.map (mm_rv (fun k => ρ (mm_sg is w.length k)) X)).toArray) (mm_A (fun k => ρ (mm_sg is w.length k)) w0.length H.size) := by
    have hstk : ((As0.map (mm_rn (mm_sg is w.length))).reverse ++ rest).map (mm_rv ρ X) = (As0.map (mm_rv (fun k => ρ (mm_sg is w.length k)) X)).reverse ++ rest.map (mm_rv ρ X) := by
      rw [mm_mapsg (ρ := ρ) (X := X) (σ := mm_sg is w.length) As0, List.map_append, List.map_reverse]
    rcases hlk with ⟨hl | ⟨host, hl⟩, k1⟩
    · exact va_runS (Ts := mm_tb) ⟨hx, hb, hml, hown, hts⟩ hM ⟨callB_of n hts (mm_goodIn y1) rfl rfl rfl (hts _ y2) (hts _ hl) y3 ⟨hr1, by show 8 + (M'.2.2.1 + 11) + 34 * d ≤ R.locals; omega⟩, hts _ k1⟩ hpre rfl (by rw [List.length_map]; exact hn) hL.1 hstk (lv_room (by rw [mm_catsum]; exact hcat)) h ⟨by omega, by omega⟩
    · exact va_runSN (Ts := mm_tb) (host := host) ⟨hx, hb, hml, hown, hts⟩ hM ⟨va_cnB n hts (mm_goodIn y1) rfl rfl rfl (hEv.1 _ hl) (hts _ y2) y3 ⟨hr1, by show 8 + (M'.2.2.1 + 11) + 34 * d ≤ R.locals; omega⟩, hts _ k1, trivial⟩ hpre rfl (by rw [List.length_map]; exact hn) hL.1 hstk (lv_room (by rw [mm_catsum]; exact hcat)) h ⟨by omega, by omega⟩
  refine mm_callW hsub hrun hR hA (fun v u H1 locs1 hq hR1 => ?_)
  rw [mm_retv]
  exact kk v u hq l p e R s m args below meth c Q D ρ X aC aV A n0 hC H1 locs1 ls hR1 hL
set_option maxHeartbeats 1000000 in
theorem r_callI (is : List Nat) (pc' : Nat) (h : decode M.2.1 pc = .ok (.invokespecial idx, 3)) (hp : pc + 3 = pc') (hy : mm_Yk y M' n) (hlk : mm_LkI M.1 idx y) (hrt : M'.2.2.2.2 = none) (hE : mm_E al d y M' (.ref r0 :: As0) w0 mc' ms' Q0) (hn : As0.length = n) (hnd : va_nd is = true) (hsub : is.map (fun i => w[i]?) = w0.map (fun c => some (mm_rc (mm_sg is w.length) c)))
    (hst : st = (As0.map (mm_rn (mm_sg is w.length))).reverse ++ .ref (mm_sg is w.length r0) :: rest) (hcat : (rest.map fun v => v.category).sum ≤ 8) (hc : kc + mc' ≤ mc) (hk : ks + ms' ≤ ms) (kk : ∀ v u, Q0 v u → mm_R (d + 1) M scr mc ms ah al Qf (kc + mc') (ks + ms') pc' L ((v.map (mm_rn (mm_sg is w.length))).toList ++ rest) (mm_back is w u)) : mm_R (d + 1) M scr mc ms ah al Qf kc ks pc L st w := by
  subst hp
  subst hst
  intro l p e R s m args below meth c Q D ρ X aC aV A n0 hC H locs ls hR hL
  obtain ⟨hx, hb, hml, hown, hts, hini, hK, hA, hEv, hsc, ⟨hr1, hr2, hr3, hr4⟩, hret⟩ := id hC
  obtain ⟨y1, y2, y3, y4⟩ := hy
  obtain ⟨i1, i2⟩ := mm_inj hR hnd hsub
  have hM := hE l D (fun k => ρ (mm_sg is w.length k)) X aC aV H.size i1 i2
  rw [hrt] at hM y1
  have hpre : PreS s H (mm_Pc (fun k => ρ (mm_sg is w.length k)) X aC aV D (.ref r0 :: As0) w0 H.size) (.ref (ρ (mm_sg is w.length r0)) :: As0.map (mm_rv (fun k => ρ (mm_sg is w.length k)) X)) := ⟨mm_blind _ _ _ _ _ _ _ _, mm_pre hC hR hsub (.ref r0 :: As0)⟩
  have hrun : va_Run p l e R s m args below meth c H locs kc ks mc' ms' (F0 m pc ls (((As0.map (mm_rn (mm_sg is w.length))).reverse ++ .ref (mm_sg is w.length r0) :: rest).map (mm_rv ρ X))) (rest.map (mm_rv ρ X)) (mm_Qc al Q0 (fun k => ρ (mm_sg is w.length k)) X aC D w0.length H.size (Value.ref (ρ (mm_sg is w.length r0)) :: As0.map (mm_rv (fun k => ρ (mm_sg is w.length k)) X)).toArray) (mm_A (fun k => ρ (mm_sg is w.length k)) w0.length H.size) := by
    have hstk : ((As0.map (mm_rn (mm_sg is w.length))).reverse ++ .ref (mm_sg is w.length r0) :: rest).map (mm_rv ρ X) = (As0.map (mm_rv (fun k => ρ (mm_sg is w.length k)) X)).reverse ++ .ref (ρ (mm_sg is w.length r0)) :: rest.map (mm_rv ρ X) := by
      rw [mm_mapsg (ρ := ρ) (X := X) (σ := mm_sg is w.length) As0, List.map_append, List.map_reverse]
      rfl
    rcases hlk with ⟨hl | ⟨host, hl⟩, k1, k2⟩
    · exact va_runI (Ts := mm_tb) ⟨hx, hb, hml, hown, hts⟩ hM ⟨callB_of n hts (mm_goodIn y1) rfl rfl rfl (hts _ y2) (hts _ hl) y3 ⟨hr1, by show 8 + (M'.2.2.1 + 11) + 34 * d ≤ R.locals; omega⟩, k2, hts _ k1⟩ hpre rfl (by rw [List.length_map]; exact hn) hL.1 hstk (lv_room (by rw [mm_catsum]; exact hcat)) h ⟨by omega, by omega⟩
    · exact va_runIN (Ts := mm_tb) (host := host) ⟨hx, hb, hml, hown, hts⟩ hM ⟨va_cnB n hts (mm_goodIn y1) rfl rfl rfl (hEv.1 _ hl) (hts _ y2) y3 ⟨hr1, by show 8 + (M'.2.2.1 + 11) + 34 * d ≤ R.locals; omega⟩, k2, hts _ k1⟩ hpre rfl (by rw [List.length_map]; exact hn) hL.1 hstk (lv_room (by rw [mm_catsum]; exact hcat)) h ⟨by omega, by omega⟩
  refine mm_callW hsub hrun hR hA (fun v u H1 locs1 hq hR1 => ?_)
  rw [mm_retv]
  exact kk v u hq l p e R s m args below meth c Q D ρ X aC aV A n0 hC H1 locs1 ls hR1 hL
end MMD
end
section
abbrev mX7_init : mm_M := (RX7, cX7_init, 2, true, none)
abbrev mX0_init : mm_M := (RX0, cX0_init, 1, true, none)
abbrev mX1_init : mm_M := (RX1, cX1_init, 1, true, none)
abbrev mX6_init : mm_M := (RX6, cX6_init, 1, true, none)
abbrev mX4_init : mm_M := (RX4, cX4_init, 1, true, none)
abbrev mX2_init : mm_M := (RX2, cX2_init, 1, true, none)
abbrev mX5_init : mm_M := (RX5, cX5_init, 1, true, none)
abbrev mX3_init : mm_M := (RX3, cX3_init, 1, true, none)
abbrev mX7_feed : mm_M := (RX7, cX7_feed, 2, false, (some .int))
abbrev mX6_put : mm_M := (RX6, cX6_put, 2, false, none)
abbrev mX7_end : mm_M := (RX7, cX7_end, 3, false, (some .int))
abbrev mX7_text : mm_M := (RX7, cX7_text, 2, false, (some .int))
abbrev mX1_readAll : mm_M := (RX1, cX1_readAll, 1, false, none)
abbrev mX0_clear : mm_M := (RX0, cX0_clear, 1, false, none)
abbrev mX6_rewind : mm_M := (RX6, cX6_rewind, 1, false, none)
abbrev mX1_readLine : mm_M := (RX1, cX1_readLine, 2, false, (some .boolean))
abbrev mX1_takeToken : mm_M := (RX1, cX1_takeToken, 1, false, none)
abbrev mX6_readToken : mm_M := (RX6, cX6_readToken, 1, false, none)
abbrev mX6_sortAt : mm_M := (RX6, cX6_sortAt, 3, false, (some .int))
abbrev mX1_failIf : mm_M := (RX1, cX1_failIf, 3, false, none)
abbrev mX1_wordRead : mm_M := (RX1, cX1_wordRead, 1, false, (some .int))
abbrev mX6_tokenIs : mm_M := (RX6, cX6_tokenIs, 3, false, (some .boolean))
abbrev mJ0_length_8abf5 : mm_M := (RJ0, cJ0_length_8abf5, 1, false, (some .int))
abbrev mJ0_coder_7d493 : mm_M := (RJ0, cJ0_coder_7d493, 1, false, (some .byte))
abbrev mJ0_charAt_5068e : mm_M := (RJ0, cJ0_charAt_5068e, 2, false, (some .char))
abbrev mJ0_isLatin1_aae02 : mm_M := (RJ0, cJ0_isLatin1_aae02, 1, false, (some .boolean))
abbrev mJ1_charAt_3b067 : mm_M := (RJ1, cJ1_charAt_3b067, 2, false, (some .char))
abbrev mJ0_checkIndex_df160 : mm_M := (RJ0, cJ0_checkIndex_df160, 2, false, none)
abbrev mJ3_checkIndex_8e157 : mm_M := (RJ3, cJ3_checkIndex_8e157, 3, false, (some .int))
abbrev mJ2_charAt_3b067 : mm_M := (RJ2, cJ2_charAt_3b067, 2, false, (some .char))
abbrev mJ2_checkIndex_2214a : mm_M := (RJ2, cJ2_checkIndex_2214a, 2, false, none)
abbrev mJ2_length_9d52b : mm_M := (RJ2, cJ2_length_9d52b, 1, false, (some .int))
abbrev mJ2_getChar_3b067 : mm_M := (RJ2, cJ2_getChar_3b067, 2, false, (some .char))
abbrev mX1_readSo : mm_M := (RX1, cX1_readSo, 2, false, none)
abbrev mX1_takeNumber : mm_M := (RX1, cX1_takeNumber, 3, false, (some .int))
abbrev mX6_tokenValue : mm_M := (RX6, cX6_tokenValue, 3, false, (some .int))
abbrev mX7_isSo : mm_M := (RX7, cX7_isSo, 2, false, (some .boolean))
abbrev mX1_takeStop : mm_M := (RX1, cX1_takeStop, 1, false, none)
abbrev mX1_readGuest : mm_M := (RX1, cX1_readGuest, 3, false, none)
abbrev mX0_addGuest : mm_M := (RX0, cX0_addGuest, 3, false, none)
abbrev mX1_readBan : mm_M := (RX1, cX1_readBan, 3, false, none)
abbrev mX0_addBan : mm_M := (RX0, cX0_addBan, 3, false, none)
abbrev mX1_readThing : mm_M := (RX1, cX1_readThing, 5, false, none)
abbrev mX0_addThing : mm_M := (RX0, cX0_addThing, 4, false, none)
abbrev mX0_isWhole : mm_M := (RX0, cX0_isWhole, 3, false, (some .boolean))
abbrev mX0_states : mm_M := (RX0, cX0_states, 1, false, (some .int))
abbrev mX0_hasThing : mm_M := (RX0, cX0_hasThing, 2, false, (some .boolean))
abbrev mX0_copyFrom : mm_M := (RX0, cX0_copyFrom, 2, false, none)
abbrev mX7_fault : mm_M := (RX7, cX7_fault, 1, false, (some .int))
abbrev mX7_rule : mm_M := (RX7, cX7_rule, 2, false, (some .int))
abbrev mX0_allows : mm_M := (RX0, cX0_allows, 3, false, (some .boolean))
abbrev mX0_breaks : mm_M := (RX0, cX0_breaks, 3, false, (some .boolean))
abbrev mX7_bit : mm_M := (RX7, cX7_bit, 1, false, (some .int))
abbrev mX0_agrees : mm_M := (RX0, cX0_agrees, 2, false, (some .boolean))
abbrev mX0_afterYear : mm_M := (RX0, cX0_afterYear, 4, false, (some .int))
abbrev mX0_soAfter : mm_M := (RX0, cX0_soAfter, 5, false, (some .int))
abbrev mX7_thing : mm_M := (RX7, cX7_thing, 3, false, (some .int))
abbrev mX7_guest : mm_M := (RX7, cX7_guest, 3, false, (some .int))
abbrev mX0_hasGuest : mm_M := (RX0, cX0_hasGuest, 2, false, (some .boolean))
abbrev mX7_isBit : mm_M := (RX7, cX7_isBit, 1, false, (some .boolean))
abbrev mX7_ban : mm_M := (RX7, cX7_ban, 3, false, (some .int))
abbrev mX0_hasBan : mm_M := (RX0, cX0_hasBan, 2, false, (some .boolean))
abbrev mX7_alter : mm_M := (RX7, cX7_alter, 5, false, (some .int))
abbrev mX0_mayBecome : mm_M := (RX0, cX0_mayBecome, 3, false, (some .boolean))
abbrev mX7_undone : mm_M := (RX7, cX7_undone, 2, false, (some .int))
abbrev mX7_hire : mm_M := (RX7, cX7_hire, 5, false, (some .int))
abbrev mX7_forbid : mm_M := (RX7, cX7_forbid, 3, false, (some .int))
abbrev mX7_lift : mm_M := (RX7, cX7_lift, 2, false, (some .int))
abbrev mX0_dropBan : mm_M := (RX0, cX0_dropBan, 3, false, none)
abbrev mX7_undo : mm_M := (RX7, cX7_undo, 3, false, (some .int))
abbrev mX7_go : mm_M := (RX7, cX7_go, 2, false, (some .int))
abbrev mX0_afterYears : mm_M := (RX0, cX0_afterYears, 5, false, (some .int))
abbrev mX7_ahead : mm_M := (RX7, cX7_ahead, 2, false, (some .int))
abbrev mX7_next : mm_M := (RX7, cX7_next, 2, false, (some .int))
abbrev mX0_hasState : mm_M := (RX0, cX0_hasState, 2, false, (some .boolean))
abbrev mX7_ring : mm_M := (RX7, cX7_ring, 6, false, (some .int))
abbrev mX0_ringFrom : mm_M := (RX0, cX0_ringFrom, 4, false, (some .int))
abbrev mX5_clear : mm_M := (RX5, cX5_clear, 1, false, none)
abbrev mX5_take : mm_M := (RX5, cX5_take, 2, false, none)
abbrev mJ9_min_7cf53 : mm_M := (RJ9, cJ9_min_7cf53, 2, false, (some .int))
abbrev mX5_answer : mm_M := (RX5, cX5_answer, 2, false, (some .int))
abbrev mX7_rings : mm_M := (RX7, cX7_rings, 8, false, (some .int))
abbrev mX0_ringLedBy : mm_M := (RX0, cX0_ringLedBy, 4, false, (some .int))
abbrev mJ9_max_7cf53 : mm_M := (RJ9, cJ9_max_7cf53, 2, false, (some .int))
abbrev mX7_agree : mm_M := (RX7, cX7_agree, 3, false, (some .int))
abbrev mX0_settles : mm_M := (RX0, cX0_settles, 2, false, (some .boolean))
abbrev mX7_before : mm_M := (RX7, cX7_before, 4, false, (some .int))
abbrev mX7_gardens : mm_M := (RX7, cX7_gardens, 4, false, (some .int))
abbrev mJ13_bitCount_95d88 : mm_M := (RJ13, cJ13_bitCount_95d88, 2, false, (some .int))
abbrev mX7_clash : mm_M := (RX7, cX7_clash, 3, false, (some .int))
abbrev mX7_way : mm_M := (RX7, cX7_way, 5, false, (some .int))
abbrev mX7_isWayYear : mm_M := (RX7, cX7_isWayYear, 1, false, (some .boolean))
abbrev mX2_aimAt : mm_M := (RX2, cX2_aimAt, 3, false, none)
abbrev mX2_tryRows : mm_M := (RX2, cX2_tryRows, 5, false, none)
abbrev mX7_power : mm_M := (RX7, cX7_power, 5, false, (some .long))
abbrev mX2_succeeds : mm_M := (RX2, cX2_succeeds, 6, false, (some .boolean))
abbrev mX2_holdRow : mm_M := (RX2, cX2_holdRow, 2, false, none)
abbrev mX2_turnRow : mm_M := (RX2, cX2_turnRow, 4, false, none)
abbrev mX2_guestAhead : mm_M := (RX2, cX2_guestAhead, 2, false, (some .int))
abbrev mX7_peace : mm_M := (RX7, cX7_peace, 3, false, (some .int))
abbrev mX7_amend : mm_M := (RX7, cX7_amend, 7, false, (some .int))
abbrev mX0_settled : mm_M := (RX0, cX0_settled, 3, false, (some .int))
abbrev mX7_strict : mm_M := (RX7, cX7_strict, 7, false, (some .int))
abbrev mX0_settledWithout : mm_M := (RX0, cX0_settledWithout, 5, false, (some .int))
abbrev mX7_luck : mm_M := (RX7, cX7_luck, 3, false, (some .long))
abbrev mX7_afterSlips : mm_M := (RX7, cX7_afterSlips, 11, false, (some .long))
abbrev mJ6_bitCount_0f7a4 : mm_M := (RJ6, cJ6_bitCount_0f7a4, 1, false, (some .int))
abbrev mX0_worth : mm_M := (RX0, cX0_worth, 3, false, (some .int))
abbrev mX7_commonDivisor : mm_M := (RX7, cX7_commonDivisor, 11, false, (some .long))
abbrev mX7_calm : mm_M := (RX7, cX7_calm, 3, false, (some .long))
abbrev mX7_mean : mm_M := (RX7, cX7_mean, 3, false, (some .long))
abbrev mX7_see : mm_M := (RX7, cX7_see, 4, false, (some .int))
abbrev mX4_add : mm_M := (RX4, cX4_add, 4, false, none)
abbrev mX7_forget : mm_M := (RX7, cX7_forget, 3, false, (some .int))
abbrev mX7_fits : mm_M := (RX7, cX7_fits, 3, false, (some .int))
abbrev mX4_suit : mm_M := (RX4, cX4_suit, 5, false, (some .boolean))
abbrev mX4_suitYear : mm_M := (RX4, cX4_suitYear, 4, false, (some .boolean))
abbrev mX7_look : mm_M := (RX7, cX7_look, 7, false, (some .int))
abbrev mX4_gather : mm_M := (RX4, cX4_gather, 3, false, none)
abbrev mX4_worstLeft : mm_M := (RX4, cX4_worstLeft, 4, false, (some .int))
abbrev mX4_passYear : mm_M := (RX4, cX4_passYear, 3, false, none)
abbrev mX7_drift : mm_M := (RX7, cX7_drift, 9, false, (some .int))
abbrev mX7_keep : mm_M := (RX7, cX7_keep, 3, false, (some .int))
abbrev mX7_back : mm_M := (RX7, cX7_back, 2, false, (some .int))
abbrev mX7_sheet : mm_M := (RX7, cX7_sheet, 4, false, (some .int))
abbrev mX7_isSheet : mm_M := (RX7, cX7_isSheet, 1, false, (some .boolean))
abbrev mX7_isLane : mm_M := (RX7, cX7_isLane, 1, false, (some .boolean))
abbrev mX3_renew : mm_M := (RX3, cX3_renew, 4, false, none)
abbrev mX7_lay : mm_M := (RX7, cX7_lay, 6, false, (some .int))
abbrev mX3_refusal : mm_M := (RX3, cX3_refusal, 3, false, (some .int))
abbrev mX3_put : mm_M := (RX3, cX3_put, 3, false, none)
abbrev mX7_read : mm_M := (RX7, cX7_read, 9, false, (some .int))
abbrev mX7_visit : mm_M := (RX7, cX7_visit, 2, false, (some .boolean))
abbrev mX7_torn : mm_M := (RX7, cX7_torn, 1, false, (some .int))
abbrev mX7_count : mm_M := (RX7, cX7_count, 2, false, (some .int))
abbrev mX0_allPrices : mm_M := (RX0, cX0_allPrices, 3, false, (some .int))
abbrev mX8_init : mm_M := (RX8, cX8_init, 1, true, none)
abbrev mX8_feed : mm_M := (RX8, cX8_feed, 2, false, (some .int))
abbrev mX8_in : mm_M := (RX8, cX8_in, 6, false, (some .boolean))
abbrev mX8_end : mm_M := (RX8, cX8_end, 3, false, (some .int))
abbrev mX8_text : mm_M := (RX8, cX8_text, 3, false, (some .int))
abbrev mX8_step : mm_M := (RX8, cX8_step, 2, false, none)
abbrev mX8_byteAt : mm_M := (RX8, cX8_byteAt, 2, false, (some .int))
abbrev mX8_fails : mm_M := (RX8, cX8_fails, 2, false, none)
abbrev mX8_readLine : mm_M := (RX8, cX8_readLine, 2, false, none)
abbrev mX8_nameHere : mm_M := (RX8, cX8_nameHere, 4, false, (some .int))
abbrev mX8_readMore : mm_M := (RX8, cX8_readMore, 3, false, none)
abbrev mX8_thingHere : mm_M := (RX8, cX8_thingHere, 3, false, (some .int))
abbrev mX8_other : mm_M := (RX8, cX8_other, 5, false, (some .int))
abbrev mX8_readBan : mm_M := (RX8, cX8_readBan, 3, false, none)
abbrev mX8_fault : mm_M := (RX8, cX8_fault, 1, false, (some .int))
abbrev mX8_rule : mm_M := (RX8, cX8_rule, 3, false, (some .int))
abbrev mX8_isAllowed : mm_M := (RX8, cX8_isAllowed, 4, false, (some .boolean))
abbrev mX8_isBroken : mm_M := (RX8, cX8_isBroken, 3, false, (some .boolean))
abbrev mX8_agrees : mm_M := (RX8, cX8_agrees, 2, false, (some .boolean))
abbrev mX8_nextOf : mm_M := (RX8, cX8_nextOf, 4, false, (some .int))
abbrev mX8_willBe : mm_M := (RX8, cX8_willBe, 5, false, (some .boolean))
abbrev mX8_firstOf : mm_M := (RX8, cX8_firstOf, 2, false, (some .int))
abbrev mX8_secondOf : mm_M := (RX8, cX8_secondOf, 2, false, (some .int))
abbrev mX8_thing : mm_M := (RX8, cX8_thing, 3, false, (some .int))
abbrev mX8_isThing : mm_M := (RX8, cX8_isThing, 2, false, (some .boolean))
abbrev mX8_guest : mm_M := (RX8, cX8_guest, 3, false, (some .int))
abbrev mX8_isGuest : mm_M := (RX8, cX8_isGuest, 2, false, (some .boolean))
abbrev mX8_ban : mm_M := (RX8, cX8_ban, 3, false, (some .int))
abbrev mX8_isBan : mm_M := (RX8, cX8_isBan, 2, false, (some .boolean))
abbrev mX8_alter : mm_M := (RX8, cX8_alter, 4, false, (some .int))
abbrev mX8_puts : mm_M := (RX8, cX8_puts, 6, false, (some .int))
abbrev mX8_becomes : mm_M := (RX8, cX8_becomes, 4, false, (some .int))
abbrev mX8_hire : mm_M := (RX8, cX8_hire, 4, false, (some .int))
abbrev mX8_forbid : mm_M := (RX8, cX8_forbid, 3, false, (some .int))
abbrev mX8_lift : mm_M := (RX8, cX8_lift, 3, false, (some .int))
abbrev mX8_undo : mm_M := (RX8, cX8_undo, 2, false, (some .int))
abbrev mX8_undoes : mm_M := (RX8, cX8_undoes, 3, false, (some .int))
abbrev mX8_go : mm_M := (RX8, cX8_go, 2, false, (some .int))
abbrev mX8_afterYears : mm_M := (RX8, cX8_afterYears, 5, false, (some .int))
abbrev mX8_ahead : mm_M := (RX8, cX8_ahead, 2, false, (some .int))
abbrev mX8_next : mm_M := (RX8, cX8_next, 2, false, (some .int))
abbrev mX8_isState : mm_M := (RX8, cX8_isState, 2, false, (some .boolean))
abbrev mX8_states : mm_M := (RX8, cX8_states, 1, false, (some .int))
abbrev mX8_ring : mm_M := (RX8, cX8_ring, 7, false, (some .int))
abbrev mX8_ringOf : mm_M := (RX8, cX8_ringOf, 4, false, (some .int))
abbrev mX8_rings : mm_M := (RX8, cX8_rings, 10, false, (some .int))
abbrev mX8_agree : mm_M := (RX8, cX8_agree, 2, false, (some .int))
abbrev mX8_agreeMany : mm_M := (RX8, cX8_agreeMany, 2, false, (some .int))
abbrev mX8_tellsNone : mm_M := (RX8, cX8_tellsNone, 1, false, none)
abbrev mX8_tells : mm_M := (RX8, cX8_tells, 2, false, none)
abbrev mX8_told : mm_M := (RX8, cX8_told, 2, false, (some .int))
abbrev mX8_before : mm_M := (RX8, cX8_before, 3, false, (some .int))
abbrev mX8_comesOf : mm_M := (RX8, cX8_comesOf, 3, false, none)
abbrev mX8_gardens : mm_M := (RX8, cX8_gardens, 3, false, (some .int))
abbrev mX8_clash : mm_M := (RX8, cX8_clash, 3, false, (some .int))
abbrev mX8_way : mm_M := (RX8, cX8_way, 5, false, (some .int))
abbrev mX8_cheapest : mm_M := (RX8, cX8_cheapest, 6, false, none)
abbrev mX8_powerOf : mm_M := (RX8, cX8_powerOf, 4, false, (some .int))
abbrev mX8_goesWay : mm_M := (RX8, cX8_goesWay, 6, false, (some .boolean))
abbrev mX8_whoIn : mm_M := (RX8, cX8_whoIn, 4, false, (some .int))
abbrev mX8_toldWay : mm_M := (RX8, cX8_toldWay, 4, false, (some .int))
abbrev mX8_peace : mm_M := (RX8, cX8_peace, 3, false, (some .int))
abbrev mX8_amend : mm_M := (RX8, cX8_amend, 8, false, (some .int))
abbrev mX8_strict : mm_M := (RX8, cX8_strict, 9, false, (some .int))
abbrev mX8_luck : mm_M := (RX8, cX8_luck, 3, false, (some .long))
abbrev mX8_bySlips : mm_M := (RX8, cX8_bySlips, 13, false, (some .long))
abbrev mX8_bitsOf : mm_M := (RX8, cX8_bitsOf, 3, false, (some .int))
abbrev mX8_lowest : mm_M := (RX8, cX8_lowest, 11, false, (some .long))
abbrev mX8_calm : mm_M := (RX8, cX8_calm, 3, false, (some .long))
abbrev mX8_mean : mm_M := (RX8, cX8_mean, 3, false, (some .long))
abbrev mX8_see : mm_M := (RX8, cX8_see, 4, false, (some .int))
abbrev mX8_forget : mm_M := (RX8, cX8_forget, 3, false, (some .int))
abbrev mX8_fits : mm_M := (RX8, cX8_fits, 3, false, (some .int))
abbrev mX8_doesFit : mm_M := (RX8, cX8_doesFit, 4, false, (some .boolean))
abbrev mX8_look : mm_M := (RX8, cX8_look, 8, false, (some .int))
abbrev mX8_drift : mm_M := (RX8, cX8_drift, 8, false, (some .int))
abbrev mX8_keep : mm_M := (RX8, cX8_keep, 3, false, (some .int))
abbrev mX8_copies : mm_M := (RX8, cX8_copies, 4, false, none)
abbrev mX8_back : mm_M := (RX8, cX8_back, 2, false, (some .int))
abbrev mX8_sheet : mm_M := (RX8, cX8_sheet, 5, false, (some .int))
abbrev mX8_lay : mm_M := (RX8, cX8_lay, 4, false, (some .int))
abbrev mX8_read : mm_M := (RX8, cX8_read, 8, false, (some .int))
abbrev mX8_torn : mm_M := (RX8, cX8_torn, 1, false, (some .int))
abbrev mX8_count : mm_M := (RX8, cX8_count, 4, false, (some .int))
abbrev mL_law : mm_M := (RL, cL_law, 4, false, some .boolean)
theorem ykX7_init : mm_Yk yX7_init mX7_init 0 := ⟨mm_in 78 (by decide +kernel) rfl, mm_in 57 (by decide +kernel) rfl, by decide +kernel, by decide⟩
theorem ykX0_init : mm_Yk yX0_init mX0_init 0 := ⟨mm_in 86 (by decide +kernel) rfl, mm_in 58 (by decide +kernel) rfl, by decide +kernel, by decide⟩
theorem ykX1_init : mm_Yk yX1_init mX1_init 0 := ⟨mm_in 151 (by decide +kernel) rfl, mm_in 59 (by decide +kernel) rfl, by decide +kernel, by decide⟩
theorem ykX6_init : mm_Yk yX6_init mX6_init 0 := ⟨mm_in 157 (by decide +kernel) rfl, mm_in 60 (by decide +kernel) rfl, by decide +kernel, by decide⟩
theorem ykX4_init : mm_Yk yX4_init mX4_init 0 := ⟨mm_in 207 (by decide +kernel) rfl, mm_in 61 (by decide +kernel) rfl, by decide +kernel, by decide⟩
theorem ykX2_init : mm_Yk yX2_init mX2_init 0 := ⟨mm_in 234 (by decide +kernel) rfl, mm_in 62 (by decide +kernel) rfl, by decide +kernel, by decide⟩
theorem ykX5_init : mm_Yk yX5_init mX5_init 0 := ⟨mm_in 268 (by decide +kernel) rfl, mm_in 63 (by decide +kernel) rfl, by decide +kernel, by decide⟩
theorem ykX3_init : mm_Yk yX3_init mX3_init 0 := ⟨mm_in 288 (by decide +kernel) rfl, mm_in 64 (by decide +kernel) rfl, by decide +kernel, by decide⟩
theorem ykX7_feed : mm_Yk yX7_feed mX7_feed 1 := ⟨mm_in 337 (by decide +kernel) rfl, mm_in 57 (by decide +kernel) rfl, by decide +kernel, by decide⟩
theorem ykX6_put : mm_Yk yX6_put mX6_put 1 := ⟨mm_in 341 (by decide +kernel) rfl, mm_in 60 (by decide +kernel) rfl, by decide +kernel, by decide⟩
theorem ykX7_end : mm_Yk yX7_end mX7_end 1 := ⟨mm_in 345 (by decide +kernel) rfl, mm_in 57 (by decide +kernel) rfl, by decide +kernel, by decide⟩
theorem ykX7_text : mm_Yk yX7_text mX7_text 0 := ⟨mm_in 349 (by decide +kernel) rfl, mm_in 57 (by decide +kernel) rfl, by decide +kernel, by decide⟩
theorem ykX1_readAll : mm_Yk yX1_readAll mX1_readAll 0 := ⟨mm_in 353 (by decide +kernel) rfl, mm_in 59 (by decide +kernel) rfl, by decide +kernel, by decide⟩
theorem ykX0_clear : mm_Yk yX0_clear mX0_clear 0 := ⟨mm_in 357 (by decide +kernel) rfl, mm_in 58 (by decide +kernel) rfl, by decide +kernel, by decide⟩
theorem ykX6_rewind : mm_Yk yX6_rewind mX6_rewind 0 := ⟨mm_in 361 (by decide +kernel) rfl, mm_in 60 (by decide +kernel) rfl, by decide +kernel, by decide⟩
theorem ykX1_readLine : mm_Yk yX1_readLine mX1_readLine 0 := ⟨mm_in 365 (by decide +kernel) rfl, mm_in 59 (by decide +kernel) rfl, by decide +kernel, by decide⟩
theorem ykX1_takeToken : mm_Yk yX1_takeToken mX1_takeToken 0 := ⟨mm_in 369 (by decide +kernel) rfl, mm_in 59 (by decide +kernel) rfl, by decide +kernel, by decide⟩
theorem ykX6_readToken : mm_Yk yX6_readToken mX6_readToken 0 := ⟨mm_in 373 (by decide +kernel) rfl, mm_in 60 (by decide +kernel) rfl, by decide +kernel, by decide⟩
theorem ykX6_sortAt : mm_Yk yX6_sortAt mX6_sortAt 1 := ⟨mm_in 377 (by decide +kernel) rfl, mm_in 60 (by decide +kernel) rfl, by decide +kernel, by decide⟩
theorem ykX1_failIf : mm_Yk yX1_failIf mX1_failIf 2 := ⟨mm_in 381 (by decide +kernel) rfl, mm_in 59 (by decide +kernel) rfl, by decide +kernel, by decide⟩
theorem ykX1_wordRead : mm_Yk yX1_wordRead mX1_wordRead 0 := ⟨mm_in 385 (by decide +kernel) rfl, mm_in 59 (by decide +kernel) rfl, by decide +kernel, by decide⟩
theorem ykX6_tokenIs : mm_Yk yX6_tokenIs mX6_tokenIs 1 := ⟨mm_in 390 (by decide +kernel) rfl, mm_in 60 (by decide +kernel) rfl, by decide +kernel, by decide⟩
theorem ykJ0_length_8abf5 : mm_Yk yJ0_length_8abf5 mJ0_length_8abf5 0 := ⟨mm_in 394 (by decide +kernel) rfl, mm_in 66 (by decide +kernel) rfl, by decide +kernel, by decide⟩
theorem ykJ0_coder_7d493 : mm_Yk yJ0_coder_7d493 mJ0_coder_7d493 0 := ⟨mm_in 398 (by decide +kernel) rfl, mm_in 66 (by decide +kernel) rfl, by decide +kernel, by decide⟩
theorem ykJ0_charAt_5068e : mm_Yk yJ0_charAt_5068e mJ0_charAt_5068e 1 := ⟨mm_in 404 (by decide +kernel) rfl, mm_in 66 (by decide +kernel) rfl, by decide +kernel, by decide⟩
theorem ykJ0_isLatin1_aae02 : mm_Yk yJ0_isLatin1_aae02 mJ0_isLatin1_aae02 0 := ⟨mm_in 408 (by decide +kernel) rfl, mm_in 66 (by decide +kernel) rfl, by decide +kernel, by decide⟩
theorem ykJ1_charAt_3b067 : mm_Yk yJ1_charAt_3b067 mJ1_charAt_3b067 2 := ⟨mm_in 411 (by decide +kernel) rfl, mm_in 67 (by decide +kernel) rfl, by decide +kernel, by decide⟩
theorem ykJ0_checkIndex_df160 : mm_Yk yJ0_checkIndex_df160 mJ0_checkIndex_df160 2 := ⟨mm_in 414 (by decide +kernel) rfl, mm_in 66 (by decide +kernel) rfl, by decide +kernel, by decide⟩
theorem ykJ3_checkIndex_8e157 : mm_Yk yJ3_checkIndex_8e157 mJ3_checkIndex_8e157 3 := ⟨mm_in 419 (by decide +kernel) rfl, mm_in 68 (by decide +kernel) rfl, by decide +kernel, by decide⟩
theorem ykJ2_charAt_3b067 : mm_Yk yJ2_charAt_3b067 mJ2_charAt_3b067 2 := ⟨mm_in 422 (by decide +kernel) rfl, mm_in 69 (by decide +kernel) rfl, by decide +kernel, by decide⟩
theorem ykJ2_checkIndex_2214a : mm_Yk yJ2_checkIndex_2214a mJ2_checkIndex_2214a 2 := ⟨mm_in 425 (by decide +kernel) rfl, mm_in 69 (by decide +kernel) rfl, by decide +kernel, by decide⟩
theorem ykJ2_length_9d52b : mm_Yk yJ2_length_9d52b mJ2_length_9d52b 1 := ⟨mm_in 428 (by decide +kernel) rfl, mm_in 69 (by decide +kernel) rfl, by decide +kernel, by decide⟩
theorem ykJ2_getChar_3b067 : mm_Yk yJ2_getChar_3b067 mJ2_getChar_3b067 2 := ⟨mm_in 432 (by decide +kernel) rfl, mm_in 69 (by decide +kernel) rfl, by decide +kernel, by decide⟩
theorem ykX1_readSo : mm_Yk yX1_readSo mX1_readSo 0 := ⟨mm_in 449 (by decide +kernel) rfl, mm_in 59 (by decide +kernel) rfl, by decide +kernel, by decide⟩
theorem ykX1_takeNumber : mm_Yk yX1_takeNumber mX1_takeNumber 1 := ⟨mm_in 453 (by decide +kernel) rfl, mm_in 59 (by decide +kernel) rfl, by decide +kernel, by decide⟩
theorem ykX6_tokenValue : mm_Yk yX6_tokenValue mX6_tokenValue 0 := ⟨mm_in 457 (by decide +kernel) rfl, mm_in 60 (by decide +kernel) rfl, by decide +kernel, by decide⟩
theorem ykX7_isSo : mm_Yk yX7_isSo mX7_isSo 2 := ⟨mm_in 460 (by decide +kernel) rfl, mm_in 57 (by decide +kernel) rfl, by decide +kernel, by decide⟩
theorem ykX1_takeStop : mm_Yk yX1_takeStop mX1_takeStop 0 := ⟨mm_in 464 (by decide +kernel) rfl, mm_in 59 (by decide +kernel) rfl, by decide +kernel, by decide⟩
theorem ykX1_readGuest : mm_Yk yX1_readGuest mX1_readGuest 0 := ⟨mm_in 468 (by decide +kernel) rfl, mm_in 59 (by decide +kernel) rfl, by decide +kernel, by decide⟩
theorem ykX0_addGuest : mm_Yk yX0_addGuest mX0_addGuest 2 := ⟨mm_in 472 (by decide +kernel) rfl, mm_in 58 (by decide +kernel) rfl, by decide +kernel, by decide⟩
theorem ykX1_readBan : mm_Yk yX1_readBan mX1_readBan 0 := ⟨mm_in 476 (by decide +kernel) rfl, mm_in 59 (by decide +kernel) rfl, by decide +kernel, by decide⟩
theorem ykX0_addBan : mm_Yk yX0_addBan mX0_addBan 2 := ⟨mm_in 480 (by decide +kernel) rfl, mm_in 58 (by decide +kernel) rfl, by decide +kernel, by decide⟩
theorem ykX1_readThing : mm_Yk yX1_readThing mX1_readThing 1 := ⟨mm_in 484 (by decide +kernel) rfl, mm_in 59 (by decide +kernel) rfl, by decide +kernel, by decide⟩
theorem ykX0_addThing : mm_Yk yX0_addThing mX0_addThing 3 := ⟨mm_in 488 (by decide +kernel) rfl, mm_in 58 (by decide +kernel) rfl, by decide +kernel, by decide⟩
theorem ykX0_isWhole : mm_Yk yX0_isWhole mX0_isWhole 0 := ⟨mm_in 492 (by decide +kernel) rfl, mm_in 58 (by decide +kernel) rfl, by decide +kernel, by decide⟩
theorem ykX0_states : mm_Yk yX0_states mX0_states 0 := ⟨mm_in 496 (by decide +kernel) rfl, mm_in 58 (by decide +kernel) rfl, by decide +kernel, by decide⟩
theorem ykX0_hasThing : mm_Yk yX0_hasThing mX0_hasThing 1 := ⟨mm_in 500 (by decide +kernel) rfl, mm_in 58 (by decide +kernel) rfl, by decide +kernel, by decide⟩
theorem ykX0_copyFrom : mm_Yk yX0_copyFrom mX0_copyFrom 1 := ⟨mm_in 504 (by decide +kernel) rfl, mm_in 58 (by decide +kernel) rfl, by decide +kernel, by decide⟩
theorem ykX7_fault : mm_Yk yX7_fault mX7_fault 0 := ⟨mm_in 511 (by decide +kernel) rfl, mm_in 57 (by decide +kernel) rfl, by decide +kernel, by decide⟩
theorem ykX7_rule : mm_Yk yX7_rule mX7_rule 1 := ⟨mm_in 515 (by decide +kernel) rfl, mm_in 57 (by decide +kernel) rfl, by decide +kernel, by decide⟩
theorem ykX0_allows : mm_Yk yX0_allows mX0_allows 1 := ⟨mm_in 519 (by decide +kernel) rfl, mm_in 58 (by decide +kernel) rfl, by decide +kernel, by decide⟩
theorem ykX0_breaks : mm_Yk yX0_breaks mX0_breaks 2 := ⟨mm_in 523 (by decide +kernel) rfl, mm_in 58 (by decide +kernel) rfl, by decide +kernel, by decide⟩
theorem ykX7_bit : mm_Yk yX7_bit mX7_bit 1 := ⟨mm_in 527 (by decide +kernel) rfl, mm_in 57 (by decide +kernel) rfl, by decide +kernel, by decide⟩
theorem ykX0_agrees : mm_Yk yX0_agrees mX0_agrees 1 := ⟨mm_in 531 (by decide +kernel) rfl, mm_in 58 (by decide +kernel) rfl, by decide +kernel, by decide⟩
theorem ykX0_afterYear : mm_Yk yX0_afterYear mX0_afterYear 1 := ⟨mm_in 535 (by decide +kernel) rfl, mm_in 58 (by decide +kernel) rfl, by decide +kernel, by decide⟩
theorem ykX0_soAfter : mm_Yk yX0_soAfter mX0_soAfter 2 := ⟨mm_in 539 (by decide +kernel) rfl, mm_in 58 (by decide +kernel) rfl, by decide +kernel, by decide⟩
theorem ykX7_thing : mm_Yk yX7_thing mX7_thing 2 := ⟨mm_in 543 (by decide +kernel) rfl, mm_in 57 (by decide +kernel) rfl, by decide +kernel, by decide⟩
theorem ykX7_guest : mm_Yk yX7_guest mX7_guest 2 := ⟨mm_in 550 (by decide +kernel) rfl, mm_in 57 (by decide +kernel) rfl, by decide +kernel, by decide⟩
theorem ykX0_hasGuest : mm_Yk yX0_hasGuest mX0_hasGuest 1 := ⟨mm_in 554 (by decide +kernel) rfl, mm_in 58 (by decide +kernel) rfl, by decide +kernel, by decide⟩
theorem ykX7_isBit : mm_Yk yX7_isBit mX7_isBit 1 := ⟨mm_in 557 (by decide +kernel) rfl, mm_in 57 (by decide +kernel) rfl, by decide +kernel, by decide⟩
theorem ykX7_ban : mm_Yk yX7_ban mX7_ban 2 := ⟨mm_in 561 (by decide +kernel) rfl, mm_in 57 (by decide +kernel) rfl, by decide +kernel, by decide⟩
theorem ykX0_hasBan : mm_Yk yX0_hasBan mX0_hasBan 1 := ⟨mm_in 565 (by decide +kernel) rfl, mm_in 58 (by decide +kernel) rfl, by decide +kernel, by decide⟩
theorem ykX7_alter : mm_Yk yX7_alter mX7_alter 3 := ⟨mm_in 570 (by decide +kernel) rfl, mm_in 57 (by decide +kernel) rfl, by decide +kernel, by decide⟩
theorem ykX0_mayBecome : mm_Yk yX0_mayBecome mX0_mayBecome 2 := ⟨mm_in 575 (by decide +kernel) rfl, mm_in 58 (by decide +kernel) rfl, by decide +kernel, by decide⟩
theorem ykX7_undone : mm_Yk yX7_undone mX7_undone 2 := ⟨mm_in 579 (by decide +kernel) rfl, mm_in 57 (by decide +kernel) rfl, by decide +kernel, by decide⟩
theorem ykX7_hire : mm_Yk yX7_hire mX7_hire 3 := ⟨mm_in 583 (by decide +kernel) rfl, mm_in 57 (by decide +kernel) rfl, by decide +kernel, by decide⟩
theorem ykX7_forbid : mm_Yk yX7_forbid mX7_forbid 2 := ⟨mm_in 588 (by decide +kernel) rfl, mm_in 57 (by decide +kernel) rfl, by decide +kernel, by decide⟩
theorem ykX7_lift : mm_Yk yX7_lift mX7_lift 1 := ⟨mm_in 593 (by decide +kernel) rfl, mm_in 57 (by decide +kernel) rfl, by decide +kernel, by decide⟩
theorem ykX0_dropBan : mm_Yk yX0_dropBan mX0_dropBan 1 := ⟨mm_in 597 (by decide +kernel) rfl, mm_in 58 (by decide +kernel) rfl, by decide +kernel, by decide⟩
theorem ykX7_undo : mm_Yk yX7_undo mX7_undo 1 := ⟨mm_in 601 (by decide +kernel) rfl, mm_in 57 (by decide +kernel) rfl, by decide +kernel, by decide⟩
theorem ykX7_go : mm_Yk yX7_go mX7_go 1 := ⟨mm_in 605 (by decide +kernel) rfl, mm_in 57 (by decide +kernel) rfl, by decide +kernel, by decide⟩
theorem ykX0_afterYears : mm_Yk yX0_afterYears mX0_afterYears 2 := ⟨mm_in 609 (by decide +kernel) rfl, mm_in 58 (by decide +kernel) rfl, by decide +kernel, by decide⟩
theorem ykX7_ahead : mm_Yk yX7_ahead mX7_ahead 1 := ⟨mm_in 613 (by decide +kernel) rfl, mm_in 57 (by decide +kernel) rfl, by decide +kernel, by decide⟩
theorem ykX7_next : mm_Yk yX7_next mX7_next 1 := ⟨mm_in 617 (by decide +kernel) rfl, mm_in 57 (by decide +kernel) rfl, by decide +kernel, by decide⟩
theorem ykX0_hasState : mm_Yk yX0_hasState mX0_hasState 1 := ⟨mm_in 621 (by decide +kernel) rfl, mm_in 58 (by decide +kernel) rfl, by decide +kernel, by decide⟩
theorem ykX7_ring : mm_Yk yX7_ring mX7_ring 1 := ⟨mm_in 626 (by decide +kernel) rfl, mm_in 57 (by decide +kernel) rfl, by decide +kernel, by decide⟩
theorem ykX0_ringFrom : mm_Yk yX0_ringFrom mX0_ringFrom 1 := ⟨mm_in 630 (by decide +kernel) rfl, mm_in 58 (by decide +kernel) rfl, by decide +kernel, by decide⟩
theorem ykX5_clear : mm_Yk yX5_clear mX5_clear 0 := ⟨mm_in 634 (by decide +kernel) rfl, mm_in 63 (by decide +kernel) rfl, by decide +kernel, by decide⟩
theorem ykX5_take : mm_Yk yX5_take mX5_take 1 := ⟨mm_in 638 (by decide +kernel) rfl, mm_in 63 (by decide +kernel) rfl, by decide +kernel, by decide⟩
theorem ykJ9_min_7cf53 : mm_Yk yJ9_min_7cf53 mJ9_min_7cf53 2 := ⟨mm_in 641 (by decide +kernel) rfl, mm_in 71 (by decide +kernel) rfl, by decide +kernel, by decide⟩
theorem ykX5_answer : mm_Yk yX5_answer mX5_answer 1 := ⟨mm_in 645 (by decide +kernel) rfl, mm_in 63 (by decide +kernel) rfl, by decide +kernel, by decide⟩
theorem ykX7_rings : mm_Yk yX7_rings mX7_rings 1 := ⟨mm_in 649 (by decide +kernel) rfl, mm_in 57 (by decide +kernel) rfl, by decide +kernel, by decide⟩
theorem ykX0_ringLedBy : mm_Yk yX0_ringLedBy mX0_ringLedBy 1 := ⟨mm_in 654 (by decide +kernel) rfl, mm_in 58 (by decide +kernel) rfl, by decide +kernel, by decide⟩
theorem ykJ9_max_7cf53 : mm_Yk yJ9_max_7cf53 mJ9_max_7cf53 2 := ⟨mm_in 657 (by decide +kernel) rfl, mm_in 71 (by decide +kernel) rfl, by decide +kernel, by decide⟩
theorem ykX7_agree : mm_Yk yX7_agree mX7_agree 1 := ⟨mm_in 661 (by decide +kernel) rfl, mm_in 57 (by decide +kernel) rfl, by decide +kernel, by decide⟩
theorem ykX0_settles : mm_Yk yX0_settles mX0_settles 1 := ⟨mm_in 665 (by decide +kernel) rfl, mm_in 58 (by decide +kernel) rfl, by decide +kernel, by decide⟩
theorem ykX7_before : mm_Yk yX7_before mX7_before 2 := ⟨mm_in 671 (by decide +kernel) rfl, mm_in 57 (by decide +kernel) rfl, by decide +kernel, by decide⟩
theorem ykX7_gardens : mm_Yk yX7_gardens mX7_gardens 0 := ⟨mm_in 675 (by decide +kernel) rfl, mm_in 57 (by decide +kernel) rfl, by decide +kernel, by decide⟩
theorem ykJ13_bitCount_95d88 : mm_Yk yJ13_bitCount_95d88 mJ13_bitCount_95d88 1 := ⟨mm_in 678 (by decide +kernel) rfl, mm_in 72 (by decide +kernel) rfl, by decide +kernel, by decide⟩
theorem ykX7_clash : mm_Yk yX7_clash mX7_clash 0 := ⟨mm_in 685 (by decide +kernel) rfl, mm_in 57 (by decide +kernel) rfl, by decide +kernel, by decide⟩
theorem ykX7_way : mm_Yk yX7_way mX7_way 3 := ⟨mm_in 689 (by decide +kernel) rfl, mm_in 57 (by decide +kernel) rfl, by decide +kernel, by decide⟩
theorem ykX7_isWayYear : mm_Yk yX7_isWayYear mX7_isWayYear 1 := ⟨mm_in 692 (by decide +kernel) rfl, mm_in 57 (by decide +kernel) rfl, by decide +kernel, by decide⟩
theorem ykX2_aimAt : mm_Yk yX2_aimAt mX2_aimAt 2 := ⟨mm_in 696 (by decide +kernel) rfl, mm_in 62 (by decide +kernel) rfl, by decide +kernel, by decide⟩
theorem ykX2_tryRows : mm_Yk yX2_tryRows mX2_tryRows 2 := ⟨mm_in 700 (by decide +kernel) rfl, mm_in 62 (by decide +kernel) rfl, by decide +kernel, by decide⟩
theorem ykX7_power : mm_Yk yX7_power mX7_power 2 := ⟨mm_in 703 (by decide +kernel) rfl, mm_in 57 (by decide +kernel) rfl, by decide +kernel, by decide⟩
theorem ykX2_succeeds : mm_Yk yX2_succeeds mX2_succeeds 2 := ⟨mm_in 707 (by decide +kernel) rfl, mm_in 62 (by decide +kernel) rfl, by decide +kernel, by decide⟩
theorem ykX2_holdRow : mm_Yk yX2_holdRow mX2_holdRow 1 := ⟨mm_in 718 (by decide +kernel) rfl, mm_in 62 (by decide +kernel) rfl, by decide +kernel, by decide⟩
theorem ykX2_turnRow : mm_Yk yX2_turnRow mX2_turnRow 2 := ⟨mm_in 723 (by decide +kernel) rfl, mm_in 62 (by decide +kernel) rfl, by decide +kernel, by decide⟩
theorem ykX2_guestAhead : mm_Yk yX2_guestAhead mX2_guestAhead 1 := ⟨mm_in 727 (by decide +kernel) rfl, mm_in 62 (by decide +kernel) rfl, by decide +kernel, by decide⟩
theorem ykX7_peace : mm_Yk yX7_peace mX7_peace 2 := ⟨mm_in 731 (by decide +kernel) rfl, mm_in 57 (by decide +kernel) rfl, by decide +kernel, by decide⟩
theorem ykX7_amend : mm_Yk yX7_amend mX7_amend 1 := ⟨mm_in 735 (by decide +kernel) rfl, mm_in 57 (by decide +kernel) rfl, by decide +kernel, by decide⟩
theorem ykX0_settled : mm_Yk yX0_settled mX0_settled 0 := ⟨mm_in 739 (by decide +kernel) rfl, mm_in 58 (by decide +kernel) rfl, by decide +kernel, by decide⟩
theorem ykX7_strict : mm_Yk yX7_strict mX7_strict 1 := ⟨mm_in 745 (by decide +kernel) rfl, mm_in 57 (by decide +kernel) rfl, by decide +kernel, by decide⟩
theorem ykX0_settledWithout : mm_Yk yX0_settledWithout mX0_settledWithout 2 := ⟨mm_in 749 (by decide +kernel) rfl, mm_in 58 (by decide +kernel) rfl, by decide +kernel, by decide⟩
theorem ykX7_luck : mm_Yk yX7_luck mX7_luck 2 := ⟨mm_in 753 (by decide +kernel) rfl, mm_in 57 (by decide +kernel) rfl, by decide +kernel, by decide⟩
theorem ykX7_afterSlips : mm_Yk yX7_afterSlips mX7_afterSlips 3 := ⟨mm_in 757 (by decide +kernel) rfl, mm_in 57 (by decide +kernel) rfl, by decide +kernel, by decide⟩
theorem ykJ6_bitCount_0f7a4 : mm_Yk yJ6_bitCount_0f7a4 mJ6_bitCount_0f7a4 1 := ⟨mm_in 761 (by decide +kernel) rfl, mm_in 73 (by decide +kernel) rfl, by decide +kernel, by decide⟩
theorem ykX0_worth : mm_Yk yX0_worth mX0_worth 2 := ⟨mm_in 769 (by decide +kernel) rfl, mm_in 58 (by decide +kernel) rfl, by decide +kernel, by decide⟩
theorem ykX7_commonDivisor : mm_Yk yX7_commonDivisor mX7_commonDivisor 2 := ⟨mm_in 773 (by decide +kernel) rfl, mm_in 57 (by decide +kernel) rfl, by decide +kernel, by decide⟩
theorem ykX7_calm : mm_Yk yX7_calm mX7_calm 2 := ⟨mm_in 777 (by decide +kernel) rfl, mm_in 57 (by decide +kernel) rfl, by decide +kernel, by decide⟩
theorem ykX7_mean : mm_Yk yX7_mean mX7_mean 2 := ⟨mm_in 781 (by decide +kernel) rfl, mm_in 57 (by decide +kernel) rfl, by decide +kernel, by decide⟩
theorem ykX7_see : mm_Yk yX7_see mX7_see 3 := ⟨mm_in 785 (by decide +kernel) rfl, mm_in 57 (by decide +kernel) rfl, by decide +kernel, by decide⟩
theorem ykX4_add : mm_Yk yX4_add mX4_add 3 := ⟨mm_in 789 (by decide +kernel) rfl, mm_in 61 (by decide +kernel) rfl, by decide +kernel, by decide⟩
theorem ykX7_forget : mm_Yk yX7_forget mX7_forget 1 := ⟨mm_in 793 (by decide +kernel) rfl, mm_in 57 (by decide +kernel) rfl, by decide +kernel, by decide⟩
theorem ykX7_fits : mm_Yk yX7_fits mX7_fits 1 := ⟨mm_in 797 (by decide +kernel) rfl, mm_in 57 (by decide +kernel) rfl, by decide +kernel, by decide⟩
theorem ykX4_suit : mm_Yk yX4_suit mX4_suit 2 := ⟨mm_in 801 (by decide +kernel) rfl, mm_in 61 (by decide +kernel) rfl, by decide +kernel, by decide⟩
theorem ykX4_suitYear : mm_Yk yX4_suitYear mX4_suitYear 2 := ⟨mm_in 805 (by decide +kernel) rfl, mm_in 61 (by decide +kernel) rfl, by decide +kernel, by decide⟩
theorem ykX7_look : mm_Yk yX7_look mX7_look 1 := ⟨mm_in 811 (by decide +kernel) rfl, mm_in 57 (by decide +kernel) rfl, by decide +kernel, by decide⟩
theorem ykX4_gather : mm_Yk yX4_gather mX4_gather 1 := ⟨mm_in 815 (by decide +kernel) rfl, mm_in 61 (by decide +kernel) rfl, by decide +kernel, by decide⟩
theorem ykX4_worstLeft : mm_Yk yX4_worstLeft mX4_worstLeft 1 := ⟨mm_in 821 (by decide +kernel) rfl, mm_in 61 (by decide +kernel) rfl, by decide +kernel, by decide⟩
theorem ykX4_passYear : mm_Yk yX4_passYear mX4_passYear 1 := ⟨mm_in 827 (by decide +kernel) rfl, mm_in 61 (by decide +kernel) rfl, by decide +kernel, by decide⟩
theorem ykX7_drift : mm_Yk yX7_drift mX7_drift 3 := ⟨mm_in 831 (by decide +kernel) rfl, mm_in 57 (by decide +kernel) rfl, by decide +kernel, by decide⟩
theorem ykX7_keep : mm_Yk yX7_keep mX7_keep 1 := ⟨mm_in 836 (by decide +kernel) rfl, mm_in 57 (by decide +kernel) rfl, by decide +kernel, by decide⟩
theorem ykX7_back : mm_Yk yX7_back mX7_back 1 := ⟨mm_in 840 (by decide +kernel) rfl, mm_in 57 (by decide +kernel) rfl, by decide +kernel, by decide⟩
theorem ykX7_sheet : mm_Yk yX7_sheet mX7_sheet 3 := ⟨mm_in 844 (by decide +kernel) rfl, mm_in 57 (by decide +kernel) rfl, by decide +kernel, by decide⟩
theorem ykX7_isSheet : mm_Yk yX7_isSheet mX7_isSheet 1 := ⟨mm_in 847 (by decide +kernel) rfl, mm_in 57 (by decide +kernel) rfl, by decide +kernel, by decide⟩
theorem ykX7_isLane : mm_Yk yX7_isLane mX7_isLane 1 := ⟨mm_in 850 (by decide +kernel) rfl, mm_in 57 (by decide +kernel) rfl, by decide +kernel, by decide⟩
theorem ykX3_renew : mm_Yk yX3_renew mX3_renew 2 := ⟨mm_in 854 (by decide +kernel) rfl, mm_in 64 (by decide +kernel) rfl, by decide +kernel, by decide⟩
theorem ykX7_lay : mm_Yk yX7_lay mX7_lay 3 := ⟨mm_in 858 (by decide +kernel) rfl, mm_in 57 (by decide +kernel) rfl, by decide +kernel, by decide⟩
theorem ykX3_refusal : mm_Yk yX3_refusal mX3_refusal 2 := ⟨mm_in 862 (by decide +kernel) rfl, mm_in 64 (by decide +kernel) rfl, by decide +kernel, by decide⟩
theorem ykX3_put : mm_Yk yX3_put mX3_put 2 := ⟨mm_in 866 (by decide +kernel) rfl, mm_in 64 (by decide +kernel) rfl, by decide +kernel, by decide⟩
theorem ykX7_read : mm_Yk yX7_read mX7_read 4 := ⟨mm_in 870 (by decide +kernel) rfl, mm_in 57 (by decide +kernel) rfl, by decide +kernel, by decide⟩
theorem ykX7_visit : mm_Yk yX7_visit mX7_visit 1 := ⟨mm_in 874 (by decide +kernel) rfl, mm_in 57 (by decide +kernel) rfl, by decide +kernel, by decide⟩
theorem ykX7_torn : mm_Yk yX7_torn mX7_torn 0 := ⟨mm_in 880 (by decide +kernel) rfl, mm_in 57 (by decide +kernel) rfl, by decide +kernel, by decide⟩
theorem ykX7_count : mm_Yk yX7_count mX7_count 1 := ⟨mm_in 884 (by decide +kernel) rfl, mm_in 57 (by decide +kernel) rfl, by decide +kernel, by decide⟩
theorem ykX0_allPrices : mm_Yk yX0_allPrices mX0_allPrices 0 := ⟨mm_in 888 (by decide +kernel) rfl, mm_in 58 (by decide +kernel) rfl, by decide +kernel, by decide⟩
theorem ykX8_init : mm_Yk yX8_init mX8_init 0 := ⟨mm_in 893 (by decide +kernel) rfl, mm_in 65 (by decide +kernel) rfl, by decide +kernel, by decide⟩
theorem ykX8_feed : mm_Yk yX8_feed mX8_feed 1 := ⟨mm_in 1001 (by decide +kernel) rfl, mm_in 65 (by decide +kernel) rfl, by decide +kernel, by decide⟩
theorem ykX8_in : mm_Yk yX8_in mX8_in 3 := ⟨mm_in 1005 (by decide +kernel) rfl, mm_in 65 (by decide +kernel) rfl, by decide +kernel, by decide⟩
theorem ykX8_end : mm_Yk yX8_end mX8_end 1 := ⟨mm_in 1009 (by decide +kernel) rfl, mm_in 65 (by decide +kernel) rfl, by decide +kernel, by decide⟩
theorem ykX8_text : mm_Yk yX8_text mX8_text 0 := ⟨mm_in 1013 (by decide +kernel) rfl, mm_in 65 (by decide +kernel) rfl, by decide +kernel, by decide⟩
theorem ykX8_step : mm_Yk yX8_step mX8_step 0 := ⟨mm_in 1017 (by decide +kernel) rfl, mm_in 65 (by decide +kernel) rfl, by decide +kernel, by decide⟩
theorem ykX8_byteAt : mm_Yk yX8_byteAt mX8_byteAt 1 := ⟨mm_in 1021 (by decide +kernel) rfl, mm_in 65 (by decide +kernel) rfl, by decide +kernel, by decide⟩
theorem ykX8_fails : mm_Yk yX8_fails mX8_fails 1 := ⟨mm_in 1029 (by decide +kernel) rfl, mm_in 65 (by decide +kernel) rfl, by decide +kernel, by decide⟩
theorem ykX8_readLine : mm_Yk yX8_readLine mX8_readLine 0 := ⟨mm_in 1033 (by decide +kernel) rfl, mm_in 65 (by decide +kernel) rfl, by decide +kernel, by decide⟩
theorem ykX8_nameHere : mm_Yk yX8_nameHere mX8_nameHere 0 := ⟨mm_in 1037 (by decide +kernel) rfl, mm_in 65 (by decide +kernel) rfl, by decide +kernel, by decide⟩
theorem ykX8_readMore : mm_Yk yX8_readMore mX8_readMore 1 := ⟨mm_in 1042 (by decide +kernel) rfl, mm_in 65 (by decide +kernel) rfl, by decide +kernel, by decide⟩
theorem ykX8_thingHere : mm_Yk yX8_thingHere mX8_thingHere 1 := ⟨mm_in 1046 (by decide +kernel) rfl, mm_in 65 (by decide +kernel) rfl, by decide +kernel, by decide⟩
theorem ykX8_other : mm_Yk yX8_other mX8_other 3 := ⟨mm_in 1050 (by decide +kernel) rfl, mm_in 65 (by decide +kernel) rfl, by decide +kernel, by decide⟩
theorem ykX8_readBan : mm_Yk yX8_readBan mX8_readBan 0 := ⟨mm_in 1054 (by decide +kernel) rfl, mm_in 65 (by decide +kernel) rfl, by decide +kernel, by decide⟩
theorem ykX8_fault : mm_Yk yX8_fault mX8_fault 0 := ⟨mm_in 1058 (by decide +kernel) rfl, mm_in 65 (by decide +kernel) rfl, by decide +kernel, by decide⟩
theorem ykX8_rule : mm_Yk yX8_rule mX8_rule 1 := ⟨mm_in 1062 (by decide +kernel) rfl, mm_in 65 (by decide +kernel) rfl, by decide +kernel, by decide⟩
theorem ykX8_isAllowed : mm_Yk yX8_isAllowed mX8_isAllowed 1 := ⟨mm_in 1066 (by decide +kernel) rfl, mm_in 65 (by decide +kernel) rfl, by decide +kernel, by decide⟩
theorem ykX8_isBroken : mm_Yk yX8_isBroken mX8_isBroken 2 := ⟨mm_in 1070 (by decide +kernel) rfl, mm_in 65 (by decide +kernel) rfl, by decide +kernel, by decide⟩
theorem ykX8_agrees : mm_Yk yX8_agrees mX8_agrees 1 := ⟨mm_in 1074 (by decide +kernel) rfl, mm_in 65 (by decide +kernel) rfl, by decide +kernel, by decide⟩
theorem ykX8_nextOf : mm_Yk yX8_nextOf mX8_nextOf 1 := ⟨mm_in 1078 (by decide +kernel) rfl, mm_in 65 (by decide +kernel) rfl, by decide +kernel, by decide⟩
theorem ykX8_willBe : mm_Yk yX8_willBe mX8_willBe 2 := ⟨mm_in 1082 (by decide +kernel) rfl, mm_in 65 (by decide +kernel) rfl, by decide +kernel, by decide⟩
theorem ykX8_firstOf : mm_Yk yX8_firstOf mX8_firstOf 1 := ⟨mm_in 1086 (by decide +kernel) rfl, mm_in 65 (by decide +kernel) rfl, by decide +kernel, by decide⟩
theorem ykX8_secondOf : mm_Yk yX8_secondOf mX8_secondOf 1 := ⟨mm_in 1090 (by decide +kernel) rfl, mm_in 65 (by decide +kernel) rfl, by decide +kernel, by decide⟩
theorem ykX8_thing : mm_Yk yX8_thing mX8_thing 2 := ⟨mm_in 1094 (by decide +kernel) rfl, mm_in 65 (by decide +kernel) rfl, by decide +kernel, by decide⟩
theorem ykX8_isThing : mm_Yk yX8_isThing mX8_isThing 1 := ⟨mm_in 1098 (by decide +kernel) rfl, mm_in 65 (by decide +kernel) rfl, by decide +kernel, by decide⟩
theorem ykX8_guest : mm_Yk yX8_guest mX8_guest 2 := ⟨mm_in 1102 (by decide +kernel) rfl, mm_in 65 (by decide +kernel) rfl, by decide +kernel, by decide⟩
theorem ykX8_isGuest : mm_Yk yX8_isGuest mX8_isGuest 1 := ⟨mm_in 1106 (by decide +kernel) rfl, mm_in 65 (by decide +kernel) rfl, by decide +kernel, by decide⟩
theorem ykX8_ban : mm_Yk yX8_ban mX8_ban 2 := ⟨mm_in 1110 (by decide +kernel) rfl, mm_in 65 (by decide +kernel) rfl, by decide +kernel, by decide⟩
theorem ykX8_isBan : mm_Yk yX8_isBan mX8_isBan 1 := ⟨mm_in 1114 (by decide +kernel) rfl, mm_in 65 (by decide +kernel) rfl, by decide +kernel, by decide⟩
theorem ykX8_alter : mm_Yk yX8_alter mX8_alter 3 := ⟨mm_in 1119 (by decide +kernel) rfl, mm_in 65 (by decide +kernel) rfl, by decide +kernel, by decide⟩
theorem ykX8_puts : mm_Yk yX8_puts mX8_puts 4 := ⟨mm_in 1124 (by decide +kernel) rfl, mm_in 65 (by decide +kernel) rfl, by decide +kernel, by decide⟩
theorem ykX8_becomes : mm_Yk yX8_becomes mX8_becomes 2 := ⟨mm_in 1128 (by decide +kernel) rfl, mm_in 65 (by decide +kernel) rfl, by decide +kernel, by decide⟩
theorem ykX8_hire : mm_Yk yX8_hire mX8_hire 3 := ⟨mm_in 1132 (by decide +kernel) rfl, mm_in 65 (by decide +kernel) rfl, by decide +kernel, by decide⟩
theorem ykX8_forbid : mm_Yk yX8_forbid mX8_forbid 2 := ⟨mm_in 1137 (by decide +kernel) rfl, mm_in 65 (by decide +kernel) rfl, by decide +kernel, by decide⟩
theorem ykX8_lift : mm_Yk yX8_lift mX8_lift 1 := ⟨mm_in 1141 (by decide +kernel) rfl, mm_in 65 (by decide +kernel) rfl, by decide +kernel, by decide⟩
theorem ykX8_undo : mm_Yk yX8_undo mX8_undo 1 := ⟨mm_in 1145 (by decide +kernel) rfl, mm_in 65 (by decide +kernel) rfl, by decide +kernel, by decide⟩
theorem ykX8_undoes : mm_Yk yX8_undoes mX8_undoes 1 := ⟨mm_in 1149 (by decide +kernel) rfl, mm_in 65 (by decide +kernel) rfl, by decide +kernel, by decide⟩
theorem ykX8_go : mm_Yk yX8_go mX8_go 1 := ⟨mm_in 1153 (by decide +kernel) rfl, mm_in 65 (by decide +kernel) rfl, by decide +kernel, by decide⟩
theorem ykX8_afterYears : mm_Yk yX8_afterYears mX8_afterYears 2 := ⟨mm_in 1158 (by decide +kernel) rfl, mm_in 65 (by decide +kernel) rfl, by decide +kernel, by decide⟩
theorem ykX8_ahead : mm_Yk yX8_ahead mX8_ahead 1 := ⟨mm_in 1162 (by decide +kernel) rfl, mm_in 65 (by decide +kernel) rfl, by decide +kernel, by decide⟩
theorem ykX8_next : mm_Yk yX8_next mX8_next 1 := ⟨mm_in 1166 (by decide +kernel) rfl, mm_in 65 (by decide +kernel) rfl, by decide +kernel, by decide⟩
theorem ykX8_isState : mm_Yk yX8_isState mX8_isState 1 := ⟨mm_in 1170 (by decide +kernel) rfl, mm_in 65 (by decide +kernel) rfl, by decide +kernel, by decide⟩
theorem ykX8_states : mm_Yk yX8_states mX8_states 0 := ⟨mm_in 1174 (by decide +kernel) rfl, mm_in 65 (by decide +kernel) rfl, by decide +kernel, by decide⟩
theorem ykX8_ring : mm_Yk yX8_ring mX8_ring 1 := ⟨mm_in 1178 (by decide +kernel) rfl, mm_in 65 (by decide +kernel) rfl, by decide +kernel, by decide⟩
theorem ykX8_ringOf : mm_Yk yX8_ringOf mX8_ringOf 1 := ⟨mm_in 1183 (by decide +kernel) rfl, mm_in 65 (by decide +kernel) rfl, by decide +kernel, by decide⟩
theorem ykX8_rings : mm_Yk yX8_rings mX8_rings 1 := ⟨mm_in 1187 (by decide +kernel) rfl, mm_in 65 (by decide +kernel) rfl, by decide +kernel, by decide⟩
theorem ykX8_agree : mm_Yk yX8_agree mX8_agree 1 := ⟨mm_in 1192 (by decide +kernel) rfl, mm_in 65 (by decide +kernel) rfl, by decide +kernel, by decide⟩
theorem ykX8_agreeMany : mm_Yk yX8_agreeMany mX8_agreeMany 0 := ⟨mm_in 1196 (by decide +kernel) rfl, mm_in 65 (by decide +kernel) rfl, by decide +kernel, by decide⟩
theorem ykX8_tellsNone : mm_Yk yX8_tellsNone mX8_tellsNone 0 := ⟨mm_in 1200 (by decide +kernel) rfl, mm_in 65 (by decide +kernel) rfl, by decide +kernel, by decide⟩
theorem ykX8_tells : mm_Yk yX8_tells mX8_tells 1 := ⟨mm_in 1204 (by decide +kernel) rfl, mm_in 65 (by decide +kernel) rfl, by decide +kernel, by decide⟩
theorem ykX8_told : mm_Yk yX8_told mX8_told 1 := ⟨mm_in 1208 (by decide +kernel) rfl, mm_in 65 (by decide +kernel) rfl, by decide +kernel, by decide⟩
theorem ykX8_before : mm_Yk yX8_before mX8_before 2 := ⟨mm_in 1212 (by decide +kernel) rfl, mm_in 65 (by decide +kernel) rfl, by decide +kernel, by decide⟩
theorem ykX8_comesOf : mm_Yk yX8_comesOf mX8_comesOf 1 := ⟨mm_in 1216 (by decide +kernel) rfl, mm_in 65 (by decide +kernel) rfl, by decide +kernel, by decide⟩
theorem ykX8_gardens : mm_Yk yX8_gardens mX8_gardens 0 := ⟨mm_in 1220 (by decide +kernel) rfl, mm_in 65 (by decide +kernel) rfl, by decide +kernel, by decide⟩
theorem ykX8_clash : mm_Yk yX8_clash mX8_clash 0 := ⟨mm_in 1224 (by decide +kernel) rfl, mm_in 65 (by decide +kernel) rfl, by decide +kernel, by decide⟩
theorem ykX8_way : mm_Yk yX8_way mX8_way 3 := ⟨mm_in 1228 (by decide +kernel) rfl, mm_in 65 (by decide +kernel) rfl, by decide +kernel, by decide⟩
theorem ykX8_cheapest : mm_Yk yX8_cheapest mX8_cheapest 3 := ⟨mm_in 1234 (by decide +kernel) rfl, mm_in 65 (by decide +kernel) rfl, by decide +kernel, by decide⟩
theorem ykX8_powerOf : mm_Yk yX8_powerOf mX8_powerOf 1 := ⟨mm_in 1238 (by decide +kernel) rfl, mm_in 65 (by decide +kernel) rfl, by decide +kernel, by decide⟩
theorem ykX8_goesWay : mm_Yk yX8_goesWay mX8_goesWay 2 := ⟨mm_in 1242 (by decide +kernel) rfl, mm_in 65 (by decide +kernel) rfl, by decide +kernel, by decide⟩
theorem ykX8_whoIn : mm_Yk yX8_whoIn mX8_whoIn 3 := ⟨mm_in 1246 (by decide +kernel) rfl, mm_in 65 (by decide +kernel) rfl, by decide +kernel, by decide⟩
theorem ykX8_toldWay : mm_Yk yX8_toldWay mX8_toldWay 2 := ⟨mm_in 1250 (by decide +kernel) rfl, mm_in 65 (by decide +kernel) rfl, by decide +kernel, by decide⟩
theorem ykX8_peace : mm_Yk yX8_peace mX8_peace 2 := ⟨mm_in 1254 (by decide +kernel) rfl, mm_in 65 (by decide +kernel) rfl, by decide +kernel, by decide⟩
theorem ykX8_amend : mm_Yk yX8_amend mX8_amend 1 := ⟨mm_in 1258 (by decide +kernel) rfl, mm_in 65 (by decide +kernel) rfl, by decide +kernel, by decide⟩
theorem ykX8_strict : mm_Yk yX8_strict mX8_strict 1 := ⟨mm_in 1262 (by decide +kernel) rfl, mm_in 65 (by decide +kernel) rfl, by decide +kernel, by decide⟩
theorem ykX8_luck : mm_Yk yX8_luck mX8_luck 2 := ⟨mm_in 1266 (by decide +kernel) rfl, mm_in 65 (by decide +kernel) rfl, by decide +kernel, by decide⟩
theorem ykX8_bySlips : mm_Yk yX8_bySlips mX8_bySlips 3 := ⟨mm_in 1270 (by decide +kernel) rfl, mm_in 65 (by decide +kernel) rfl, by decide +kernel, by decide⟩
theorem ykX8_bitsOf : mm_Yk yX8_bitsOf mX8_bitsOf 1 := ⟨mm_in 1273 (by decide +kernel) rfl, mm_in 65 (by decide +kernel) rfl, by decide +kernel, by decide⟩
theorem ykX8_lowest : mm_Yk yX8_lowest mX8_lowest 3 := ⟨mm_in 1276 (by decide +kernel) rfl, mm_in 65 (by decide +kernel) rfl, by decide +kernel, by decide⟩
theorem ykX8_calm : mm_Yk yX8_calm mX8_calm 2 := ⟨mm_in 1281 (by decide +kernel) rfl, mm_in 65 (by decide +kernel) rfl, by decide +kernel, by decide⟩
theorem ykX8_mean : mm_Yk yX8_mean mX8_mean 2 := ⟨mm_in 1285 (by decide +kernel) rfl, mm_in 65 (by decide +kernel) rfl, by decide +kernel, by decide⟩
theorem ykX8_see : mm_Yk yX8_see mX8_see 3 := ⟨mm_in 1289 (by decide +kernel) rfl, mm_in 65 (by decide +kernel) rfl, by decide +kernel, by decide⟩
theorem ykX8_forget : mm_Yk yX8_forget mX8_forget 1 := ⟨mm_in 1293 (by decide +kernel) rfl, mm_in 65 (by decide +kernel) rfl, by decide +kernel, by decide⟩
theorem ykX8_fits : mm_Yk yX8_fits mX8_fits 1 := ⟨mm_in 1297 (by decide +kernel) rfl, mm_in 65 (by decide +kernel) rfl, by decide +kernel, by decide⟩
theorem ykX8_doesFit : mm_Yk yX8_doesFit mX8_doesFit 1 := ⟨mm_in 1301 (by decide +kernel) rfl, mm_in 65 (by decide +kernel) rfl, by decide +kernel, by decide⟩
theorem ykX8_look : mm_Yk yX8_look mX8_look 1 := ⟨mm_in 1305 (by decide +kernel) rfl, mm_in 65 (by decide +kernel) rfl, by decide +kernel, by decide⟩
theorem ykX8_drift : mm_Yk yX8_drift mX8_drift 3 := ⟨mm_in 1309 (by decide +kernel) rfl, mm_in 65 (by decide +kernel) rfl, by decide +kernel, by decide⟩
theorem ykX8_keep : mm_Yk yX8_keep mX8_keep 1 := ⟨mm_in 1315 (by decide +kernel) rfl, mm_in 65 (by decide +kernel) rfl, by decide +kernel, by decide⟩
theorem ykX8_copies : mm_Yk yX8_copies mX8_copies 2 := ⟨mm_in 1319 (by decide +kernel) rfl, mm_in 65 (by decide +kernel) rfl, by decide +kernel, by decide⟩
theorem ykX8_back : mm_Yk yX8_back mX8_back 1 := ⟨mm_in 1323 (by decide +kernel) rfl, mm_in 65 (by decide +kernel) rfl, by decide +kernel, by decide⟩
theorem ykX8_sheet : mm_Yk yX8_sheet mX8_sheet 3 := ⟨mm_in 1327 (by decide +kernel) rfl, mm_in 65 (by decide +kernel) rfl, by decide +kernel, by decide⟩
theorem ykX8_lay : mm_Yk yX8_lay mX8_lay 3 := ⟨mm_in 1331 (by decide +kernel) rfl, mm_in 65 (by decide +kernel) rfl, by decide +kernel, by decide⟩
theorem ykX8_read : mm_Yk yX8_read mX8_read 4 := ⟨mm_in 1335 (by decide +kernel) rfl, mm_in 65 (by decide +kernel) rfl, by decide +kernel, by decide⟩
theorem ykX8_torn : mm_Yk yX8_torn mX8_torn 0 := ⟨mm_in 1341 (by decide +kernel) rfl, mm_in 65 (by decide +kernel) rfl, by decide +kernel, by decide⟩
theorem ykX8_count : mm_Yk yX8_count mX8_count 1 := ⟨mm_in 1345 (by decide +kernel) rfl, mm_in 65 (by decide +kernel) rfl, by decide +kernel, by decide⟩
theorem uX0 : ∀ x ∈ u_ws RX0 TX0 12, x ∈ mm_tb := mm_ins _ [120, 122, 124, 126, 128, 130, 132, 134, 136, 138, 140, 142] (by decide +kernel) (by decide +kernel)
theorem uX1 : ∀ x ∈ u_ws RX1 TX1 5, x ∈ mm_tb := mm_ins _ [192, 194, 196, 198, 200] (by decide +kernel) (by decide +kernel)
theorem uX2 : ∀ x ∈ u_ws RX2 TX2 8, x ∈ mm_tb := mm_ins _ [247, 249, 251, 253, 255, 257, 259, 261] (by decide +kernel) (by decide +kernel)
theorem uX3 : ∀ x ∈ u_ws RX3 TX3 3, x ∈ mm_tb := mm_ins _ [296, 298, 300] (by decide +kernel) (by decide +kernel)
theorem uX4 : ∀ x ∈ u_ws RX4 TX4 6, x ∈ mm_tb := mm_ins _ [217, 219, 221, 223, 225, 227] (by decide +kernel) (by decide +kernel)
theorem uX5 : ∀ x ∈ u_ws RX5 TX5 4, x ∈ mm_tb := mm_ins _ [274, 276, 278, 280] (by decide +kernel) (by decide +kernel)
theorem uX6 : ∀ x ∈ u_ws RX6 TX6 5, x ∈ mm_tb := mm_ins _ [167, 169, 171, 173, 175] (by decide +kernel) (by decide +kernel)
theorem uX7 : ∀ x ∈ u_ws RX7 TX7 10, x ∈ mm_tb := mm_ins _ [313, 315, 317, 319, 321, 323, 325, 327, 329, 331] (by decide +kernel) (by decide +kernel)
theorem uX8 : ∀ x ∈ u_ws RX8 TX8 34, x ∈ mm_tb := mm_ins _ [929, 931, 933, 935, 937, 939, 941, 943, 945, 947, 949, 951, 953, 955, 957, 959, 961, 963, 965, 967, 969, 971, 973, 975, 977, 979, 981, 983, 985, 987, 989, 991, 993, 995] (by decide +kernel) (by decide +kernel)
theorem fl_X0_33 : mm_FL RX0 33 0 0 false .int := ⟨RX0, TX0, 12, tyX0, rfl, uX0, by decide, mm_in 88 (by decide +kernel) rfl, rfl, tyX0_ok, rfl, nmX0, rfl⟩
theorem fl_X1_95 : mm_FL RX1 95 0 0 false .int := ⟨RX0, TX0, 12, tyX0, rfl, uX0, by decide, mm_in 89 (by decide +kernel) rfl, rfl, tyX0_ok, rfl, nmX0, rfl⟩
theorem fl_X7_98 : mm_FL RX7 98 0 0 false .int := ⟨RX0, TX0, 12, tyX0, rfl, uX0, by decide, mm_in 90 (by decide +kernel) rfl, rfl, tyX0_ok, rfl, nmX0, rfl⟩
theorem fl_X0_9 : mm_FL RX0 9 0 1 true (.array .int) := ⟨RX0, TX0, 12, tyX0, rfl, uX0, by decide, mm_in 91 (by decide +kernel) rfl, rfl, tyX0_ok, rfl, nmX0, rfl⟩
theorem fl_X7_127 : mm_FL RX7 127 0 1 true (.array .int) := ⟨RX0, TX0, 12, tyX0, rfl, uX0, by decide, mm_in 92 (by decide +kernel) rfl, rfl, tyX0_ok, rfl, nmX0, rfl⟩
theorem fl_X0_15 : mm_FL RX0 15 0 2 true (.array .int) := ⟨RX0, TX0, 12, tyX0, rfl, uX0, by decide, mm_in 93 (by decide +kernel) rfl, rfl, tyX0_ok, rfl, nmX0, rfl⟩
theorem fl_X7_131 : mm_FL RX7 131 0 2 true (.array .int) := ⟨RX0, TX0, 12, tyX0, rfl, uX0, by decide, mm_in 94 (by decide +kernel) rfl, rfl, tyX0_ok, rfl, nmX0, rfl⟩
theorem fl_X0_18 : mm_FL RX0 18 0 3 true (.array .int) := ⟨RX0, TX0, 12, tyX0, rfl, uX0, by decide, mm_in 95 (by decide +kernel) rfl, rfl, tyX0_ok, rfl, nmX0, rfl⟩
theorem fl_X7_134 : mm_FL RX7 134 0 3 true (.array .int) := ⟨RX0, TX0, 12, tyX0, rfl, uX0, by decide, mm_in 96 (by decide +kernel) rfl, rfl, tyX0_ok, rfl, nmX0, rfl⟩
theorem fl_X0_37 : mm_FL RX0 37 0 4 false .int := ⟨RX0, TX0, 12, tyX0, rfl, uX0, by decide, mm_in 97 (by decide +kernel) rfl, rfl, tyX0_ok, rfl, nmX0, rfl⟩
theorem fl_X2_56 : mm_FL RX2 56 0 4 false .int := ⟨RX0, TX0, 12, tyX0, rfl, uX0, by decide, mm_in 98 (by decide +kernel) rfl, rfl, tyX0_ok, rfl, nmX0, rfl⟩
theorem fl_X1_109 : mm_FL RX1 109 0 4 false .int := ⟨RX0, TX0, 12, tyX0, rfl, uX0, by decide, mm_in 99 (by decide +kernel) rfl, rfl, tyX0_ok, rfl, nmX0, rfl⟩
theorem fl_X7_110 : mm_FL RX7 110 0 4 false .int := ⟨RX0, TX0, 12, tyX0, rfl, uX0, by decide, mm_in 100 (by decide +kernel) rfl, rfl, tyX0_ok, rfl, nmX0, rfl⟩
theorem fl_X0_40 : mm_FL RX0 40 0 5 false .int := ⟨RX0, TX0, 12, tyX0, rfl, uX0, by decide, mm_in 101 (by decide +kernel) rfl, rfl, tyX0_ok, rfl, nmX0, rfl⟩
theorem fl_X2_29 : mm_FL RX2 29 0 5 false .int := ⟨RX0, TX0, 12, tyX0, rfl, uX0, by decide, mm_in 102 (by decide +kernel) rfl, rfl, tyX0_ok, rfl, nmX0, rfl⟩
theorem fl_X7_101 : mm_FL RX7 101 0 5 false .int := ⟨RX0, TX0, 12, tyX0, rfl, uX0, by decide, mm_in 103 (by decide +kernel) rfl, rfl, tyX0_ok, rfl, nmX0, rfl⟩
theorem fl_X1_116 : mm_FL RX1 116 0 5 false .int := ⟨RX0, TX0, 12, tyX0, rfl, uX0, by decide, mm_in 104 (by decide +kernel) rfl, rfl, tyX0_ok, rfl, nmX0, rfl⟩
theorem fl_X0_21 : mm_FL RX0 21 0 6 true (.array .int) := ⟨RX0, TX0, 12, tyX0, rfl, uX0, by decide, mm_in 105 (by decide +kernel) rfl, rfl, tyX0_ok, rfl, nmX0, rfl⟩
theorem fl_X2_63 : mm_FL RX2 63 0 6 true (.array .int) := ⟨RX0, TX0, 12, tyX0, rfl, uX0, by decide, mm_in 106 (by decide +kernel) rfl, rfl, tyX0_ok, rfl, nmX0, rfl⟩
theorem fl_X7_151 : mm_FL RX7 151 0 6 true (.array .int) := ⟨RX0, TX0, 12, tyX0, rfl, uX0, by decide, mm_in 107 (by decide +kernel) rfl, rfl, tyX0_ok, rfl, nmX0, rfl⟩
theorem fl_X0_24 : mm_FL RX0 24 0 7 true (.array .int) := ⟨RX0, TX0, 12, tyX0, rfl, uX0, by decide, mm_in 108 (by decide +kernel) rfl, rfl, tyX0_ok, rfl, nmX0, rfl⟩
theorem fl_X2_70 : mm_FL RX2 70 0 7 true (.array .int) := ⟨RX0, TX0, 12, tyX0, rfl, uX0, by decide, mm_in 109 (by decide +kernel) rfl, rfl, tyX0_ok, rfl, nmX0, rfl⟩
theorem fl_X7_154 : mm_FL RX7 154 0 7 true (.array .int) := ⟨RX0, TX0, 12, tyX0, rfl, uX0, by decide, mm_in 110 (by decide +kernel) rfl, rfl, tyX0_ok, rfl, nmX0, rfl⟩
theorem fl_X0_43 : mm_FL RX0 43 0 8 false .int := ⟨RX0, TX0, 12, tyX0, rfl, uX0, by decide, mm_in 111 (by decide +kernel) rfl, rfl, tyX0_ok, rfl, nmX0, rfl⟩
theorem fl_X7_104 : mm_FL RX7 104 0 8 false .int := ⟨RX0, TX0, 12, tyX0, rfl, uX0, by decide, mm_in 112 (by decide +kernel) rfl, rfl, tyX0_ok, rfl, nmX0, rfl⟩
theorem fl_X1_123 : mm_FL RX1 123 0 8 false .int := ⟨RX0, TX0, 12, tyX0, rfl, uX0, by decide, mm_in 113 (by decide +kernel) rfl, rfl, tyX0_ok, rfl, nmX0, rfl⟩
theorem fl_X0_27 : mm_FL RX0 27 0 9 true (.array .int) := ⟨RX0, TX0, 12, tyX0, rfl, uX0, by decide, mm_in 114 (by decide +kernel) rfl, rfl, tyX0_ok, rfl, nmX0, rfl⟩
theorem fl_X7_160 : mm_FL RX7 160 0 9 true (.array .int) := ⟨RX0, TX0, 12, tyX0, rfl, uX0, by decide, mm_in 115 (by decide +kernel) rfl, rfl, tyX0_ok, rfl, nmX0, rfl⟩
theorem fl_X0_30 : mm_FL RX0 30 0 10 true (.array .int) := ⟨RX0, TX0, 12, tyX0, rfl, uX0, by decide, mm_in 116 (by decide +kernel) rfl, rfl, tyX0_ok, rfl, nmX0, rfl⟩
theorem fl_X7_163 : mm_FL RX7 163 0 10 true (.array .int) := ⟨RX0, TX0, 12, tyX0, rfl, uX0, by decide, mm_in 117 (by decide +kernel) rfl, rfl, tyX0_ok, rfl, nmX0, rfl⟩
theorem fl_X0_46 : mm_FL RX0 46 0 11 false .int := ⟨RX0, TX0, 12, tyX0, rfl, uX0, by decide, mm_in 118 (by decide +kernel) rfl, rfl, tyX0_ok, rfl, nmX0, rfl⟩
theorem fl_X7_107 : mm_FL RX7 107 0 11 false .int := ⟨RX0, TX0, 12, tyX0, rfl, uX0, by decide, mm_in 119 (by decide +kernel) rfl, rfl, tyX0_ok, rfl, nmX0, rfl⟩
theorem fl_X6_9 : mm_FL RX6 9 6 0 true (.array .byte) := ⟨RX6, TX6, 5, tyX6, rfl, uX6, by decide, mm_in 159 (by decide +kernel) rfl, rfl, tyX6_ok, rfl, nmX6, rfl⟩
theorem fl_X6_15 : mm_FL RX6 15 6 1 false .int := ⟨RX6, TX6, 5, tyX6, rfl, uX6, by decide, mm_in 160 (by decide +kernel) rfl, rfl, tyX6_ok, rfl, nmX6, rfl⟩
theorem fl_X7_66 : mm_FL RX7 66 6 1 false .int := ⟨RX6, TX6, 5, tyX6, rfl, uX6, by decide, mm_in 161 (by decide +kernel) rfl, rfl, tyX6_ok, rfl, nmX6, rfl⟩
theorem fl_X6_19 : mm_FL RX6 19 6 2 false .int := ⟨RX6, TX6, 5, tyX6, rfl, uX6, by decide, mm_in 162 (by decide +kernel) rfl, rfl, tyX6_ok, rfl, nmX6, rfl⟩
theorem fl_X1_55 : mm_FL RX1 55 6 3 false .int := ⟨RX6, TX6, 5, tyX6, rfl, uX6, by decide, mm_in 163 (by decide +kernel) rfl, rfl, tyX6_ok, rfl, nmX6, rfl⟩
theorem fl_X6_29 : mm_FL RX6 29 6 3 false .int := ⟨RX6, TX6, 5, tyX6, rfl, uX6, by decide, mm_in 164 (by decide +kernel) rfl, rfl, tyX6_ok, rfl, nmX6, rfl⟩
theorem fl_X6_22 : mm_FL RX6 22 6 4 false .int := ⟨RX6, TX6, 5, tyX6, rfl, uX6, by decide, mm_in 165 (by decide +kernel) rfl, rfl, tyX6_ok, rfl, nmX6, rfl⟩
theorem fl_X1_135 : mm_FL RX1 135 6 4 false .int := ⟨RX6, TX6, 5, tyX6, rfl, uX6, by decide, mm_in 166 (by decide +kernel) rfl, rfl, tyX6_ok, rfl, nmX6, rfl⟩
theorem fl_X1_12 : mm_FL RX1 12 1 0 true (.object "FloorYears$Tape") := ⟨RX1, TX1, 5, tyX1, rfl, uX1, by decide, mm_in 182 (by decide +kernel) rfl, rfl, tyX1_ok, rfl, nmX1, rfl⟩
theorem fl_X7_62 : mm_FL RX7 62 1 0 true (.object "FloorYears$Tape") := ⟨RX1, TX1, 5, tyX1, rfl, uX1, by decide, mm_in 183 (by decide +kernel) rfl, rfl, tyX1_ok, rfl, nmX1, rfl⟩
theorem fl_X1_21 : mm_FL RX1 21 1 1 true (.object "FloorYears$Floor") := ⟨RX1, TX1, 5, tyX1, rfl, uX1, by decide, mm_in 184 (by decide +kernel) rfl, rfl, tyX1_ok, rfl, nmX1, rfl⟩
theorem fl_X7_85 : mm_FL RX7 85 1 1 true (.object "FloorYears$Floor") := ⟨RX1, TX1, 5, tyX1, rfl, uX1, by decide, mm_in 185 (by decide +kernel) rfl, rfl, tyX1_ok, rfl, nmX1, rfl⟩
theorem fl_X1_31 : mm_FL RX1 31 1 2 false .int := ⟨RX1, TX1, 5, tyX1, rfl, uX1, by decide, mm_in 186 (by decide +kernel) rfl, rfl, tyX1_ok, rfl, nmX1, rfl⟩
theorem fl_X7_79 : mm_FL RX7 79 1 2 false .int := ⟨RX1, TX1, 5, tyX1, rfl, uX1, by decide, mm_in 187 (by decide +kernel) rfl, rfl, tyX1_ok, rfl, nmX1, rfl⟩
theorem fl_X1_35 : mm_FL RX1 35 1 3 false .int := ⟨RX1, TX1, 5, tyX1, rfl, uX1, by decide, mm_in 188 (by decide +kernel) rfl, rfl, tyX1_ok, rfl, nmX1, rfl⟩
theorem fl_X7_82 : mm_FL RX7 82 1 3 false .int := ⟨RX1, TX1, 5, tyX1, rfl, uX1, by decide, mm_in 189 (by decide +kernel) rfl, rfl, tyX1_ok, rfl, nmX1, rfl⟩
theorem fl_X1_38 : mm_FL RX1 38 1 4 false .int := ⟨RX1, TX1, 5, tyX1, rfl, uX1, by decide, mm_in 190 (by decide +kernel) rfl, rfl, tyX1_ok, rfl, nmX1, rfl⟩
theorem fl_X7_95 : mm_FL RX7 95 1 4 false .int := ⟨RX1, TX1, 5, tyX1, rfl, uX1, by decide, mm_in 191 (by decide +kernel) rfl, rfl, tyX1_ok, rfl, nmX1, rfl⟩
theorem fl_X4_25 : mm_FL RX4 25 4 0 false .int := ⟨RX4, TX4, 6, tyX4, rfl, uX4, by decide, mm_in 209 (by decide +kernel) rfl, rfl, tyX4_ok, rfl, nmX4, rfl⟩
theorem fl_X7_92 : mm_FL RX7 92 4 0 false .int := ⟨RX4, TX4, 6, tyX4, rfl, uX4, by decide, mm_in 210 (by decide +kernel) rfl, rfl, tyX4_ok, rfl, nmX4, rfl⟩
theorem fl_X4_9 : mm_FL RX4 9 4 1 true (.array .int) := ⟨RX4, TX4, 6, tyX4, rfl, uX4, by decide, mm_in 211 (by decide +kernel) rfl, rfl, tyX4_ok, rfl, nmX4, rfl⟩
theorem fl_X4_15 : mm_FL RX4 15 4 2 true (.array .int) := ⟨RX4, TX4, 6, tyX4, rfl, uX4, by decide, mm_in 212 (by decide +kernel) rfl, rfl, tyX4_ok, rfl, nmX4, rfl⟩
theorem fl_X4_18 : mm_FL RX4 18 4 3 true (.array .boolean) := ⟨RX4, TX4, 6, tyX4, rfl, uX4, by decide, mm_in 213 (by decide +kernel) rfl, rfl, tyX4_ok, rfl, nmX4, rfl⟩
theorem fl_X4_42 : mm_FL RX4 42 4 4 false .int := ⟨RX4, TX4, 6, tyX4, rfl, uX4, by decide, mm_in 214 (by decide +kernel) rfl, rfl, tyX4_ok, rfl, nmX4, rfl⟩
theorem fl_X7_275 : mm_FL RX7 275 4 4 false .int := ⟨RX4, TX4, 6, tyX4, rfl, uX4, by decide, mm_in 215 (by decide +kernel) rfl, rfl, tyX4_ok, rfl, nmX4, rfl⟩
theorem fl_X4_22 : mm_FL RX4 22 4 5 true (.array .int) := ⟨RX4, TX4, 6, tyX4, rfl, uX4, by decide, mm_in 216 (by decide +kernel) rfl, rfl, tyX4_ok, rfl, nmX4, rfl⟩
theorem fl_X2_9 : mm_FL RX2 9 2 0 true (.array .int) := ⟨RX2, TX2, 8, tyX2, rfl, uX2, by decide, mm_in 236 (by decide +kernel) rfl, rfl, tyX2_ok, rfl, nmX2, rfl⟩
theorem fl_X2_15 : mm_FL RX2 15 2 1 true (.array .int) := ⟨RX2, TX2, 8, tyX2, rfl, uX2, by decide, mm_in 237 (by decide +kernel) rfl, rfl, tyX2_ok, rfl, nmX2, rfl⟩
theorem fl_X2_97 : mm_FL RX2 97 2 2 false .int := ⟨RX2, TX2, 8, tyX2, rfl, uX2, by decide, mm_in 238 (by decide +kernel) rfl, rfl, tyX2_ok, rfl, nmX2, rfl⟩
theorem fl_X7_248 : mm_FL RX7 248 2 2 false .int := ⟨RX2, TX2, 8, tyX2, rfl, uX2, by decide, mm_in 239 (by decide +kernel) rfl, rfl, tyX2_ok, rfl, nmX2, rfl⟩
theorem fl_X2_45 : mm_FL RX2 45 2 3 false .int := ⟨RX2, TX2, 8, tyX2, rfl, uX2, by decide, mm_in 240 (by decide +kernel) rfl, rfl, tyX2_ok, rfl, nmX2, rfl⟩
theorem fl_X7_251 : mm_FL RX7 251 2 3 false .int := ⟨RX2, TX2, 8, tyX2, rfl, uX2, by decide, mm_in 241 (by decide +kernel) rfl, rfl, tyX2_ok, rfl, nmX2, rfl⟩
theorem fl_X2_25 : mm_FL RX2 25 2 4 false .boolean := ⟨RX2, TX2, 8, tyX2, rfl, uX2, by decide, mm_in 242 (by decide +kernel) rfl, rfl, tyX2_ok, rfl, nmX2, rfl⟩
theorem fl_X7_237 : mm_FL RX7 237 2 4 false .boolean := ⟨RX2, TX2, 8, tyX2, rfl, uX2, by decide, mm_in 243 (by decide +kernel) rfl, rfl, tyX2_ok, rfl, nmX2, rfl⟩
theorem fl_X2_18 : mm_FL RX2 18 2 5 false .int := ⟨RX2, TX2, 8, tyX2, rfl, uX2, by decide, mm_in 244 (by decide +kernel) rfl, rfl, tyX2_ok, rfl, nmX2, rfl⟩
theorem fl_X2_22 : mm_FL RX2 22 2 6 false .int := ⟨RX2, TX2, 8, tyX2, rfl, uX2, by decide, mm_in 245 (by decide +kernel) rfl, rfl, tyX2_ok, rfl, nmX2, rfl⟩
theorem fl_X2_42 : mm_FL RX2 42 2 7 false .int := ⟨RX2, TX2, 8, tyX2, rfl, uX2, by decide, mm_in 246 (by decide +kernel) rfl, rfl, tyX2_ok, rfl, nmX2, rfl⟩
theorem fl_X5_9 : mm_FL RX5 9 5 0 false .int := ⟨RX5, TX5, 4, tyX5, rfl, uX5, by decide, mm_in 270 (by decide +kernel) rfl, rfl, tyX5_ok, rfl, nmX5, rfl⟩
theorem fl_X5_15 : mm_FL RX5 15 5 1 false .int := ⟨RX5, TX5, 4, tyX5, rfl, uX5, by decide, mm_in 271 (by decide +kernel) rfl, rfl, tyX5_ok, rfl, nmX5, rfl⟩
theorem fl_X5_18 : mm_FL RX5 18 5 2 false .int := ⟨RX5, TX5, 4, tyX5, rfl, uX5, by decide, mm_in 272 (by decide +kernel) rfl, rfl, tyX5_ok, rfl, nmX5, rfl⟩
theorem fl_X5_21 : mm_FL RX5 21 5 3 false .int := ⟨RX5, TX5, 4, tyX5, rfl, uX5, by decide, mm_in 273 (by decide +kernel) rfl, rfl, tyX5_ok, rfl, nmX5, rfl⟩
theorem fl_X3_9 : mm_FL RX3 9 3 0 false .int := ⟨RX3, TX3, 3, tyX3, rfl, uX3, by decide, mm_in 290 (by decide +kernel) rfl, rfl, tyX3_ok, rfl, nmX3, rfl⟩
theorem fl_X7_294 : mm_FL RX7 294 3 0 false .int := ⟨RX3, TX3, 3, tyX3, rfl, uX3, by decide, mm_in 291 (by decide +kernel) rfl, rfl, tyX3_ok, rfl, nmX3, rfl⟩
theorem fl_X3_19 : mm_FL RX3 19 3 1 false .int := ⟨RX3, TX3, 3, tyX3, rfl, uX3, by decide, mm_in 292 (by decide +kernel) rfl, rfl, tyX3_ok, rfl, nmX3, rfl⟩
theorem fl_X7_311 : mm_FL RX7 311 3 1 false .int := ⟨RX3, TX3, 3, tyX3, rfl, uX3, by decide, mm_in 293 (by decide +kernel) rfl, rfl, tyX3_ok, rfl, nmX3, rfl⟩
theorem fl_X3_15 : mm_FL RX3 15 3 2 true (.array .int) := ⟨RX3, TX3, 3, tyX3, rfl, uX3, by decide, mm_in 294 (by decide +kernel) rfl, rfl, tyX3_ok, rfl, nmX3, rfl⟩
theorem fl_X7_302 : mm_FL RX7 302 3 2 true (.array .int) := ⟨RX3, TX3, 3, tyX3, rfl, uX3, by decide, mm_in 295 (by decide +kernel) rfl, rfl, tyX3_ok, rfl, nmX3, rfl⟩
theorem fl_X7_10 : mm_FL RX7 10 7 0 true (.object "FloorYears$Floor") := ⟨RX7, TX7, 10, tyX7, rfl, uX7, by decide, mm_in 303 (by decide +kernel) rfl, rfl, tyX7_ok, rfl, nmX7, rfl⟩
theorem fl_X7_16 : mm_FL RX7 16 7 1 true (.object "FloorYears$Floor") := ⟨RX7, TX7, 10, tyX7, rfl, uX7, by decide, mm_in 304 (by decide +kernel) rfl, rfl, tyX7_ok, rfl, nmX7, rfl⟩
theorem fl_X7_19 : mm_FL RX7 19 7 2 true (.array (.object "FloorYears$Floor")) := ⟨RX7, TX7, 10, tyX7, rfl, uX7, by decide, mm_in 305 (by decide +kernel) rfl, rfl, tyX7_ok, rfl, nmX7, rfl⟩
theorem fl_X7_23 : mm_FL RX7 23 7 3 true (.array .boolean) := ⟨RX7, TX7, 10, tyX7, rfl, uX7, by decide, mm_in 306 (by decide +kernel) rfl, rfl, tyX7_ok, rfl, nmX7, rfl⟩
theorem fl_X7_30 : mm_FL RX7 30 7 4 true (.object "FloorYears$Reader") := ⟨RX7, TX7, 10, tyX7, rfl, uX7, by decide, mm_in 307 (by decide +kernel) rfl, rfl, tyX7_ok, rfl, nmX7, rfl⟩
theorem fl_X7_37 : mm_FL RX7 37 7 5 true (.object "FloorYears$Sights") := ⟨RX7, TX7, 10, tyX7, rfl, uX7, by decide, mm_in 308 (by decide +kernel) rfl, rfl, tyX7_ok, rfl, nmX7, rfl⟩
theorem fl_X7_44 : mm_FL RX7 44 7 6 true (.object "FloorYears$Search") := ⟨RX7, TX7, 10, tyX7, rfl, uX7, by decide, mm_in 309 (by decide +kernel) rfl, rfl, tyX7_ok, rfl, nmX7, rfl⟩
theorem fl_X7_51 : mm_FL RX7 51 7 7 true (.object "FloorYears$Tally") := ⟨RX7, TX7, 10, tyX7, rfl, uX7, by decide, mm_in 310 (by decide +kernel) rfl, rfl, tyX7_ok, rfl, nmX7, rfl⟩
theorem fl_X7_57 : mm_FL RX7 57 7 8 true (.array (.object "FloorYears$Sheet")) := ⟨RX7, TX7, 10, tyX7, rfl, uX7, by decide, mm_in 311 (by decide +kernel) rfl, rfl, tyX7_ok, rfl, nmX7, rfl⟩
theorem fl_X7_308 : mm_FL RX7 308 7 9 false .int := ⟨RX7, TX7, 10, tyX7, rfl, uX7, by decide, mm_in 312 (by decide +kernel) rfl, rfl, tyX7_ok, rfl, nmX7, rfl⟩
theorem fl_X8_7 : mm_FL RX8 7 8 0 true (.array .int) := ⟨RX8, TX8, 34, tyX8, rfl, uX8, by decide, mm_in 895 (by decide +kernel) rfl, rfl, tyX8_ok, rfl, nmX8, rfl⟩
theorem fl_X8_125 : mm_FL RX8 125 8 1 false .int := ⟨RX8, TX8, 34, tyX8, rfl, uX8, by decide, mm_in 896 (by decide +kernel) rfl, rfl, tyX8_ok, rfl, nmX8, rfl⟩
theorem fl_X8_128 : mm_FL RX8 128 8 2 false .int := ⟨RX8, TX8, 34, tyX8, rfl, uX8, by decide, mm_in 897 (by decide +kernel) rfl, rfl, tyX8_ok, rfl, nmX8, rfl⟩
theorem fl_X8_13 : mm_FL RX8 13 8 3 true (.array .int) := ⟨RX8, TX8, 34, tyX8, rfl, uX8, by decide, mm_in 898 (by decide +kernel) rfl, rfl, tyX8_ok, rfl, nmX8, rfl⟩
theorem fl_X8_101 : mm_FL RX8 101 8 4 false .int := ⟨RX8, TX8, 34, tyX8, rfl, uX8, by decide, mm_in 899 (by decide +kernel) rfl, rfl, tyX8_ok, rfl, nmX8, rfl⟩
theorem fl_X8_104 : mm_FL RX8 104 8 5 false .int := ⟨RX8, TX8, 34, tyX8, rfl, uX8, by decide, mm_in 900 (by decide +kernel) rfl, rfl, tyX8_ok, rfl, nmX8, rfl⟩
theorem fl_X8_95 : mm_FL RX8 95 8 6 false .int := ⟨RX8, TX8, 34, tyX8, rfl, uX8, by decide, mm_in 901 (by decide +kernel) rfl, rfl, tyX8_ok, rfl, nmX8, rfl⟩
theorem fl_X8_16 : mm_FL RX8 16 8 7 true (.array .int) := ⟨RX8, TX8, 34, tyX8, rfl, uX8, by decide, mm_in 902 (by decide +kernel) rfl, rfl, tyX8_ok, rfl, nmX8, rfl⟩
theorem fl_X8_50 : mm_FL RX8 50 8 8 false .int := ⟨RX8, TX8, 34, tyX8, rfl, uX8, by decide, mm_in 903 (by decide +kernel) rfl, rfl, tyX8_ok, rfl, nmX8, rfl⟩
theorem fl_X8_122 : mm_FL RX8 122 8 9 false .int := ⟨RX8, TX8, 34, tyX8, rfl, uX8, by decide, mm_in 904 (by decide +kernel) rfl, rfl, tyX8_ok, rfl, nmX8, rfl⟩
theorem fl_X8_54 : mm_FL RX8 54 8 10 false .int := ⟨RX8, TX8, 34, tyX8, rfl, uX8, by decide, mm_in 905 (by decide +kernel) rfl, rfl, tyX8_ok, rfl, nmX8, rfl⟩
theorem fl_X8_60 : mm_FL RX8 60 8 11 false .int := ⟨RX8, TX8, 34, tyX8, rfl, uX8, by decide, mm_in 906 (by decide +kernel) rfl, rfl, tyX8_ok, rfl, nmX8, rfl⟩
theorem fl_X8_66 : mm_FL RX8 66 8 12 false .int := ⟨RX8, TX8, 34, tyX8, rfl, uX8, by decide, mm_in 907 (by decide +kernel) rfl, rfl, tyX8_ok, rfl, nmX8, rfl⟩
theorem fl_X8_57 : mm_FL RX8 57 8 13 false .int := ⟨RX8, TX8, 34, tyX8, rfl, uX8, by decide, mm_in 908 (by decide +kernel) rfl, rfl, tyX8_ok, rfl, nmX8, rfl⟩
theorem fl_X8_63 : mm_FL RX8 63 8 14 false .int := ⟨RX8, TX8, 34, tyX8, rfl, uX8, by decide, mm_in 909 (by decide +kernel) rfl, rfl, tyX8_ok, rfl, nmX8, rfl⟩
theorem fl_X8_73 : mm_FL RX8 73 8 15 false .int := ⟨RX8, TX8, 34, tyX8, rfl, uX8, by decide, mm_in 910 (by decide +kernel) rfl, rfl, tyX8_ok, rfl, nmX8, rfl⟩
theorem fl_X8_19 : mm_FL RX8 19 8 16 true (.array .int) := ⟨RX8, TX8, 34, tyX8, rfl, uX8, by decide, mm_in 911 (by decide +kernel) rfl, rfl, tyX8_ok, rfl, nmX8, rfl⟩
theorem fl_X8_22 : mm_FL RX8 22 8 17 true (.array .int) := ⟨RX8, TX8, 34, tyX8, rfl, uX8, by decide, mm_in 912 (by decide +kernel) rfl, rfl, tyX8_ok, rfl, nmX8, rfl⟩
theorem fl_X8_200 : mm_FL RX8 200 8 18 false .int := ⟨RX8, TX8, 34, tyX8, rfl, uX8, by decide, mm_in 913 (by decide +kernel) rfl, rfl, tyX8_ok, rfl, nmX8, rfl⟩
theorem fl_X8_203 : mm_FL RX8 203 8 19 false .int := ⟨RX8, TX8, 34, tyX8, rfl, uX8, by decide, mm_in 914 (by decide +kernel) rfl, rfl, tyX8_ok, rfl, nmX8, rfl⟩
theorem fl_X8_206 : mm_FL RX8 206 8 20 false .int := ⟨RX8, TX8, 34, tyX8, rfl, uX8, by decide, mm_in 915 (by decide +kernel) rfl, rfl, tyX8_ok, rfl, nmX8, rfl⟩
theorem fl_X8_209 : mm_FL RX8 209 8 21 false .int := ⟨RX8, TX8, 34, tyX8, rfl, uX8, by decide, mm_in 916 (by decide +kernel) rfl, rfl, tyX8_ok, rfl, nmX8, rfl⟩
theorem fl_X8_227 : mm_FL RX8 227 8 22 false .int := ⟨RX8, TX8, 34, tyX8, rfl, uX8, by decide, mm_in 917 (by decide +kernel) rfl, rfl, tyX8_ok, rfl, nmX8, rfl⟩
theorem fl_X8_230 : mm_FL RX8 230 8 23 false .int := ⟨RX8, TX8, 34, tyX8, rfl, uX8, by decide, mm_in 918 (by decide +kernel) rfl, rfl, tyX8_ok, rfl, nmX8, rfl⟩
theorem fl_X8_239 : mm_FL RX8 239 8 24 false .int := ⟨RX8, TX8, 34, tyX8, rfl, uX8, by decide, mm_in 919 (by decide +kernel) rfl, rfl, tyX8_ok, rfl, nmX8, rfl⟩
theorem fl_X8_242 : mm_FL RX8 242 8 25 false .int := ⟨RX8, TX8, 34, tyX8, rfl, uX8, by decide, mm_in 920 (by decide +kernel) rfl, rfl, tyX8_ok, rfl, nmX8, rfl⟩
theorem fl_X8_25 : mm_FL RX8 25 8 26 true (.array .int) := ⟨RX8, TX8, 34, tyX8, rfl, uX8, by decide, mm_in 921 (by decide +kernel) rfl, rfl, tyX8_ok, rfl, nmX8, rfl⟩
theorem fl_X8_131 : mm_FL RX8 131 8 27 false .int := ⟨RX8, TX8, 34, tyX8, rfl, uX8, by decide, mm_in 922 (by decide +kernel) rfl, rfl, tyX8_ok, rfl, nmX8, rfl⟩
theorem fl_X8_28 : mm_FL RX8 28 8 28 true (.array .int) := ⟨RX8, TX8, 34, tyX8, rfl, uX8, by decide, mm_in 923 (by decide +kernel) rfl, rfl, tyX8_ok, rfl, nmX8, rfl⟩
theorem fl_X8_31 : mm_FL RX8 31 8 29 true (.array .boolean) := ⟨RX8, TX8, 34, tyX8, rfl, uX8, by decide, mm_in 924 (by decide +kernel) rfl, rfl, tyX8_ok, rfl, nmX8, rfl⟩
theorem fl_X8_35 : mm_FL RX8 35 8 30 true (.array .int) := ⟨RX8, TX8, 34, tyX8, rfl, uX8, by decide, mm_in 925 (by decide +kernel) rfl, rfl, tyX8_ok, rfl, nmX8, rfl⟩
theorem fl_X8_38 : mm_FL RX8 38 8 31 true (.array .int) := ⟨RX8, TX8, 34, tyX8, rfl, uX8, by decide, mm_in 926 (by decide +kernel) rfl, rfl, tyX8_ok, rfl, nmX8, rfl⟩
theorem fl_X8_41 : mm_FL RX8 41 8 32 true (.array .int) := ⟨RX8, TX8, 34, tyX8, rfl, uX8, by decide, mm_in 927 (by decide +kernel) rfl, rfl, tyX8_ok, rfl, nmX8, rfl⟩
theorem fl_X8_287 : mm_FL RX8 287 8 33 false .int := ⟨RX8, TX8, 34, tyX8, rfl, uX8, by decide, mm_in 928 (by decide +kernel) rfl, rfl, tyX8_ok, rfl, nmX8, rfl⟩
theorem lk_L_9 : mm_LkI RL 9 yX7_init := ⟨Or.inl (mm_in 76 (by decide +kernel) rfl), mm_in 77 (by decide +kernel) rfl, rfl⟩
theorem lk_X7_1 : Cond.methodLink RX7 1 objectInit ∈ mm_tb := mm_in 79 (by decide +kernel) rfl
theorem lk_X0_3 : Cond.methodLink RX0 3 objectInit ∈ mm_tb := mm_in 87 (by decide +kernel) rfl
theorem lk_X1_3 : Cond.methodLink RX1 3 objectInit ∈ mm_tb := mm_in 152 (by decide +kernel) rfl
theorem lk_X6_3 : Cond.methodLink RX6 3 objectInit ∈ mm_tb := mm_in 158 (by decide +kernel) rfl
theorem lk_X4_3 : Cond.methodLink RX4 3 objectInit ∈ mm_tb := mm_in 208 (by decide +kernel) rfl
theorem lk_X2_3 : Cond.methodLink RX2 3 objectInit ∈ mm_tb := mm_in 235 (by decide +kernel) rfl
theorem lk_X5_3 : Cond.methodLink RX5 3 objectInit ∈ mm_tb := mm_in 269 (by decide +kernel) rfl
theorem lk_X3_3 : Cond.methodLink RX3 3 objectInit ∈ mm_tb := mm_in 289 (by decide +kernel) rfl
theorem lk_L_13 : mm_LkV RL 13 yX7_feed := ⟨Or.inl (mm_in 334 (by decide +kernel) rfl), mm_in 335 (by decide +kernel) rfl, mm_in 336 (by decide +kernel) rfl⟩
theorem lk_X7_72 : mm_LkV RX7 72 yX6_put := ⟨Or.inl (mm_in 338 (by decide +kernel) rfl), mm_in 339 (by decide +kernel) rfl, mm_in 340 (by decide +kernel) rfl⟩
theorem lk_L_18 : mm_LkV RL 18 yX7_end := ⟨Or.inl (mm_in 342 (by decide +kernel) rfl), mm_in 343 (by decide +kernel) rfl, mm_in 344 (by decide +kernel) rfl⟩
theorem lk_L_22 : mm_LkV RL 22 yX7_text := ⟨Or.inl (mm_in 346 (by decide +kernel) rfl), mm_in 347 (by decide +kernel) rfl, mm_in 348 (by decide +kernel) rfl⟩
theorem lk_X7_76 : mm_LkV RX7 76 yX1_readAll := ⟨Or.inl (mm_in 350 (by decide +kernel) rfl), mm_in 351 (by decide +kernel) rfl, mm_in 352 (by decide +kernel) rfl⟩
theorem lk_X1_25 : mm_LkV RX1 25 yX0_clear := ⟨Or.inl (mm_in 354 (by decide +kernel) rfl), mm_in 355 (by decide +kernel) rfl, mm_in 356 (by decide +kernel) rfl⟩
theorem lk_X1_28 : mm_LkV RX1 28 yX6_rewind := ⟨Or.inl (mm_in 358 (by decide +kernel) rfl), mm_in 359 (by decide +kernel) rfl, mm_in 360 (by decide +kernel) rfl⟩
theorem lk_X1_41 : mm_LkV RX1 41 yX1_readLine := ⟨Or.inl (mm_in 362 (by decide +kernel) rfl), mm_in 364 (by decide +kernel) rfl, mm_in 0 (by decide +kernel) rfl⟩
theorem lk_X1_52 : mm_LkV RX1 52 yX1_takeToken := ⟨Or.inl (mm_in 366 (by decide +kernel) rfl), mm_in 368 (by decide +kernel) rfl, mm_in 1 (by decide +kernel) rfl⟩
theorem lk_X1_132 : mm_LkV RX1 132 yX6_readToken := ⟨Or.inl (mm_in 370 (by decide +kernel) rfl), mm_in 371 (by decide +kernel) rfl, mm_in 372 (by decide +kernel) rfl⟩
theorem lk_X6_25 : mm_LkV RX6 25 yX6_sortAt := ⟨Or.inl (mm_in 374 (by decide +kernel) rfl), mm_in 376 (by decide +kernel) rfl, mm_in 2 (by decide +kernel) rfl⟩
theorem lk_X1_48 : mm_LkV RX1 48 yX1_failIf := ⟨Or.inl (mm_in 378 (by decide +kernel) rfl), mm_in 380 (by decide +kernel) rfl, mm_in 3 (by decide +kernel) rfl⟩
theorem lk_X1_58 : mm_LkV RX1 58 yX1_wordRead := ⟨Or.inl (mm_in 382 (by decide +kernel) rfl), mm_in 384 (by decide +kernel) rfl, mm_in 4 (by decide +kernel) rfl⟩
theorem lk_X1_77 : mm_LkV RX1 77 yX6_tokenIs := ⟨Or.inl (mm_in 387 (by decide +kernel) rfl), mm_in 388 (by decide +kernel) rfl, mm_in 389 (by decide +kernel) rfl⟩
theorem lk_X6_32 : mm_LkV RX6 32 yJ0_length_8abf5 := ⟨Or.inl (mm_in 391 (by decide +kernel) rfl), mm_in 392 (by decide +kernel) rfl, mm_in 393 (by decide +kernel) rfl⟩
theorem lk_J0_335 : mm_LkV RJ0 335 yJ0_coder_7d493 := ⟨Or.inl (mm_in 395 (by decide +kernel) rfl), mm_in 396 (by decide +kernel) rfl, mm_in 397 (by decide +kernel) rfl⟩
theorem lk_X6_37 : mm_LkV RX6 37 yJ0_charAt_5068e := ⟨Or.inl (mm_in 401 (by decide +kernel) rfl), mm_in 402 (by decide +kernel) rfl, mm_in 403 (by decide +kernel) rfl⟩
theorem lk_J0_492 : mm_LkV RJ0 492 yJ0_isLatin1_aae02 := ⟨Or.inl (mm_in 405 (by decide +kernel) rfl), mm_in 406 (by decide +kernel) rfl, mm_in 407 (by decide +kernel) rfl⟩
theorem lk_J0_495 : mm_LkS RJ0 495 yJ1_charAt_3b067 := ⟨Or.inl (mm_in 409 (by decide +kernel) rfl), mm_in 410 (by decide +kernel) rfl⟩
theorem lk_J1_9 : mm_LkS RJ1 9 yJ0_checkIndex_df160 := ⟨Or.inl (mm_in 412 (by decide +kernel) rfl), mm_in 413 (by decide +kernel) rfl⟩
theorem lk_J0_1059 : mm_LkS RJ0 1059 yJ3_checkIndex_8e157 := ⟨Or.inl (mm_in 417 (by decide +kernel) rfl), mm_in 418 (by decide +kernel) rfl⟩
theorem lk_J0_498 : mm_LkS RJ0 498 yJ2_charAt_3b067 := ⟨Or.inl (mm_in 420 (by decide +kernel) rfl), mm_in 421 (by decide +kernel) rfl⟩
theorem lk_J2_67 : mm_LkS RJ2 67 yJ2_checkIndex_2214a := ⟨Or.inl (mm_in 423 (by decide +kernel) rfl), mm_in 424 (by decide +kernel) rfl⟩
theorem lk_J2_48 : mm_LkS RJ2 48 yJ2_length_9d52b := ⟨Or.inl (mm_in 426 (by decide +kernel) rfl), mm_in 427 (by decide +kernel) rfl⟩
theorem lk_J2_414 : mm_LkS RJ2 414 yJ0_checkIndex_df160 := ⟨Or.inl (mm_in 429 (by decide +kernel) rfl), mm_in 413 (by decide +kernel) rfl⟩
theorem lk_J2_71 : mm_LkS RJ2 71 yJ2_getChar_3b067 := ⟨Or.inl (mm_in 430 (by decide +kernel) rfl), mm_in 431 (by decide +kernel) rfl⟩
theorem lk_X1_62 : mm_LkV RX1 62 yX1_readSo := ⟨Or.inl (mm_in 446 (by decide +kernel) rfl), mm_in 448 (by decide +kernel) rfl, mm_in 5 (by decide +kernel) rfl⟩
theorem lk_X1_98 : mm_LkV RX1 98 yX1_takeNumber := ⟨Or.inl (mm_in 450 (by decide +kernel) rfl), mm_in 452 (by decide +kernel) rfl, mm_in 6 (by decide +kernel) rfl⟩
theorem lk_X1_129 : mm_LkV RX1 129 yX6_tokenValue := ⟨Or.inl (mm_in 454 (by decide +kernel) rfl), mm_in 455 (by decide +kernel) rfl, mm_in 456 (by decide +kernel) rfl⟩
theorem lk_X1_102 : mm_LkV RX1 102 yX1_takeStop := ⟨Or.inl (mm_in 461 (by decide +kernel) rfl), mm_in 463 (by decide +kernel) rfl, mm_in 7 (by decide +kernel) rfl⟩
theorem lk_X1_65 : mm_LkV RX1 65 yX1_readGuest := ⟨Or.inl (mm_in 465 (by decide +kernel) rfl), mm_in 467 (by decide +kernel) rfl, mm_in 8 (by decide +kernel) rfl⟩
theorem lk_X1_119 : mm_LkV RX1 119 yX0_addGuest := ⟨Or.inl (mm_in 469 (by decide +kernel) rfl), mm_in 470 (by decide +kernel) rfl, mm_in 471 (by decide +kernel) rfl⟩
theorem lk_X1_68 : mm_LkV RX1 68 yX1_readBan := ⟨Or.inl (mm_in 473 (by decide +kernel) rfl), mm_in 475 (by decide +kernel) rfl, mm_in 9 (by decide +kernel) rfl⟩
theorem lk_X1_126 : mm_LkV RX1 126 yX0_addBan := ⟨Or.inl (mm_in 477 (by decide +kernel) rfl), mm_in 478 (by decide +kernel) rfl, mm_in 479 (by decide +kernel) rfl⟩
theorem lk_X1_71 : mm_LkV RX1 71 yX1_readThing := ⟨Or.inl (mm_in 481 (by decide +kernel) rfl), mm_in 483 (by decide +kernel) rfl, mm_in 10 (by decide +kernel) rfl⟩
theorem lk_X1_105 : mm_LkV RX1 105 yX0_addThing := ⟨Or.inl (mm_in 485 (by decide +kernel) rfl), mm_in 486 (by decide +kernel) rfl, mm_in 487 (by decide +kernel) rfl⟩
theorem lk_X1_45 : mm_LkV RX1 45 yX0_isWhole := ⟨Or.inl (mm_in 489 (by decide +kernel) rfl), mm_in 490 (by decide +kernel) rfl, mm_in 491 (by decide +kernel) rfl⟩
theorem lk_X0_55 : mm_LkV RX0 55 yX0_states := ⟨Or.inl (mm_in 493 (by decide +kernel) rfl), mm_in 494 (by decide +kernel) rfl, mm_in 495 (by decide +kernel) rfl⟩
theorem lk_X0_59 : mm_LkV RX0 59 yX0_hasThing := ⟨Or.inl (mm_in 497 (by decide +kernel) rfl), mm_in 498 (by decide +kernel) rfl, mm_in 499 (by decide +kernel) rfl⟩
theorem lk_X7_88 : mm_LkV RX7 88 yX0_copyFrom := ⟨Or.inl (mm_in 501 (by decide +kernel) rfl), mm_in 502 (by decide +kernel) rfl, mm_in 503 (by decide +kernel) rfl⟩
theorem lk_X0_49 : Cond.methodLink RX0 49 arraycopyName ∈ mm_tb := mm_in 505 (by decide +kernel) rfl
theorem lk_L_27 : mm_LkV RL 27 yX7_fault := ⟨Or.inl (mm_in 508 (by decide +kernel) rfl), mm_in 509 (by decide +kernel) rfl, mm_in 510 (by decide +kernel) rfl⟩
theorem lk_L_31 : mm_LkV RL 31 yX7_rule := ⟨Or.inl (mm_in 512 (by decide +kernel) rfl), mm_in 513 (by decide +kernel) rfl, mm_in 514 (by decide +kernel) rfl⟩
theorem lk_X7_113 : mm_LkV RX7 113 yX0_allows := ⟨Or.inl (mm_in 516 (by decide +kernel) rfl), mm_in 517 (by decide +kernel) rfl, mm_in 518 (by decide +kernel) rfl⟩
theorem lk_X0_78 : mm_LkV RX0 78 yX0_breaks := ⟨Or.inl (mm_in 520 (by decide +kernel) rfl), mm_in 521 (by decide +kernel) rfl, mm_in 522 (by decide +kernel) rfl⟩
theorem lk_X7_117 : mm_LkS RX7 117 yX7_bit := ⟨Or.inl (mm_in 525 (by decide +kernel) rfl), mm_in 526 (by decide +kernel) rfl⟩
theorem lk_X7_121 : mm_LkV RX7 121 yX0_agrees := ⟨Or.inl (mm_in 528 (by decide +kernel) rfl), mm_in 529 (by decide +kernel) rfl, mm_in 530 (by decide +kernel) rfl⟩
theorem lk_X0_70 : mm_LkV RX0 70 yX0_afterYear := ⟨Or.inl (mm_in 532 (by decide +kernel) rfl), mm_in 533 (by decide +kernel) rfl, mm_in 534 (by decide +kernel) rfl⟩
theorem lk_X0_66 : mm_LkV RX0 66 yX0_soAfter := ⟨Or.inl (mm_in 536 (by decide +kernel) rfl), mm_in 537 (by decide +kernel) rfl, mm_in 538 (by decide +kernel) rfl⟩
theorem lk_L_35 : mm_LkV RL 35 yX7_thing := ⟨Or.inl (mm_in 540 (by decide +kernel) rfl), mm_in 541 (by decide +kernel) rfl, mm_in 542 (by decide +kernel) rfl⟩
theorem lk_X7_124 : mm_LkV RX7 124 yX0_hasThing := ⟨Or.inl (mm_in 544 (by decide +kernel) rfl), mm_in 498 (by decide +kernel) rfl, mm_in 499 (by decide +kernel) rfl⟩
theorem lk_X7_137 : mm_LkS RX7 137 yX7_isSo := ⟨Or.inl (mm_in 545 (by decide +kernel) rfl), mm_in 459 (by decide +kernel) rfl⟩
theorem lk_X7_141 : mm_LkV RX7 141 yX0_soAfter := ⟨Or.inl (mm_in 546 (by decide +kernel) rfl), mm_in 537 (by decide +kernel) rfl, mm_in 538 (by decide +kernel) rfl⟩
theorem lk_L_40 : mm_LkV RL 40 yX7_guest := ⟨Or.inl (mm_in 547 (by decide +kernel) rfl), mm_in 548 (by decide +kernel) rfl, mm_in 549 (by decide +kernel) rfl⟩
theorem lk_X7_145 : mm_LkV RX7 145 yX0_hasGuest := ⟨Or.inl (mm_in 551 (by decide +kernel) rfl), mm_in 552 (by decide +kernel) rfl, mm_in 553 (by decide +kernel) rfl⟩
theorem lk_X7_148 : mm_LkS RX7 148 yX7_isBit := ⟨Or.inl (mm_in 555 (by decide +kernel) rfl), mm_in 556 (by decide +kernel) rfl⟩
theorem lk_L_44 : mm_LkV RL 44 yX7_ban := ⟨Or.inl (mm_in 558 (by decide +kernel) rfl), mm_in 559 (by decide +kernel) rfl, mm_in 560 (by decide +kernel) rfl⟩
theorem lk_X7_157 : mm_LkV RX7 157 yX0_hasBan := ⟨Or.inl (mm_in 562 (by decide +kernel) rfl), mm_in 563 (by decide +kernel) rfl, mm_in 564 (by decide +kernel) rfl⟩
theorem lk_X7_166 : mm_LkV RX7 166 yX0_breaks := ⟨Or.inl (mm_in 566 (by decide +kernel) rfl), mm_in 521 (by decide +kernel) rfl, mm_in 522 (by decide +kernel) rfl⟩
theorem lk_L_48 : mm_LkV RL 48 yX7_alter := ⟨Or.inl (mm_in 567 (by decide +kernel) rfl), mm_in 568 (by decide +kernel) rfl, mm_in 569 (by decide +kernel) rfl⟩
theorem lk_X7_169 : mm_LkV RX7 169 yX7_thing := ⟨Or.inl (mm_in 571 (by decide +kernel) rfl), mm_in 541 (by decide +kernel) rfl, mm_in 542 (by decide +kernel) rfl⟩
theorem lk_X7_172 : mm_LkV RX7 172 yX0_mayBecome := ⟨Or.inl (mm_in 572 (by decide +kernel) rfl), mm_in 573 (by decide +kernel) rfl, mm_in 574 (by decide +kernel) rfl⟩
theorem lk_X7_175 : mm_LkS RX7 175 yX7_undone := ⟨Or.inl (mm_in 577 (by decide +kernel) rfl), mm_in 578 (by decide +kernel) rfl⟩
theorem lk_L_53 : mm_LkV RL 53 yX7_hire := ⟨Or.inl (mm_in 580 (by decide +kernel) rfl), mm_in 581 (by decide +kernel) rfl, mm_in 582 (by decide +kernel) rfl⟩
theorem lk_X7_178 : mm_LkV RX7 178 yX7_guest := ⟨Or.inl (mm_in 584 (by decide +kernel) rfl), mm_in 548 (by decide +kernel) rfl, mm_in 549 (by decide +kernel) rfl⟩
theorem lk_L_57 : mm_LkV RL 57 yX7_forbid := ⟨Or.inl (mm_in 585 (by decide +kernel) rfl), mm_in 586 (by decide +kernel) rfl, mm_in 587 (by decide +kernel) rfl⟩
theorem lk_X7_181 : mm_LkV RX7 181 yX0_addBan := ⟨Or.inl (mm_in 589 (by decide +kernel) rfl), mm_in 478 (by decide +kernel) rfl, mm_in 479 (by decide +kernel) rfl⟩
theorem lk_L_61 : mm_LkV RL 61 yX7_lift := ⟨Or.inl (mm_in 590 (by decide +kernel) rfl), mm_in 591 (by decide +kernel) rfl, mm_in 592 (by decide +kernel) rfl⟩
theorem lk_X7_185 : mm_LkV RX7 185 yX0_dropBan := ⟨Or.inl (mm_in 594 (by decide +kernel) rfl), mm_in 595 (by decide +kernel) rfl, mm_in 596 (by decide +kernel) rfl⟩
theorem lk_L_65 : mm_LkV RL 65 yX7_undo := ⟨Or.inl (mm_in 598 (by decide +kernel) rfl), mm_in 599 (by decide +kernel) rfl, mm_in 600 (by decide +kernel) rfl⟩
theorem lk_L_69 : mm_LkV RL 69 yX7_go := ⟨Or.inl (mm_in 602 (by decide +kernel) rfl), mm_in 603 (by decide +kernel) rfl, mm_in 604 (by decide +kernel) rfl⟩
theorem lk_X7_188 : mm_LkV RX7 188 yX0_afterYears := ⟨Or.inl (mm_in 606 (by decide +kernel) rfl), mm_in 607 (by decide +kernel) rfl, mm_in 608 (by decide +kernel) rfl⟩
theorem lk_L_73 : mm_LkV RL 73 yX7_ahead := ⟨Or.inl (mm_in 610 (by decide +kernel) rfl), mm_in 611 (by decide +kernel) rfl, mm_in 612 (by decide +kernel) rfl⟩
theorem lk_L_77 : mm_LkV RL 77 yX7_next := ⟨Or.inl (mm_in 614 (by decide +kernel) rfl), mm_in 615 (by decide +kernel) rfl, mm_in 616 (by decide +kernel) rfl⟩
theorem lk_X7_191 : mm_LkV RX7 191 yX0_hasState := ⟨Or.inl (mm_in 618 (by decide +kernel) rfl), mm_in 619 (by decide +kernel) rfl, mm_in 620 (by decide +kernel) rfl⟩
theorem lk_X7_194 : mm_LkV RX7 194 yX0_afterYear := ⟨Or.inl (mm_in 622 (by decide +kernel) rfl), mm_in 533 (by decide +kernel) rfl, mm_in 534 (by decide +kernel) rfl⟩
theorem lk_L_81 : mm_LkV RL 81 yX7_ring := ⟨Or.inl (mm_in 623 (by decide +kernel) rfl), mm_in 624 (by decide +kernel) rfl, mm_in 625 (by decide +kernel) rfl⟩
theorem lk_X7_198 : mm_LkV RX7 198 yX0_ringFrom := ⟨Or.inl (mm_in 627 (by decide +kernel) rfl), mm_in 628 (by decide +kernel) rfl, mm_in 629 (by decide +kernel) rfl⟩
theorem lk_X7_201 : mm_LkV RX7 201 yX5_clear := ⟨Or.inl (mm_in 631 (by decide +kernel) rfl), mm_in 632 (by decide +kernel) rfl, mm_in 633 (by decide +kernel) rfl⟩
theorem lk_X7_204 : mm_LkV RX7 204 yX5_take := ⟨Or.inl (mm_in 635 (by decide +kernel) rfl), mm_in 636 (by decide +kernel) rfl, mm_in 637 (by decide +kernel) rfl⟩
theorem lk_X5_24 : mm_LkS RX5 24 yJ9_min_7cf53 := ⟨Or.inl (mm_in 639 (by decide +kernel) rfl), mm_in 640 (by decide +kernel) rfl⟩
theorem lk_X7_207 : mm_LkV RX7 207 yX5_answer := ⟨Or.inl (mm_in 642 (by decide +kernel) rfl), mm_in 643 (by decide +kernel) rfl, mm_in 644 (by decide +kernel) rfl⟩
theorem lk_L_85 : mm_LkV RL 85 yX7_rings := ⟨Or.inl (mm_in 646 (by decide +kernel) rfl), mm_in 647 (by decide +kernel) rfl, mm_in 648 (by decide +kernel) rfl⟩
theorem lk_X7_210 : mm_LkV RX7 210 yX0_states := ⟨Or.inl (mm_in 650 (by decide +kernel) rfl), mm_in 494 (by decide +kernel) rfl, mm_in 495 (by decide +kernel) rfl⟩
theorem lk_X7_214 : mm_LkV RX7 214 yX0_ringLedBy := ⟨Or.inl (mm_in 651 (by decide +kernel) rfl), mm_in 652 (by decide +kernel) rfl, mm_in 653 (by decide +kernel) rfl⟩
theorem lk_X7_217 : mm_LkS RX7 217 yJ9_max_7cf53 := ⟨Or.inl (mm_in 655 (by decide +kernel) rfl), mm_in 656 (by decide +kernel) rfl⟩
theorem lk_L_89 : mm_LkV RL 89 yX7_agree := ⟨Or.inl (mm_in 658 (by decide +kernel) rfl), mm_in 659 (by decide +kernel) rfl, mm_in 660 (by decide +kernel) rfl⟩
theorem lk_X7_222 : mm_LkV RX7 222 yX0_settles := ⟨Or.inl (mm_in 662 (by decide +kernel) rfl), mm_in 663 (by decide +kernel) rfl, mm_in 664 (by decide +kernel) rfl⟩
theorem lk_X0_81 : mm_LkV RX0 81 yX0_agrees := ⟨Or.inl (mm_in 666 (by decide +kernel) rfl), mm_in 529 (by decide +kernel) rfl, mm_in 530 (by decide +kernel) rfl⟩
theorem lk_X0_84 : mm_LkV RX0 84 yX0_allows := ⟨Or.inl (mm_in 667 (by decide +kernel) rfl), mm_in 517 (by decide +kernel) rfl, mm_in 518 (by decide +kernel) rfl⟩
theorem lk_L_93 : mm_LkV RL 93 yX7_before := ⟨Or.inl (mm_in 668 (by decide +kernel) rfl), mm_in 669 (by decide +kernel) rfl, mm_in 670 (by decide +kernel) rfl⟩
theorem lk_L_97 : mm_LkV RL 97 yX7_gardens := ⟨Or.inl (mm_in 672 (by decide +kernel) rfl), mm_in 673 (by decide +kernel) rfl, mm_in 674 (by decide +kernel) rfl⟩
theorem lk_X7_225 : mm_LkS RX7 225 yJ13_bitCount_95d88 := ⟨Or.inl (mm_in 676 (by decide +kernel) rfl), mm_in 677 (by decide +kernel) rfl⟩
theorem lk_L_101 : mm_LkV RL 101 yX7_clash := ⟨Or.inl (mm_in 682 (by decide +kernel) rfl), mm_in 683 (by decide +kernel) rfl, mm_in 684 (by decide +kernel) rfl⟩
theorem lk_L_105 : mm_LkV RL 105 yX7_way := ⟨Or.inl (mm_in 686 (by decide +kernel) rfl), mm_in 687 (by decide +kernel) rfl, mm_in 688 (by decide +kernel) rfl⟩
theorem lk_X7_231 : mm_LkS RX7 231 yX7_isWayYear := ⟨Or.inl (mm_in 690 (by decide +kernel) rfl), mm_in 691 (by decide +kernel) rfl⟩
theorem lk_X7_234 : mm_LkV RX7 234 yX2_aimAt := ⟨Or.inl (mm_in 693 (by decide +kernel) rfl), mm_in 694 (by decide +kernel) rfl, mm_in 695 (by decide +kernel) rfl⟩
theorem lk_X7_241 : mm_LkV RX7 241 yX2_tryRows := ⟨Or.inl (mm_in 697 (by decide +kernel) rfl), mm_in 698 (by decide +kernel) rfl, mm_in 699 (by decide +kernel) rfl⟩
theorem lk_X2_38 : mm_LkV RX2 38 yX2_succeeds := ⟨Or.inl (mm_in 704 (by decide +kernel) rfl), mm_in 706 (by decide +kernel) rfl, mm_in 11 (by decide +kernel) rfl⟩
theorem lk_X2_59 : mm_LkV RX2 59 yX0_hasGuest := ⟨Or.inl (mm_in 708 (by decide +kernel) rfl), mm_in 552 (by decide +kernel) rfl, mm_in 553 (by decide +kernel) rfl⟩
theorem lk_X2_73 : mm_LkV RX2 73 yX0_allows := ⟨Or.inl (mm_in 710 (by decide +kernel) rfl), mm_in 517 (by decide +kernel) rfl, mm_in 518 (by decide +kernel) rfl⟩
theorem lk_X2_76 : mm_LkV RX2 76 yX0_afterYear := ⟨Or.inl (mm_in 711 (by decide +kernel) rfl), mm_in 533 (by decide +kernel) rfl, mm_in 534 (by decide +kernel) rfl⟩
theorem lk_X2_80 : mm_LkV RX2 80 yX0_agrees := ⟨Or.inl (mm_in 712 (by decide +kernel) rfl), mm_in 529 (by decide +kernel) rfl, mm_in 530 (by decide +kernel) rfl⟩
theorem lk_X2_48 : mm_LkV RX2 48 yX2_holdRow := ⟨Or.inl (mm_in 715 (by decide +kernel) rfl), mm_in 717 (by decide +kernel) rfl, mm_in 12 (by decide +kernel) rfl⟩
theorem lk_X2_91 : Cond.methodLink RX2 91 arraycopyName ∈ mm_tb := mm_in 719 (by decide +kernel) rfl
theorem lk_X2_52 : mm_LkV RX2 52 yX2_turnRow := ⟨Or.inl (mm_in 720 (by decide +kernel) rfl), mm_in 722 (by decide +kernel) rfl, mm_in 13 (by decide +kernel) rfl⟩
theorem lk_X7_245 : mm_LkV RX7 245 yX2_guestAhead := ⟨Or.inl (mm_in 724 (by decide +kernel) rfl), mm_in 725 (by decide +kernel) rfl, mm_in 726 (by decide +kernel) rfl⟩
theorem lk_L_109 : mm_LkV RL 109 yX7_peace := ⟨Or.inl (mm_in 728 (by decide +kernel) rfl), mm_in 729 (by decide +kernel) rfl, mm_in 730 (by decide +kernel) rfl⟩
theorem lk_L_113 : mm_LkV RL 113 yX7_amend := ⟨Or.inl (mm_in 732 (by decide +kernel) rfl), mm_in 733 (by decide +kernel) rfl, mm_in 734 (by decide +kernel) rfl⟩
theorem lk_X7_254 : mm_LkV RX7 254 yX0_settled := ⟨Or.inl (mm_in 736 (by decide +kernel) rfl), mm_in 737 (by decide +kernel) rfl, mm_in 738 (by decide +kernel) rfl⟩
theorem lk_X0_87 : mm_LkV RX0 87 yX0_settles := ⟨Or.inl (mm_in 740 (by decide +kernel) rfl), mm_in 663 (by decide +kernel) rfl, mm_in 664 (by decide +kernel) rfl⟩
theorem lk_L_117 : mm_LkV RL 117 yX7_strict := ⟨Or.inl (mm_in 742 (by decide +kernel) rfl), mm_in 743 (by decide +kernel) rfl, mm_in 744 (by decide +kernel) rfl⟩
theorem lk_X7_257 : mm_LkV RX7 257 yX0_settledWithout := ⟨Or.inl (mm_in 746 (by decide +kernel) rfl), mm_in 747 (by decide +kernel) rfl, mm_in 748 (by decide +kernel) rfl⟩
theorem lk_L_121 : mm_LkV RL 121 yX7_luck := ⟨Or.inl (mm_in 750 (by decide +kernel) rfl), mm_in 751 (by decide +kernel) rfl, mm_in 752 (by decide +kernel) rfl⟩
theorem lk_X7_260 : mm_LkV RX7 260 yX7_afterSlips := ⟨Or.inl (mm_in 754 (by decide +kernel) rfl), mm_in 756 (by decide +kernel) rfl, mm_in 14 (by decide +kernel) rfl⟩
theorem lk_X7_314 : mm_LkS RX7 314 yJ6_bitCount_0f7a4 := ⟨Or.inl (mm_in 759 (by decide +kernel) rfl), mm_in 760 (by decide +kernel) rfl⟩
theorem lk_X7_329 : mm_LkS RX7 329 yX7_power := ⟨Or.inl (mm_in 765 (by decide +kernel) rfl), mm_in 702 (by decide +kernel) rfl⟩
theorem lk_X7_333 : mm_LkV RX7 333 yX0_worth := ⟨Or.inl (mm_in 766 (by decide +kernel) rfl), mm_in 767 (by decide +kernel) rfl, mm_in 768 (by decide +kernel) rfl⟩
theorem lk_X0_94 : mm_LkS RX0 94 yJ6_bitCount_0f7a4 := ⟨Or.inl (mm_in 770 (by decide +kernel) rfl), mm_in 760 (by decide +kernel) rfl⟩
theorem lk_X7_336 : mm_LkS RX7 336 yX7_commonDivisor := ⟨Or.inl (mm_in 771 (by decide +kernel) rfl), mm_in 772 (by decide +kernel) rfl⟩
theorem lk_L_126 : mm_LkV RL 126 yX7_calm := ⟨Or.inl (mm_in 774 (by decide +kernel) rfl), mm_in 775 (by decide +kernel) rfl, mm_in 776 (by decide +kernel) rfl⟩
theorem lk_L_130 : mm_LkV RL 130 yX7_mean := ⟨Or.inl (mm_in 778 (by decide +kernel) rfl), mm_in 779 (by decide +kernel) rfl, mm_in 780 (by decide +kernel) rfl⟩
theorem lk_L_134 : mm_LkV RL 134 yX7_see := ⟨Or.inl (mm_in 782 (by decide +kernel) rfl), mm_in 783 (by decide +kernel) rfl, mm_in 784 (by decide +kernel) rfl⟩
theorem lk_X7_264 : mm_LkV RX7 264 yX4_add := ⟨Or.inl (mm_in 786 (by decide +kernel) rfl), mm_in 787 (by decide +kernel) rfl, mm_in 788 (by decide +kernel) rfl⟩
theorem lk_L_139 : mm_LkV RL 139 yX7_forget := ⟨Or.inl (mm_in 790 (by decide +kernel) rfl), mm_in 791 (by decide +kernel) rfl, mm_in 792 (by decide +kernel) rfl⟩
theorem lk_L_143 : mm_LkV RL 143 yX7_fits := ⟨Or.inl (mm_in 794 (by decide +kernel) rfl), mm_in 795 (by decide +kernel) rfl, mm_in 796 (by decide +kernel) rfl⟩
theorem lk_X7_268 : mm_LkV RX7 268 yX4_suit := ⟨Or.inl (mm_in 798 (by decide +kernel) rfl), mm_in 799 (by decide +kernel) rfl, mm_in 800 (by decide +kernel) rfl⟩
theorem lk_X4_29 : mm_LkV RX4 29 yX4_suitYear := ⟨Or.inl (mm_in 802 (by decide +kernel) rfl), mm_in 804 (by decide +kernel) rfl, mm_in 15 (by decide +kernel) rfl⟩
theorem lk_X4_33 : mm_LkV RX4 33 yX0_afterYear := ⟨Or.inl (mm_in 807 (by decide +kernel) rfl), mm_in 533 (by decide +kernel) rfl, mm_in 534 (by decide +kernel) rfl⟩
theorem lk_L_147 : mm_LkV RL 147 yX7_look := ⟨Or.inl (mm_in 808 (by decide +kernel) rfl), mm_in 809 (by decide +kernel) rfl, mm_in 810 (by decide +kernel) rfl⟩
theorem lk_X7_272 : mm_LkV RX7 272 yX4_gather := ⟨Or.inl (mm_in 812 (by decide +kernel) rfl), mm_in 813 (by decide +kernel) rfl, mm_in 814 (by decide +kernel) rfl⟩
theorem lk_X4_45 : mm_LkV RX4 45 yX0_states := ⟨Or.inl (mm_in 816 (by decide +kernel) rfl), mm_in 494 (by decide +kernel) rfl, mm_in 495 (by decide +kernel) rfl⟩
theorem lk_X4_49 : mm_LkV RX4 49 yX4_suit := ⟨Or.inl (mm_in 817 (by decide +kernel) rfl), mm_in 799 (by decide +kernel) rfl, mm_in 800 (by decide +kernel) rfl⟩
theorem lk_X7_278 : mm_LkV RX7 278 yX4_worstLeft := ⟨Or.inl (mm_in 818 (by decide +kernel) rfl), mm_in 819 (by decide +kernel) rfl, mm_in 820 (by decide +kernel) rfl⟩
theorem lk_X4_57 : mm_LkS RX4 57 yJ9_max_7cf53 := ⟨Or.inl (mm_in 823 (by decide +kernel) rfl), mm_in 656 (by decide +kernel) rfl⟩
theorem lk_X7_281 : mm_LkV RX7 281 yX4_passYear := ⟨Or.inl (mm_in 824 (by decide +kernel) rfl), mm_in 825 (by decide +kernel) rfl, mm_in 826 (by decide +kernel) rfl⟩
theorem lk_L_151 : mm_LkV RL 151 yX7_drift := ⟨Or.inl (mm_in 828 (by decide +kernel) rfl), mm_in 829 (by decide +kernel) rfl, mm_in 830 (by decide +kernel) rfl⟩
theorem lk_L_155 : mm_LkV RL 155 yX7_keep := ⟨Or.inl (mm_in 833 (by decide +kernel) rfl), mm_in 834 (by decide +kernel) rfl, mm_in 835 (by decide +kernel) rfl⟩
theorem lk_L_159 : mm_LkV RL 159 yX7_back := ⟨Or.inl (mm_in 837 (by decide +kernel) rfl), mm_in 838 (by decide +kernel) rfl, mm_in 839 (by decide +kernel) rfl⟩
theorem lk_L_163 : mm_LkV RL 163 yX7_sheet := ⟨Or.inl (mm_in 841 (by decide +kernel) rfl), mm_in 842 (by decide +kernel) rfl, mm_in 843 (by decide +kernel) rfl⟩
theorem lk_X7_285 : mm_LkS RX7 285 yX7_isSheet := ⟨Or.inl (mm_in 845 (by decide +kernel) rfl), mm_in 846 (by decide +kernel) rfl⟩
theorem lk_X7_288 : mm_LkS RX7 288 yX7_isLane := ⟨Or.inl (mm_in 848 (by decide +kernel) rfl), mm_in 849 (by decide +kernel) rfl⟩
theorem lk_X7_291 : mm_LkV RX7 291 yX3_renew := ⟨Or.inl (mm_in 851 (by decide +kernel) rfl), mm_in 852 (by decide +kernel) rfl, mm_in 853 (by decide +kernel) rfl⟩
theorem lk_L_167 : mm_LkV RL 167 yX7_lay := ⟨Or.inl (mm_in 855 (by decide +kernel) rfl), mm_in 856 (by decide +kernel) rfl, mm_in 857 (by decide +kernel) rfl⟩
theorem lk_X7_297 : mm_LkV RX7 297 yX3_refusal := ⟨Or.inl (mm_in 859 (by decide +kernel) rfl), mm_in 860 (by decide +kernel) rfl, mm_in 861 (by decide +kernel) rfl⟩
theorem lk_X7_300 : mm_LkV RX7 300 yX3_put := ⟨Or.inl (mm_in 863 (by decide +kernel) rfl), mm_in 864 (by decide +kernel) rfl, mm_in 865 (by decide +kernel) rfl⟩
theorem lk_L_171 : mm_LkV RL 171 yX7_read := ⟨Or.inl (mm_in 867 (by decide +kernel) rfl), mm_in 868 (by decide +kernel) rfl, mm_in 869 (by decide +kernel) rfl⟩
theorem lk_X7_305 : mm_LkV RX7 305 yX7_visit := ⟨Or.inl (mm_in 871 (by decide +kernel) rfl), mm_in 873 (by decide +kernel) rfl, mm_in 16 (by decide +kernel) rfl⟩
theorem lk_X7_321 : mm_LkV RX7 321 yX7_undo := ⟨Or.inl (mm_in 875 (by decide +kernel) rfl), mm_in 599 (by decide +kernel) rfl, mm_in 600 (by decide +kernel) rfl⟩
theorem lk_X7_324 : mm_LkV RX7 324 yX7_go := ⟨Or.inl (mm_in 876 (by decide +kernel) rfl), mm_in 603 (by decide +kernel) rfl, mm_in 604 (by decide +kernel) rfl⟩
theorem lk_L_176 : mm_LkV RL 176 yX7_torn := ⟨Or.inl (mm_in 877 (by decide +kernel) rfl), mm_in 878 (by decide +kernel) rfl, mm_in 879 (by decide +kernel) rfl⟩
theorem lk_L_180 : mm_LkV RL 180 yX7_count := ⟨Or.inl (mm_in 881 (by decide +kernel) rfl), mm_in 882 (by decide +kernel) rfl, mm_in 883 (by decide +kernel) rfl⟩
theorem lk_X7_318 : mm_LkV RX7 318 yX0_allPrices := ⟨Or.inl (mm_in 885 (by decide +kernel) rfl), mm_in 886 (by decide +kernel) rfl, mm_in 887 (by decide +kernel) rfl⟩
theorem lk_L_12 : mm_LkI RL 12 yX8_init := ⟨Or.inl (mm_in 891 (by decide +kernel) rfl), mm_in 892 (by decide +kernel) rfl, rfl⟩
theorem lk_X8_1 : Cond.methodLink RX8 1 objectInit ∈ mm_tb := mm_in 894 (by decide +kernel) rfl
theorem lk_L_17 : mm_LkV RL 17 yX8_feed := ⟨Or.inl (mm_in 998 (by decide +kernel) rfl), mm_in 999 (by decide +kernel) rfl, mm_in 1000 (by decide +kernel) rfl⟩
theorem lk_X8_46 : mm_LkS RX8 46 yX8_in := ⟨Or.inl (mm_in 1003 (by decide +kernel) rfl), mm_in 1004 (by decide +kernel) rfl⟩
theorem lk_L_21 : mm_LkV RL 21 yX8_end := ⟨Or.inl (mm_in 1006 (by decide +kernel) rfl), mm_in 1007 (by decide +kernel) rfl, mm_in 1008 (by decide +kernel) rfl⟩
theorem lk_L_26 : mm_LkV RL 26 yX8_text := ⟨Or.inl (mm_in 1010 (by decide +kernel) rfl), mm_in 1011 (by decide +kernel) rfl, mm_in 1012 (by decide +kernel) rfl⟩
theorem lk_X8_88 : mm_LkV RX8 88 yX8_step := ⟨Or.inl (mm_in 1014 (by decide +kernel) rfl), mm_in 1016 (by decide +kernel) rfl, mm_in 17 (by decide +kernel) rfl⟩
theorem lk_X8_69 : mm_LkV RX8 69 yX8_byteAt := ⟨Or.inl (mm_in 1018 (by decide +kernel) rfl), mm_in 1020 (by decide +kernel) rfl, mm_in 18 (by decide +kernel) rfl⟩
theorem lk_X8_84 : mm_LkV RX8 84 yX8_fails := ⟨Or.inl (mm_in 1026 (by decide +kernel) rfl), mm_in 1028 (by decide +kernel) rfl, mm_in 19 (by decide +kernel) rfl⟩
theorem lk_X8_119 : mm_LkV RX8 119 yX8_readLine := ⟨Or.inl (mm_in 1030 (by decide +kernel) rfl), mm_in 1032 (by decide +kernel) rfl, mm_in 20 (by decide +kernel) rfl⟩
theorem lk_X8_110 : mm_LkV RX8 110 yX8_nameHere := ⟨Or.inl (mm_in 1034 (by decide +kernel) rfl), mm_in 1036 (by decide +kernel) rfl, mm_in 21 (by decide +kernel) rfl⟩
theorem lk_X8_116 : mm_LkV RX8 116 yX8_readMore := ⟨Or.inl (mm_in 1039 (by decide +kernel) rfl), mm_in 1041 (by decide +kernel) rfl, mm_in 22 (by decide +kernel) rfl⟩
theorem lk_X8_98 : mm_LkV RX8 98 yX8_thingHere := ⟨Or.inl (mm_in 1043 (by decide +kernel) rfl), mm_in 1045 (by decide +kernel) rfl, mm_in 23 (by decide +kernel) rfl⟩
theorem lk_X8_91 : mm_LkV RX8 91 yX8_other := ⟨Or.inl (mm_in 1047 (by decide +kernel) rfl), mm_in 1049 (by decide +kernel) rfl, mm_in 24 (by decide +kernel) rfl⟩
theorem lk_X8_107 : mm_LkV RX8 107 yX8_readBan := ⟨Or.inl (mm_in 1051 (by decide +kernel) rfl), mm_in 1053 (by decide +kernel) rfl, mm_in 25 (by decide +kernel) rfl⟩
theorem lk_L_30 : mm_LkV RL 30 yX8_fault := ⟨Or.inl (mm_in 1055 (by decide +kernel) rfl), mm_in 1056 (by decide +kernel) rfl, mm_in 1057 (by decide +kernel) rfl⟩
theorem lk_L_34 : mm_LkV RL 34 yX8_rule := ⟨Or.inl (mm_in 1059 (by decide +kernel) rfl), mm_in 1060 (by decide +kernel) rfl, mm_in 1061 (by decide +kernel) rfl⟩
theorem lk_X8_153 : mm_LkV RX8 153 yX8_isAllowed := ⟨Or.inl (mm_in 1063 (by decide +kernel) rfl), mm_in 1065 (by decide +kernel) rfl, mm_in 26 (by decide +kernel) rfl⟩
theorem lk_X8_150 : mm_LkV RX8 150 yX8_isBroken := ⟨Or.inl (mm_in 1067 (by decide +kernel) rfl), mm_in 1069 (by decide +kernel) rfl, mm_in 27 (by decide +kernel) rfl⟩
theorem lk_X8_157 : mm_LkV RX8 157 yX8_agrees := ⟨Or.inl (mm_in 1071 (by decide +kernel) rfl), mm_in 1073 (by decide +kernel) rfl, mm_in 28 (by decide +kernel) rfl⟩
theorem lk_X8_147 : mm_LkV RX8 147 yX8_nextOf := ⟨Or.inl (mm_in 1075 (by decide +kernel) rfl), mm_in 1077 (by decide +kernel) rfl, mm_in 29 (by decide +kernel) rfl⟩
theorem lk_X8_143 : mm_LkV RX8 143 yX8_willBe := ⟨Or.inl (mm_in 1079 (by decide +kernel) rfl), mm_in 1081 (by decide +kernel) rfl, mm_in 30 (by decide +kernel) rfl⟩
theorem lk_X8_137 : mm_LkV RX8 137 yX8_firstOf := ⟨Or.inl (mm_in 1083 (by decide +kernel) rfl), mm_in 1085 (by decide +kernel) rfl, mm_in 31 (by decide +kernel) rfl⟩
theorem lk_X8_140 : mm_LkV RX8 140 yX8_secondOf := ⟨Or.inl (mm_in 1087 (by decide +kernel) rfl), mm_in 1089 (by decide +kernel) rfl, mm_in 32 (by decide +kernel) rfl⟩
theorem lk_L_39 : mm_LkV RL 39 yX8_thing := ⟨Or.inl (mm_in 1091 (by decide +kernel) rfl), mm_in 1092 (by decide +kernel) rfl, mm_in 1093 (by decide +kernel) rfl⟩
theorem lk_X8_160 : mm_LkV RX8 160 yX8_isThing := ⟨Or.inl (mm_in 1095 (by decide +kernel) rfl), mm_in 1097 (by decide +kernel) rfl, mm_in 33 (by decide +kernel) rfl⟩
theorem lk_L_43 : mm_LkV RL 43 yX8_guest := ⟨Or.inl (mm_in 1099 (by decide +kernel) rfl), mm_in 1100 (by decide +kernel) rfl, mm_in 1101 (by decide +kernel) rfl⟩
theorem lk_X8_163 : mm_LkV RX8 163 yX8_isGuest := ⟨Or.inl (mm_in 1103 (by decide +kernel) rfl), mm_in 1105 (by decide +kernel) rfl, mm_in 34 (by decide +kernel) rfl⟩
theorem lk_L_47 : mm_LkV RL 47 yX8_ban := ⟨Or.inl (mm_in 1107 (by decide +kernel) rfl), mm_in 1108 (by decide +kernel) rfl, mm_in 1109 (by decide +kernel) rfl⟩
theorem lk_X8_166 : mm_LkV RX8 166 yX8_isBan := ⟨Or.inl (mm_in 1111 (by decide +kernel) rfl), mm_in 1113 (by decide +kernel) rfl, mm_in 35 (by decide +kernel) rfl⟩
theorem lk_L_52 : mm_LkV RL 52 yX8_alter := ⟨Or.inl (mm_in 1116 (by decide +kernel) rfl), mm_in 1117 (by decide +kernel) rfl, mm_in 1118 (by decide +kernel) rfl⟩
theorem lk_X8_173 : mm_LkV RX8 173 yX8_puts := ⟨Or.inl (mm_in 1121 (by decide +kernel) rfl), mm_in 1123 (by decide +kernel) rfl, mm_in 36 (by decide +kernel) rfl⟩
theorem lk_X8_177 : mm_LkV RX8 177 yX8_becomes := ⟨Or.inl (mm_in 1125 (by decide +kernel) rfl), mm_in 1127 (by decide +kernel) rfl, mm_in 37 (by decide +kernel) rfl⟩
theorem lk_L_56 : mm_LkV RL 56 yX8_hire := ⟨Or.inl (mm_in 1129 (by decide +kernel) rfl), mm_in 1130 (by decide +kernel) rfl, mm_in 1131 (by decide +kernel) rfl⟩
theorem lk_L_60 : mm_LkV RL 60 yX8_forbid := ⟨Or.inl (mm_in 1134 (by decide +kernel) rfl), mm_in 1135 (by decide +kernel) rfl, mm_in 1136 (by decide +kernel) rfl⟩
theorem lk_L_64 : mm_LkV RL 64 yX8_lift := ⟨Or.inl (mm_in 1138 (by decide +kernel) rfl), mm_in 1139 (by decide +kernel) rfl, mm_in 1140 (by decide +kernel) rfl⟩
theorem lk_L_68 : mm_LkV RL 68 yX8_undo := ⟨Or.inl (mm_in 1142 (by decide +kernel) rfl), mm_in 1143 (by decide +kernel) rfl, mm_in 1144 (by decide +kernel) rfl⟩
theorem lk_X8_183 : mm_LkV RX8 183 yX8_undoes := ⟨Or.inl (mm_in 1146 (by decide +kernel) rfl), mm_in 1148 (by decide +kernel) rfl, mm_in 38 (by decide +kernel) rfl⟩
theorem lk_L_72 : mm_LkV RL 72 yX8_go := ⟨Or.inl (mm_in 1150 (by decide +kernel) rfl), mm_in 1151 (by decide +kernel) rfl, mm_in 1152 (by decide +kernel) rfl⟩
theorem lk_X8_188 : mm_LkV RX8 188 yX8_afterYears := ⟨Or.inl (mm_in 1155 (by decide +kernel) rfl), mm_in 1157 (by decide +kernel) rfl, mm_in 39 (by decide +kernel) rfl⟩
theorem lk_L_76 : mm_LkV RL 76 yX8_ahead := ⟨Or.inl (mm_in 1159 (by decide +kernel) rfl), mm_in 1160 (by decide +kernel) rfl, mm_in 1161 (by decide +kernel) rfl⟩
theorem lk_L_80 : mm_LkV RL 80 yX8_next := ⟨Or.inl (mm_in 1163 (by decide +kernel) rfl), mm_in 1164 (by decide +kernel) rfl, mm_in 1165 (by decide +kernel) rfl⟩
theorem lk_X8_191 : mm_LkV RX8 191 yX8_isState := ⟨Or.inl (mm_in 1167 (by decide +kernel) rfl), mm_in 1169 (by decide +kernel) rfl, mm_in 40 (by decide +kernel) rfl⟩
theorem lk_X8_134 : mm_LkV RX8 134 yX8_states := ⟨Or.inl (mm_in 1171 (by decide +kernel) rfl), mm_in 1173 (by decide +kernel) rfl, mm_in 41 (by decide +kernel) rfl⟩
theorem lk_L_84 : mm_LkV RL 84 yX8_ring := ⟨Or.inl (mm_in 1175 (by decide +kernel) rfl), mm_in 1176 (by decide +kernel) rfl, mm_in 1177 (by decide +kernel) rfl⟩
theorem lk_X8_196 : mm_LkV RX8 196 yX8_ringOf := ⟨Or.inl (mm_in 1180 (by decide +kernel) rfl), mm_in 1182 (by decide +kernel) rfl, mm_in 42 (by decide +kernel) rfl⟩
theorem lk_L_88 : mm_LkV RL 88 yX8_rings := ⟨Or.inl (mm_in 1184 (by decide +kernel) rfl), mm_in 1185 (by decide +kernel) rfl, mm_in 1186 (by decide +kernel) rfl⟩
theorem lk_L_92 : mm_LkV RL 92 yX8_agree := ⟨Or.inl (mm_in 1189 (by decide +kernel) rfl), mm_in 1190 (by decide +kernel) rfl, mm_in 1191 (by decide +kernel) rfl⟩
theorem lk_X8_218 : mm_LkV RX8 218 yX8_agreeMany := ⟨Or.inl (mm_in 1193 (by decide +kernel) rfl), mm_in 1195 (by decide +kernel) rfl, mm_in 43 (by decide +kernel) rfl⟩
theorem lk_X8_212 : mm_LkV RX8 212 yX8_tellsNone := ⟨Or.inl (mm_in 1197 (by decide +kernel) rfl), mm_in 1199 (by decide +kernel) rfl, mm_in 44 (by decide +kernel) rfl⟩
theorem lk_X8_215 : mm_LkV RX8 215 yX8_tells := ⟨Or.inl (mm_in 1201 (by decide +kernel) rfl), mm_in 1203 (by decide +kernel) rfl, mm_in 45 (by decide +kernel) rfl⟩
theorem lk_X8_221 : mm_LkV RX8 221 yX8_told := ⟨Or.inl (mm_in 1205 (by decide +kernel) rfl), mm_in 1207 (by decide +kernel) rfl, mm_in 46 (by decide +kernel) rfl⟩
theorem lk_L_96 : mm_LkV RL 96 yX8_before := ⟨Or.inl (mm_in 1209 (by decide +kernel) rfl), mm_in 1210 (by decide +kernel) rfl, mm_in 1211 (by decide +kernel) rfl⟩
theorem lk_X8_224 : mm_LkV RX8 224 yX8_comesOf := ⟨Or.inl (mm_in 1213 (by decide +kernel) rfl), mm_in 1215 (by decide +kernel) rfl, mm_in 47 (by decide +kernel) rfl⟩
theorem lk_L_100 : mm_LkV RL 100 yX8_gardens := ⟨Or.inl (mm_in 1217 (by decide +kernel) rfl), mm_in 1218 (by decide +kernel) rfl, mm_in 1219 (by decide +kernel) rfl⟩
theorem lk_L_104 : mm_LkV RL 104 yX8_clash := ⟨Or.inl (mm_in 1221 (by decide +kernel) rfl), mm_in 1222 (by decide +kernel) rfl, mm_in 1223 (by decide +kernel) rfl⟩
theorem lk_L_108 : mm_LkV RL 108 yX8_way := ⟨Or.inl (mm_in 1225 (by decide +kernel) rfl), mm_in 1226 (by decide +kernel) rfl, mm_in 1227 (by decide +kernel) rfl⟩
theorem lk_X8_252 : mm_LkV RX8 252 yX8_cheapest := ⟨Or.inl (mm_in 1231 (by decide +kernel) rfl), mm_in 1233 (by decide +kernel) rfl, mm_in 48 (by decide +kernel) rfl⟩
theorem lk_X8_236 : mm_LkV RX8 236 yX8_powerOf := ⟨Or.inl (mm_in 1235 (by decide +kernel) rfl), mm_in 1237 (by decide +kernel) rfl, mm_in 49 (by decide +kernel) rfl⟩
theorem lk_X8_245 : mm_LkV RX8 245 yX8_goesWay := ⟨Or.inl (mm_in 1239 (by decide +kernel) rfl), mm_in 1241 (by decide +kernel) rfl, mm_in 50 (by decide +kernel) rfl⟩
theorem lk_X8_233 : mm_LkV RX8 233 yX8_whoIn := ⟨Or.inl (mm_in 1243 (by decide +kernel) rfl), mm_in 1245 (by decide +kernel) rfl, mm_in 51 (by decide +kernel) rfl⟩
theorem lk_X8_256 : mm_LkV RX8 256 yX8_toldWay := ⟨Or.inl (mm_in 1247 (by decide +kernel) rfl), mm_in 1249 (by decide +kernel) rfl, mm_in 52 (by decide +kernel) rfl⟩
theorem lk_L_112 : mm_LkV RL 112 yX8_peace := ⟨Or.inl (mm_in 1251 (by decide +kernel) rfl), mm_in 1252 (by decide +kernel) rfl, mm_in 1253 (by decide +kernel) rfl⟩
theorem lk_L_116 : mm_LkV RL 116 yX8_amend := ⟨Or.inl (mm_in 1255 (by decide +kernel) rfl), mm_in 1256 (by decide +kernel) rfl, mm_in 1257 (by decide +kernel) rfl⟩
theorem lk_L_120 : mm_LkV RL 120 yX8_strict := ⟨Or.inl (mm_in 1259 (by decide +kernel) rfl), mm_in 1260 (by decide +kernel) rfl, mm_in 1261 (by decide +kernel) rfl⟩
theorem lk_L_125 : mm_LkV RL 125 yX8_luck := ⟨Or.inl (mm_in 1263 (by decide +kernel) rfl), mm_in 1264 (by decide +kernel) rfl, mm_in 1265 (by decide +kernel) rfl⟩
theorem lk_X8_266 : mm_LkV RX8 266 yX8_bySlips := ⟨Or.inl (mm_in 1267 (by decide +kernel) rfl), mm_in 1269 (by decide +kernel) rfl, mm_in 53 (by decide +kernel) rfl⟩
theorem lk_X8_259 : mm_LkS RX8 259 yX8_bitsOf := ⟨Or.inl (mm_in 1271 (by decide +kernel) rfl), mm_in 1272 (by decide +kernel) rfl⟩
theorem lk_X8_262 : mm_LkS RX8 262 yX8_lowest := ⟨Or.inl (mm_in 1274 (by decide +kernel) rfl), mm_in 1275 (by decide +kernel) rfl⟩
theorem lk_L_129 : mm_LkV RL 129 yX8_calm := ⟨Or.inl (mm_in 1278 (by decide +kernel) rfl), mm_in 1279 (by decide +kernel) rfl, mm_in 1280 (by decide +kernel) rfl⟩
theorem lk_L_133 : mm_LkV RL 133 yX8_mean := ⟨Or.inl (mm_in 1282 (by decide +kernel) rfl), mm_in 1283 (by decide +kernel) rfl, mm_in 1284 (by decide +kernel) rfl⟩
theorem lk_L_138 : mm_LkV RL 138 yX8_see := ⟨Or.inl (mm_in 1286 (by decide +kernel) rfl), mm_in 1287 (by decide +kernel) rfl, mm_in 1288 (by decide +kernel) rfl⟩
theorem lk_L_142 : mm_LkV RL 142 yX8_forget := ⟨Or.inl (mm_in 1290 (by decide +kernel) rfl), mm_in 1291 (by decide +kernel) rfl, mm_in 1292 (by decide +kernel) rfl⟩
theorem lk_L_146 : mm_LkV RL 146 yX8_fits := ⟨Or.inl (mm_in 1294 (by decide +kernel) rfl), mm_in 1295 (by decide +kernel) rfl, mm_in 1296 (by decide +kernel) rfl⟩
theorem lk_X8_272 : mm_LkV RX8 272 yX8_doesFit := ⟨Or.inl (mm_in 1298 (by decide +kernel) rfl), mm_in 1300 (by decide +kernel) rfl, mm_in 54 (by decide +kernel) rfl⟩
theorem lk_L_150 : mm_LkV RL 150 yX8_look := ⟨Or.inl (mm_in 1302 (by decide +kernel) rfl), mm_in 1303 (by decide +kernel) rfl, mm_in 1304 (by decide +kernel) rfl⟩
theorem lk_L_154 : mm_LkV RL 154 yX8_drift := ⟨Or.inl (mm_in 1306 (by decide +kernel) rfl), mm_in 1307 (by decide +kernel) rfl, mm_in 1308 (by decide +kernel) rfl⟩
theorem lk_L_158 : mm_LkV RL 158 yX8_keep := ⟨Or.inl (mm_in 1312 (by decide +kernel) rfl), mm_in 1313 (by decide +kernel) rfl, mm_in 1314 (by decide +kernel) rfl⟩
theorem lk_X8_278 : mm_LkV RX8 278 yX8_copies := ⟨Or.inl (mm_in 1316 (by decide +kernel) rfl), mm_in 1318 (by decide +kernel) rfl, mm_in 55 (by decide +kernel) rfl⟩
theorem lk_L_162 : mm_LkV RL 162 yX8_back := ⟨Or.inl (mm_in 1320 (by decide +kernel) rfl), mm_in 1321 (by decide +kernel) rfl, mm_in 1322 (by decide +kernel) rfl⟩
theorem lk_L_166 : mm_LkV RL 166 yX8_sheet := ⟨Or.inl (mm_in 1324 (by decide +kernel) rfl), mm_in 1325 (by decide +kernel) rfl, mm_in 1326 (by decide +kernel) rfl⟩
theorem lk_L_170 : mm_LkV RL 170 yX8_lay := ⟨Or.inl (mm_in 1328 (by decide +kernel) rfl), mm_in 1329 (by decide +kernel) rfl, mm_in 1330 (by decide +kernel) rfl⟩
theorem lk_L_175 : mm_LkV RL 175 yX8_read := ⟨Or.inl (mm_in 1332 (by decide +kernel) rfl), mm_in 1333 (by decide +kernel) rfl, mm_in 1334 (by decide +kernel) rfl⟩
theorem lk_X8_284 : mm_LkV RX8 284 yX8_go := ⟨Or.inl (mm_in 1337 (by decide +kernel) rfl), mm_in 1151 (by decide +kernel) rfl, mm_in 1152 (by decide +kernel) rfl⟩
theorem lk_L_179 : mm_LkV RL 179 yX8_torn := ⟨Or.inl (mm_in 1338 (by decide +kernel) rfl), mm_in 1339 (by decide +kernel) rfl, mm_in 1340 (by decide +kernel) rfl⟩
theorem lk_L_183 : mm_LkV RL 183 yX8_count := ⟨Or.inl (mm_in 1342 (by decide +kernel) rfl), mm_in 1343 (by decide +kernel) rfl, mm_in 1344 (by decide +kernel) rfl⟩
theorem lk_X7_9 : mm_LkI RX7 9 yX0_init := ⟨Or.inr ⟨"FloorYears", List.mem_of_getElem? (i := 0) rfl⟩, mm_in 85 (by decide +kernel) rfl, rfl⟩
theorem lk_X7_29 : mm_LkI RX7 29 yX1_init := ⟨Or.inr ⟨"FloorYears", List.mem_of_getElem? (i := 1) rfl⟩, mm_in 150 (by decide +kernel) rfl, rfl⟩
theorem lk_X1_11 : mm_LkI RX1 11 yX6_init := ⟨Or.inr ⟨"FloorYears", List.mem_of_getElem? (i := 2) rfl⟩, mm_in 156 (by decide +kernel) rfl, rfl⟩
theorem lk_X1_20 : mm_LkI RX1 20 yX0_init := ⟨Or.inr ⟨"FloorYears", List.mem_of_getElem? (i := 3) rfl⟩, mm_in 85 (by decide +kernel) rfl, rfl⟩
theorem lk_X7_36 : mm_LkI RX7 36 yX4_init := ⟨Or.inr ⟨"FloorYears", List.mem_of_getElem? (i := 4) rfl⟩, mm_in 206 (by decide +kernel) rfl, rfl⟩
theorem lk_X7_43 : mm_LkI RX7 43 yX2_init := ⟨Or.inr ⟨"FloorYears", List.mem_of_getElem? (i := 5) rfl⟩, mm_in 233 (by decide +kernel) rfl, rfl⟩
theorem lk_X7_50 : mm_LkI RX7 50 yX5_init := ⟨Or.inr ⟨"FloorYears", List.mem_of_getElem? (i := 6) rfl⟩, mm_in 267 (by decide +kernel) rfl, rfl⟩
theorem lk_X7_61 : mm_LkI RX7 61 yX3_init := ⟨Or.inr ⟨"FloorYears", List.mem_of_getElem? (i := 7) rfl⟩, mm_in 287 (by decide +kernel) rfl, rfl⟩
theorem lk_X1_112 : mm_LkS RX1 112 yX7_isSo := ⟨Or.inr ⟨"FloorYears", List.mem_of_getElem? (i := 8) rfl⟩, mm_in 459 (by decide +kernel) rfl⟩
theorem lk_X0_74 : mm_LkS RX0 74 yX7_isSo := ⟨Or.inr ⟨"FloorYears", List.mem_of_getElem? (i := 9) rfl⟩, mm_in 459 (by decide +kernel) rfl⟩
theorem lk_X0_63 : mm_LkS RX0 63 yX7_isBit := ⟨Or.inr ⟨"FloorYears", List.mem_of_getElem? (i := 10) rfl⟩, mm_in 556 (by decide +kernel) rfl⟩
theorem lk_X2_34 : mm_LkS RX2 34 yX7_power := ⟨Or.inr ⟨"FloorYears", List.mem_of_getElem? (i := 11) rfl⟩, mm_in 702 (by decide +kernel) rfl⟩
theorem lk_X2_66 : mm_LkS RX2 66 yX7_undone := ⟨Or.inr ⟨"FloorYears", List.mem_of_getElem? (i := 12) rfl⟩, mm_in 578 (by decide +kernel) rfl⟩
theorem lk_X2_83 : mm_LkS RX2 83 yX7_isSo := ⟨Or.inr ⟨"FloorYears", List.mem_of_getElem? (i := 13) rfl⟩, mm_in 459 (by decide +kernel) rfl⟩
theorem lk_X2_87 : mm_LkS RX2 87 yX7_bit := ⟨Or.inr ⟨"FloorYears", List.mem_of_getElem? (i := 14) rfl⟩, mm_in 526 (by decide +kernel) rfl⟩
theorem lk_X0_90 : mm_LkS RX0 90 yX7_bit := ⟨Or.inr ⟨"FloorYears", List.mem_of_getElem? (i := 15) rfl⟩, mm_in 526 (by decide +kernel) rfl⟩
theorem lk_X4_39 : mm_LkS RX4 39 yX7_isSo := ⟨Or.inr ⟨"FloorYears", List.mem_of_getElem? (i := 16) rfl⟩, mm_in 459 (by decide +kernel) rfl⟩
theorem lk_X4_53 : mm_LkS RX4 53 yX7_bit := ⟨Or.inr ⟨"FloorYears", List.mem_of_getElem? (i := 17) rfl⟩, mm_in 526 (by decide +kernel) rfl⟩
theorem w_obj1 : Cond.instanceMethod objectInit ∈ mm_tb := mm_in 80 (by decide +kernel) rfl
theorem w_obj2 : Cond.code objectInit ⟨#[0xb1]⟩ 1 none ∈ mm_tb := mm_in 81 (by decide +kernel) rfl
theorem w_ac1 : Cond.native arraycopyName ∈ mm_tb := mm_in 507 (by decide +kernel) rfl
theorem w_ac2 : Cond.static arraycopyName ∈ mm_tb := mm_in 506 (by decide +kernel) rfl
theorem w_ac3 : Cond.initialized "java/lang/System" ∈ mm_tb := mm_in 70 (by decide +kernel) rfl
theorem w_arr_int : Cond.arrayClass .int ∈ mm_tb := mm_in 145 (by decide +kernel) rfl
theorem w_arr_byte : Cond.arrayClass .byte ∈ mm_tb := mm_in 179 (by decide +kernel) rfl
theorem w_arr_boolean : Cond.arrayClass .boolean ∈ mm_tb := mm_in 178 (by decide +kernel) rfl
theorem k_J13_314 : Cond.constantLong RJ13 314 (6148914691236517205) ∈ mm_tb := mm_in 679 (by decide +kernel) rfl
theorem k_J13_316 : Cond.constantLong RJ13 316 (3689348814741910323) ∈ mm_tb := mm_in 680 (by decide +kernel) rfl
theorem k_J13_318 : Cond.constantLong RJ13 318 (1085102592571150095) ∈ mm_tb := mm_in 681 (by decide +kernel) rfl
theorem k_X7_327 : Cond.constantLong RX7 327 (-1) ∈ mm_tb := mm_in 758 (by decide +kernel) rfl
theorem k_J6_265 : Cond.constant RJ6 265 (1431655765) ∈ mm_tb := mm_in 762 (by decide +kernel) rfl
theorem k_J6_266 : Cond.constant RJ6 266 (858993459) ∈ mm_tb := mm_in 763 (by decide +kernel) rfl
theorem k_J6_267 : Cond.constant RJ6 267 (252645135) ∈ mm_tb := mm_in 764 (by decide +kernel) rfl
theorem k_X7_284 : Cond.constant RX7 284 (1103515245) ∈ mm_tb := mm_in 832 (by decide +kernel) rfl
theorem k_X8_44 : Cond.constantLong RX8 44 (127) ∈ mm_tb := mm_in 1002 (by decide +kernel) rfl
theorem k_X8_76 : Cond.constantLong RX8 76 (97) ∈ mm_tb := mm_in 1022 (by decide +kernel) rfl
theorem k_X8_78 : Cond.constantLong RX8 78 (122) ∈ mm_tb := mm_in 1023 (by decide +kernel) rfl
theorem k_X8_80 : Cond.constantLong RX8 80 (48) ∈ mm_tb := mm_in 1024 (by decide +kernel) rfl
theorem k_X8_82 : Cond.constantLong RX8 82 (57) ∈ mm_tb := mm_in 1025 (by decide +kernel) rfl
theorem k_X8_114 : Cond.constantLong RX8 114 (7) ∈ mm_tb := mm_in 1038 (by decide +kernel) rfl
theorem k_X8_169 : Cond.constantLong RX8 169 (2) ∈ mm_tb := mm_in 1115 (by decide +kernel) rfl
theorem k_X8_171 : Cond.constantLong RX8 171 (4) ∈ mm_tb := mm_in 1120 (by decide +kernel) rfl
theorem k_X8_181 : Cond.constantLong RX8 181 (9) ∈ mm_tb := mm_in 1133 (by decide +kernel) rfl
theorem k_X8_186 : Cond.constantLong RX8 186 (99) ∈ mm_tb := mm_in 1154 (by decide +kernel) rfl
theorem k_X8_194 : Cond.constantLong RX8 194 (3) ∈ mm_tb := mm_in 1179 (by decide +kernel) rfl
theorem k_X8_199 : Cond.constant RX8 199 (1000000) ∈ mm_tb := mm_in 1188 (by decide +kernel) rfl
theorem k_X8_248 : Cond.constantLong RX8 248 (10) ∈ mm_tb := mm_in 1229 (by decide +kernel) rfl
theorem k_X8_250 : Cond.constantLong RX8 250 (13) ∈ mm_tb := mm_in 1230 (by decide +kernel) rfl
theorem k_X8_270 : Cond.constantLong RX8 270 (-1) ∈ mm_tb := mm_in 1277 (by decide +kernel) rfl
theorem k_X8_275 : Cond.constantLong RX8 275 (60) ∈ mm_tb := mm_in 1310 (by decide +kernel) rfl
theorem k_X8_277 : Cond.constant RX8 277 (1103515245) ∈ mm_tb := mm_in 1311 (by decide +kernel) rfl
theorem k_X8_282 : Cond.constantLong RX8 282 (20) ∈ mm_tb := mm_in 1336 (by decide +kernel) rfl
theorem nc_L_7 : mm_NC RL 7 7 10 [.null, .null, .null, .null, .null, .null, .null, .null, .null, .int 0] := ⟨RX7, TX7, tyX7, rfl, uX7, tyX7_ok, mm_in 74 (by decide +kernel) rfl, mm_in 75 (by decide +kernel) rfl, mm_in 57 (by decide +kernel) rfl, by decide +kernel, fun _ _ => rfl⟩
theorem cl_L_7 : Cond.classLink RL 7 RX7 ∈ mm_tb := mm_in 74 (by decide +kernel) rfl
theorem nc_X7_7 : mm_NC RX7 7 0 12 [.int 0, .null, .null, .null, .int 0, .int 0, .null, .null, .int 0, .null, .null, .int 0] := ⟨RX0, TX0, tyX0, rfl, uX0, tyX0_ok, mm_in 82 (by decide +kernel) rfl, mm_in 83 (by decide +kernel) rfl, mm_in 58 (by decide +kernel) rfl, by decide +kernel, fun _ _ => rfl⟩
theorem cl_X7_7 : Cond.classLink RX7 7 RX0 ∈ mm_tb := mm_in 82 (by decide +kernel) rfl
theorem nc_X7_27 : mm_NC RX7 27 1 5 [.null, .null, .int 0, .int 0, .int 0] := ⟨RX1, TX1, tyX1, rfl, uX1, tyX1_ok, mm_in 147 (by decide +kernel) rfl, mm_in 148 (by decide +kernel) rfl, mm_in 59 (by decide +kernel) rfl, by decide +kernel, fun _ _ => rfl⟩
theorem cl_X7_27 : Cond.classLink RX7 27 RX1 ∈ mm_tb := mm_in 147 (by decide +kernel) rfl
theorem nc_X1_9 : mm_NC RX1 9 6 5 [.null, .int 0, .int 0, .int 0, .int 0] := ⟨RX6, TX6, tyX6, rfl, uX6, tyX6_ok, mm_in 153 (by decide +kernel) rfl, mm_in 154 (by decide +kernel) rfl, mm_in 60 (by decide +kernel) rfl, by decide +kernel, fun _ _ => rfl⟩
theorem cl_X1_9 : Cond.classLink RX1 9 RX6 ∈ mm_tb := mm_in 153 (by decide +kernel) rfl
theorem nc_X1_18 : mm_NC RX1 18 0 12 [.int 0, .null, .null, .null, .int 0, .int 0, .null, .null, .int 0, .null, .null, .int 0] := ⟨RX0, TX0, tyX0, rfl, uX0, tyX0_ok, mm_in 180 (by decide +kernel) rfl, mm_in 83 (by decide +kernel) rfl, mm_in 58 (by decide +kernel) rfl, by decide +kernel, fun _ _ => rfl⟩
theorem cl_X1_18 : Cond.classLink RX1 18 RX0 ∈ mm_tb := mm_in 180 (by decide +kernel) rfl
theorem nc_X7_34 : mm_NC RX7 34 4 6 [.int 0, .null, .null, .null, .int 0, .null] := ⟨RX4, TX4, tyX4, rfl, uX4, tyX4_ok, mm_in 203 (by decide +kernel) rfl, mm_in 204 (by decide +kernel) rfl, mm_in 61 (by decide +kernel) rfl, by decide +kernel, fun _ _ => rfl⟩
theorem cl_X7_34 : Cond.classLink RX7 34 RX4 ∈ mm_tb := mm_in 203 (by decide +kernel) rfl
theorem nc_X7_41 : mm_NC RX7 41 2 8 [.null, .null, .int 0, .int 0, .int 0, .int 0, .int 0, .int 0] := ⟨RX2, TX2, tyX2, rfl, uX2, tyX2_ok, mm_in 230 (by decide +kernel) rfl, mm_in 231 (by decide +kernel) rfl, mm_in 62 (by decide +kernel) rfl, by decide +kernel, fun _ _ => rfl⟩
theorem cl_X7_41 : Cond.classLink RX7 41 RX2 ∈ mm_tb := mm_in 230 (by decide +kernel) rfl
theorem nc_X7_48 : mm_NC RX7 48 5 4 [.int 0, .int 0, .int 0, .int 0] := ⟨RX5, TX5, tyX5, rfl, uX5, tyX5_ok, mm_in 264 (by decide +kernel) rfl, mm_in 265 (by decide +kernel) rfl, mm_in 63 (by decide +kernel) rfl, by decide +kernel, fun _ _ => rfl⟩
theorem cl_X7_48 : Cond.classLink RX7 48 RX5 ∈ mm_tb := mm_in 264 (by decide +kernel) rfl
theorem nc_X7_55 : mm_NC RX7 55 3 3 [.int 0, .int 0, .null] := ⟨RX3, TX3, tyX3, rfl, uX3, tyX3_ok, mm_in 283 (by decide +kernel) rfl, mm_in 285 (by decide +kernel) rfl, mm_in 64 (by decide +kernel) rfl, by decide +kernel, fun _ _ => rfl⟩
theorem cl_X7_55 : Cond.classLink RX7 55 RX3 ∈ mm_tb := mm_in 283 (by decide +kernel) rfl
theorem nc_L_10 : mm_NC RL 10 8 34 [.null, .int 0, .int 0, .null, .int 0, .int 0, .int 0, .null, .int 0, .int 0, .int 0, .int 0, .int 0, .int 0, .int 0, .int 0, .null, .null, .int 0, .int 0, .int 0, .int 0, .int 0, .int 0, .int 0, .int 0, .null, .int 0, .null, .null, .null, .null, .null, .int 0] := ⟨RX8, TX8, tyX8, rfl, uX8, tyX8_ok, mm_in 889 (by decide +kernel) rfl, mm_in 890 (by decide +kernel) rfl, mm_in 65 (by decide +kernel) rfl, by decide +kernel, fun _ _ => rfl⟩
theorem cl_L_10 : Cond.classLink RL 10 RX8 ∈ mm_tb := mm_in 889 (by decide +kernel) rfl
end
