section
-- ===== PART A: goes FIRST, ahead of the names: the tables' words, and 'selects' of the private methods out of them =====
/-- a private method of a class that the tables say can be made, by its rows of tables_1 -/
def lw_okq (q : MethodName × Nat) : Prop := (q.1.cls ≠ "java/lang/invoke/MethodHandle" ∧ q.1.cls ≠ "java/lang/invoke/VarHandle") ∧ Cond.instantiable q.1.cls q.2 ∈ tables_1 ∧ Cond.privateMethod q.1 ∈ tables_1 ∧ Cond.instanceMethod q.1 ∈ tables_1
theorem lw_p0 : lw_okq (⟨"CrierWeeks", "found", "(I)I"⟩, 11) := ⟨⟨by decide +kernel, by decide +kernel⟩, List.mem_of_getElem? (i := 16) (by decide +kernel), List.mem_of_getElem? (i := 354) (by decide +kernel), List.mem_of_getElem? (i := 355) (by decide +kernel)⟩
theorem lw_p1 : lw_okq (⟨"CrierWeeks", "fine", "(I)I"⟩, 11) := ⟨⟨by decide +kernel, by decide +kernel⟩, List.mem_of_getElem? (i := 16) (by decide +kernel), List.mem_of_getElem? (i := 363) (by decide +kernel), List.mem_of_getElem? (i := 364) (by decide +kernel)⟩
theorem lw_p2 : lw_okq (⟨"CrierWeeks", "stretchFinding", "(III)I"⟩, 11) := ⟨⟨by decide +kernel, by decide +kernel⟩, List.mem_of_getElem? (i := 16) (by decide +kernel), List.mem_of_getElem? (i := 371) (by decide +kernel), List.mem_of_getElem? (i := 372) (by decide +kernel)⟩
theorem lw_p3 : lw_okq (⟨"CrierWeeks$Reader", "advance", "()V"⟩, 11) := ⟨⟨by decide +kernel, by decide +kernel⟩, List.mem_of_getElem? (i := 196) (by decide +kernel), List.mem_of_getElem? (i := 411) (by decide +kernel), List.mem_of_getElem? (i := 412) (by decide +kernel)⟩
theorem lw_p4 : lw_okq (⟨"CrierWeeks$Reader", "readFigures", "()V"⟩, 11) := ⟨⟨by decide +kernel, by decide +kernel⟩, List.mem_of_getElem? (i := 196) (by decide +kernel), List.mem_of_getElem? (i := 418) (by decide +kernel), List.mem_of_getElem? (i := 419) (by decide +kernel)⟩
theorem lw_p5 : lw_okq (⟨"CrierWeeks$Reader", "readLaw", "()Z"⟩, 11) := ⟨⟨by decide +kernel, by decide +kernel⟩, List.mem_of_getElem? (i := 196) (by decide +kernel), List.mem_of_getElem? (i := 422) (by decide +kernel), List.mem_of_getElem? (i := 423) (by decide +kernel)⟩
theorem lw_p6 : lw_okq (⟨"CrierWeeks$Reader", "takeSign", "(I)Z"⟩, 11) := ⟨⟨by decide +kernel, by decide +kernel⟩, List.mem_of_getElem? (i := 196) (by decide +kernel), List.mem_of_getElem? (i := 426) (by decide +kernel), List.mem_of_getElem? (i := 427) (by decide +kernel)⟩
theorem lw_p7 : lw_okq (⟨"CrierWeeks$Reader", "fail", "(I)Z"⟩, 11) := ⟨⟨by decide +kernel, by decide +kernel⟩, List.mem_of_getElem? (i := 196) (by decide +kernel), List.mem_of_getElem? (i := 430) (by decide +kernel), List.mem_of_getElem? (i := 431) (by decide +kernel)⟩
theorem lw_p8 : lw_okq (⟨"CrierWeeks$Reader", "takeNumber", "(II)Z"⟩, 11) := ⟨⟨by decide +kernel, by decide +kernel⟩, List.mem_of_getElem? (i := 196) (by decide +kernel), List.mem_of_getElem? (i := 434) (by decide +kernel), List.mem_of_getElem? (i := 435) (by decide +kernel)⟩
theorem lw_p9 : lw_okq (⟨"CrierWeeks$Reader", "readPeople", "()Z"⟩, 11) := ⟨⟨by decide +kernel, by decide +kernel⟩, List.mem_of_getElem? (i := 196) (by decide +kernel), List.mem_of_getElem? (i := 438) (by decide +kernel), List.mem_of_getElem? (i := 439) (by decide +kernel)⟩
theorem lw_p10 : lw_okq (⟨"CrierWeeks$Reader", "readPerson", "()Z"⟩, 11) := ⟨⟨by decide +kernel, by decide +kernel⟩, List.mem_of_getElem? (i := 196) (by decide +kernel), List.mem_of_getElem? (i := 442) (by decide +kernel), List.mem_of_getElem? (i := 443) (by decide +kernel)⟩
theorem lw_p11 : lw_okq (⟨"CrierWeeks$Reader", "readSpeeches", "()Z"⟩, 11) := ⟨⟨by decide +kernel, by decide +kernel⟩, List.mem_of_getElem? (i := 196) (by decide +kernel), List.mem_of_getElem? (i := 446) (by decide +kernel), List.mem_of_getElem? (i := 447) (by decide +kernel)⟩
theorem lw_p12 : lw_okq (⟨"CrierWeeks$Reader", "readSpeech", "()Z"⟩, 11) := ⟨⟨by decide +kernel, by decide +kernel⟩, List.mem_of_getElem? (i := 196) (by decide +kernel), List.mem_of_getElem? (i := 450) (by decide +kernel), List.mem_of_getElem? (i := 451) (by decide +kernel)⟩
theorem lw_p13 : lw_okq (⟨"CrierWeeks", "noDuchy", "()Z"⟩, 11) := ⟨⟨by decide +kernel, by decide +kernel⟩, List.mem_of_getElem? (i := 16) (by decide +kernel), List.mem_of_getElem? (i := 490) (by decide +kernel), List.mem_of_getElem? (i := 491) (by decide +kernel)⟩
theorem lw_p14 : lw_okq (⟨"CrierWeeks$Stand", "weeksToEarn", "(II)I"⟩, 9) := ⟨⟨by decide +kernel, by decide +kernel⟩, List.mem_of_getElem? (i := 87) (by decide +kernel), List.mem_of_getElem? (i := 650) (by decide +kernel), List.mem_of_getElem? (i := 651) (by decide +kernel)⟩
theorem lw_p15 : lw_okq (⟨"CrierWeeks", "largestSet", "()I"⟩, 11) := ⟨⟨by decide +kernel, by decide +kernel⟩, List.mem_of_getElem? (i := 16) (by decide +kernel), List.mem_of_getElem? (i := 660) (by decide +kernel), List.mem_of_getElem? (i := 661) (by decide +kernel)⟩
def lw_privs_1 : List (MethodName × Nat) := [(⟨"CrierWeeks", "found", "(I)I"⟩, 11), (⟨"CrierWeeks", "fine", "(I)I"⟩, 11), (⟨"CrierWeeks", "stretchFinding", "(III)I"⟩, 11), (⟨"CrierWeeks$Reader", "advance", "()V"⟩, 11), (⟨"CrierWeeks$Reader", "readFigures", "()V"⟩, 11), (⟨"CrierWeeks$Reader", "readLaw", "()Z"⟩, 11), (⟨"CrierWeeks$Reader", "takeSign", "(I)Z"⟩, 11), (⟨"CrierWeeks$Reader", "fail", "(I)Z"⟩, 11), (⟨"CrierWeeks$Reader", "takeNumber", "(II)Z"⟩, 11), (⟨"CrierWeeks$Reader", "readPeople", "()Z"⟩, 11), (⟨"CrierWeeks$Reader", "readPerson", "()Z"⟩, 11), (⟨"CrierWeeks$Reader", "readSpeeches", "()Z"⟩, 11), (⟨"CrierWeeks$Reader", "readSpeech", "()Z"⟩, 11), (⟨"CrierWeeks", "noDuchy", "()Z"⟩, 11), (⟨"CrierWeeks$Stand", "weeksToEarn", "(II)I"⟩, 9), (⟨"CrierWeeks", "largestSet", "()I"⟩, 11)]
theorem lw_r1 : ∀ q ∈ lw_privs_1, lw_okq q := List.forall_mem_cons.mpr ⟨lw_p0, List.forall_mem_cons.mpr ⟨lw_p1, List.forall_mem_cons.mpr ⟨lw_p2, List.forall_mem_cons.mpr ⟨lw_p3, List.forall_mem_cons.mpr ⟨lw_p4, List.forall_mem_cons.mpr ⟨lw_p5, List.forall_mem_cons.mpr ⟨lw_p6, List.forall_mem_cons.mpr ⟨lw_p7, List.forall_mem_cons.mpr ⟨lw_p8, List.forall_mem_cons.mpr ⟨lw_p9, List.forall_mem_cons.mpr ⟨lw_p10, List.forall_mem_cons.mpr ⟨lw_p11, List.forall_mem_cons.mpr ⟨lw_p12, List.forall_mem_cons.mpr ⟨lw_p13, List.forall_mem_cons.mpr ⟨lw_p14, List.forall_mem_cons.mpr ⟨lw_p15, fun _ h => absurd h List.not_mem_nil⟩⟩⟩⟩⟩⟩⟩⟩⟩⟩⟩⟩⟩⟩⟩⟩
theorem lw_p16 : lw_okq (⟨"CrierWeeks", "tryAllOf", "(I)I"⟩, 11) := ⟨⟨by decide +kernel, by decide +kernel⟩, List.mem_of_getElem? (i := 16) (by decide +kernel), List.mem_of_getElem? (i := 670) (by decide +kernel), List.mem_of_getElem? (i := 671) (by decide +kernel)⟩
theorem lw_p17 : lw_okq (⟨"CrierWeeks$Orders", "keepTried", "(II)V"⟩, 6) := ⟨⟨by decide +kernel, by decide +kernel⟩, List.mem_of_getElem? (i := 155) (by decide +kernel), List.mem_of_getElem? (i := 692) (by decide +kernel), List.mem_of_getElem? (i := 693) (by decide +kernel)⟩
theorem lw_p18 : lw_okq (⟨"CrierWeeks$Orders", "mostWeeks", "()I"⟩, 6) := ⟨⟨by decide +kernel, by decide +kernel⟩, List.mem_of_getElem? (i := 155) (by decide +kernel), List.mem_of_getElem? (i := 696) (by decide +kernel), List.mem_of_getElem? (i := 697) (by decide +kernel)⟩
theorem lw_p19 : lw_okq (⟨"CrierWeeks", "fewestDeaf", "(III)I"⟩, 11) := ⟨⟨by decide +kernel, by decide +kernel⟩, List.mem_of_getElem? (i := 16) (by decide +kernel), List.mem_of_getElem? (i := 717) (by decide +kernel), List.mem_of_getElem? (i := 718) (by decide +kernel)⟩
theorem lw_p20 : lw_okq (⟨"CrierWeeks", "fitsCounts", "(IILCrierWeeks$Row;II)Z"⟩, 11) := ⟨⟨by decide +kernel, by decide +kernel⟩, List.mem_of_getElem? (i := 16) (by decide +kernel), List.mem_of_getElem? (i := 764) (by decide +kernel), List.mem_of_getElem? (i := 765) (by decide +kernel)⟩
theorem lw_p21 : lw_okq (⟨"CrierWeeks", "heardCases", "(IIII)J"⟩, 11) := ⟨⟨by decide +kernel, by decide +kernel⟩, List.mem_of_getElem? (i := 16) (by decide +kernel), List.mem_of_getElem? (i := 782) (by decide +kernel), List.mem_of_getElem? (i := 783) (by decide +kernel)⟩
theorem lw_p22 : lw_okq (⟨"CrierWeeks", "drawTerms", "(II)V"⟩, 11) := ⟨⟨by decide +kernel, by decide +kernel⟩, List.mem_of_getElem? (i := 16) (by decide +kernel), List.mem_of_getElem? (i := 794) (by decide +kernel), List.mem_of_getElem? (i := 795) (by decide +kernel)⟩
theorem lw_p23 : lw_okq (⟨"CrierWeeks$Asks", "sizeBody", "(I)I"⟩, 4) := ⟨⟨by decide +kernel, by decide +kernel⟩, List.mem_of_getElem? (i := 245) (by decide +kernel), List.mem_of_getElem? (i := 829) (by decide +kernel), List.mem_of_getElem? (i := 830) (by decide +kernel)⟩
theorem lw_p24 : lw_okq (⟨"CrierWeeks$Asks", "markBody", "(I)I"⟩, 4) := ⟨⟨by decide +kernel, by decide +kernel⟩, List.mem_of_getElem? (i := 245) (by decide +kernel), List.mem_of_getElem? (i := 835) (by decide +kernel), List.mem_of_getElem? (i := 836) (by decide +kernel)⟩
theorem lw_p25 : lw_okq (⟨"CrierWeeks$Asks", "leave", "(I)V"⟩, 4) := ⟨⟨by decide +kernel, by decide +kernel⟩, List.mem_of_getElem? (i := 245) (by decide +kernel), List.mem_of_getElem? (i := 844) (by decide +kernel), List.mem_of_getElem? (i := 845) (by decide +kernel)⟩
theorem lw_p26 : lw_okq (⟨"CrierWeeks", "rowsThere", "()I"⟩, 11) := ⟨⟨by decide +kernel, by decide +kernel⟩, List.mem_of_getElem? (i := 16) (by decide +kernel), List.mem_of_getElem? (i := 856) (by decide +kernel), List.mem_of_getElem? (i := 857) (by decide +kernel)⟩
theorem lw_p27 : lw_okq (⟨"CrierWeeksModel", "meets", "(I)I"⟩, 31) := ⟨⟨by decide +kernel, by decide +kernel⟩, List.mem_of_getElem? (i := 864) (by decide +kernel), List.mem_of_getElem? (i := 980) (by decide +kernel), List.mem_of_getElem? (i := 981) (by decide +kernel)⟩
theorem lw_p28 : lw_okq (⟨"CrierWeeksModel", "well", "(I)I"⟩, 31) := ⟨⟨by decide +kernel, by decide +kernel⟩, List.mem_of_getElem? (i := 864) (by decide +kernel), List.mem_of_getElem? (i := 985) (by decide +kernel), List.mem_of_getElem? (i := 986) (by decide +kernel)⟩
theorem lw_p29 : lw_okq (⟨"CrierWeeksModel", "isPart", "(III)Z"⟩, 31) := ⟨⟨by decide +kernel, by decide +kernel⟩, List.mem_of_getElem? (i := 864) (by decide +kernel), List.mem_of_getElem? (i := 997) (by decide +kernel), List.mem_of_getElem? (i := 998) (by decide +kernel)⟩
theorem lw_p30 : lw_okq (⟨"CrierWeeksModel", "readsAll", "()Z"⟩, 31) := ⟨⟨by decide +kernel, by decide +kernel⟩, List.mem_of_getElem? (i := 864) (by decide +kernel), List.mem_of_getElem? (i := 1014) (by decide +kernel), List.mem_of_getElem? (i := 1015) (by decide +kernel)⟩
theorem lw_p31 : lw_okq (⟨"CrierWeeksModel", "reads", "()V"⟩, 31) := ⟨⟨by decide +kernel, by decide +kernel⟩, List.mem_of_getElem? (i := 864) (by decide +kernel), List.mem_of_getElem? (i := 1018) (by decide +kernel), List.mem_of_getElem? (i := 1019) (by decide +kernel)⟩
def lw_privs_2 : List (MethodName × Nat) := [(⟨"CrierWeeks", "tryAllOf", "(I)I"⟩, 11), (⟨"CrierWeeks$Orders", "keepTried", "(II)V"⟩, 6), (⟨"CrierWeeks$Orders", "mostWeeks", "()I"⟩, 6), (⟨"CrierWeeks", "fewestDeaf", "(III)I"⟩, 11), (⟨"CrierWeeks", "fitsCounts", "(IILCrierWeeks$Row;II)Z"⟩, 11), (⟨"CrierWeeks", "heardCases", "(IIII)J"⟩, 11), (⟨"CrierWeeks", "drawTerms", "(II)V"⟩, 11), (⟨"CrierWeeks$Asks", "sizeBody", "(I)I"⟩, 4), (⟨"CrierWeeks$Asks", "markBody", "(I)I"⟩, 4), (⟨"CrierWeeks$Asks", "leave", "(I)V"⟩, 4), (⟨"CrierWeeks", "rowsThere", "()I"⟩, 11), (⟨"CrierWeeksModel", "meets", "(I)I"⟩, 31), (⟨"CrierWeeksModel", "well", "(I)I"⟩, 31), (⟨"CrierWeeksModel", "isPart", "(III)Z"⟩, 31), (⟨"CrierWeeksModel", "readsAll", "()Z"⟩, 31), (⟨"CrierWeeksModel", "reads", "()V"⟩, 31)]
theorem lw_r2 : ∀ q ∈ lw_privs_2, lw_okq q := List.forall_mem_cons.mpr ⟨lw_p16, List.forall_mem_cons.mpr ⟨lw_p17, List.forall_mem_cons.mpr ⟨lw_p18, List.forall_mem_cons.mpr ⟨lw_p19, List.forall_mem_cons.mpr ⟨lw_p20, List.forall_mem_cons.mpr ⟨lw_p21, List.forall_mem_cons.mpr ⟨lw_p22, List.forall_mem_cons.mpr ⟨lw_p23, List.forall_mem_cons.mpr ⟨lw_p24, List.forall_mem_cons.mpr ⟨lw_p25, List.forall_mem_cons.mpr ⟨lw_p26, List.forall_mem_cons.mpr ⟨lw_p27, List.forall_mem_cons.mpr ⟨lw_p28, List.forall_mem_cons.mpr ⟨lw_p29, List.forall_mem_cons.mpr ⟨lw_p30, List.forall_mem_cons.mpr ⟨lw_p31, fun _ h => absurd h List.not_mem_nil⟩⟩⟩⟩⟩⟩⟩⟩⟩⟩⟩⟩⟩⟩⟩⟩
theorem lw_p32 : lw_okq (⟨"CrierWeeksModel", "byteAt", "(I)I"⟩, 31) := ⟨⟨by decide +kernel, by decide +kernel⟩, List.mem_of_getElem? (i := 864) (by decide +kernel), List.mem_of_getElem? (i := 1022) (by decide +kernel), List.mem_of_getElem? (i := 1023) (by decide +kernel)⟩
theorem lw_p33 : lw_okq (⟨"CrierWeeksModel", "readsLaw", "()Z"⟩, 31) := ⟨⟨by decide +kernel, by decide +kernel⟩, List.mem_of_getElem? (i := 864) (by decide +kernel), List.mem_of_getElem? (i := 1029) (by decide +kernel), List.mem_of_getElem? (i := 1030) (by decide +kernel)⟩
theorem lw_p34 : lw_okq (⟨"CrierWeeksModel", "fails", "(I)Z"⟩, 31) := ⟨⟨by decide +kernel, by decide +kernel⟩, List.mem_of_getElem? (i := 864) (by decide +kernel), List.mem_of_getElem? (i := 1033) (by decide +kernel), List.mem_of_getElem? (i := 1034) (by decide +kernel)⟩
theorem lw_p35 : lw_okq (⟨"CrierWeeksModel", "told", "([IIII)Z"⟩, 31) := ⟨⟨by decide +kernel, by decide +kernel⟩, List.mem_of_getElem? (i := 864) (by decide +kernel), List.mem_of_getElem? (i := 1037) (by decide +kernel), List.mem_of_getElem? (i := 1038) (by decide +kernel)⟩
theorem lw_p36 : lw_okq (⟨"CrierWeeksModel", "sign", "(I)Z"⟩, 31) := ⟨⟨by decide +kernel, by decide +kernel⟩, List.mem_of_getElem? (i := 864) (by decide +kernel), List.mem_of_getElem? (i := 1041) (by decide +kernel), List.mem_of_getElem? (i := 1042) (by decide +kernel)⟩
theorem lw_p37 : lw_okq (⟨"CrierWeeksModel", "readsPerson", "()Z"⟩, 31) := ⟨⟨by decide +kernel, by decide +kernel⟩, List.mem_of_getElem? (i := 864) (by decide +kernel), List.mem_of_getElem? (i := 1045) (by decide +kernel), List.mem_of_getElem? (i := 1046) (by decide +kernel)⟩
theorem lw_p38 : lw_okq (⟨"CrierWeeksModel", "readsSpeech", "()Z"⟩, 31) := ⟨⟨by decide +kernel, by decide +kernel⟩, List.mem_of_getElem? (i := 864) (by decide +kernel), List.mem_of_getElem? (i := 1049) (by decide +kernel), List.mem_of_getElem? (i := 1050) (by decide +kernel)⟩
theorem lw_p39 : lw_okq (⟨"CrierWeeksModel", "need", "(Z)I"⟩, 31) := ⟨⟨by decide +kernel, by decide +kernel⟩, List.mem_of_getElem? (i := 864) (by decide +kernel), List.mem_of_getElem? (i := 1071) (by decide +kernel), List.mem_of_getElem? (i := 1072) (by decide +kernel)⟩
theorem lw_p40 : lw_okq (⟨"CrierWeeksModel", "remember", "()V"⟩, 31) := ⟨⟨by decide +kernel, by decide +kernel⟩, List.mem_of_getElem? (i := 864) (by decide +kernel), List.mem_of_getElem? (i := 1075) (by decide +kernel), List.mem_of_getElem? (i := 1076) (by decide +kernel)⟩
theorem lw_p41 : lw_okq (⟨"CrierWeeksModel", "passes", "([I)V"⟩, 31) := ⟨⟨by decide +kernel, by decide +kernel⟩, List.mem_of_getElem? (i := 864) (by decide +kernel), List.mem_of_getElem? (i := 1079) (by decide +kernel), List.mem_of_getElem? (i := 1080) (by decide +kernel)⟩
theorem lw_p42 : lw_okq (⟨"CrierWeeksModel", "onward", "(III)I"⟩, 31) := ⟨⟨by decide +kernel, by decide +kernel⟩, List.mem_of_getElem? (i := 864) (by decide +kernel), List.mem_of_getElem? (i := 1086) (by decide +kernel), List.mem_of_getElem? (i := 1087) (by decide +kernel)⟩
theorem lw_p43 : lw_okq (⟨"CrierWeeksModel", "beside", "(II)I"⟩, 31) := ⟨⟨by decide +kernel, by decide +kernel⟩, List.mem_of_getElem? (i := 864) (by decide +kernel), List.mem_of_getElem? (i := 1090) (by decide +kernel), List.mem_of_getElem? (i := 1091) (by decide +kernel)⟩
theorem lw_p44 : lw_okq (⟨"CrierWeeksModel", "isSpeech", "(I)Z"⟩, 31) := ⟨⟨by decide +kernel, by decide +kernel⟩, List.mem_of_getElem? (i := 864) (by decide +kernel), List.mem_of_getElem? (i := 1101) (by decide +kernel), List.mem_of_getElem? (i := 1102) (by decide +kernel)⟩
theorem lw_p45 : lw_okq (⟨"CrierWeeksModel", "can", "([II)Z"⟩, 31) := ⟨⟨by decide +kernel, by decide +kernel⟩, List.mem_of_getElem? (i := 864) (by decide +kernel), List.mem_of_getElem? (i := 1105) (by decide +kernel), List.mem_of_getElem? (i := 1106) (by decide +kernel)⟩
theorem lw_p46 : lw_okq (⟨"CrierWeeksModel", "rest", "([II)I"⟩, 31) := ⟨⟨by decide +kernel, by decide +kernel⟩, List.mem_of_getElem? (i := 864) (by decide +kernel), List.mem_of_getElem? (i := 1109) (by decide +kernel), List.mem_of_getElem? (i := 1110) (by decide +kernel)⟩
theorem lw_p47 : lw_okq (⟨"CrierWeeksModel", "words", "(I)I"⟩, 31) := ⟨⟨by decide +kernel, by decide +kernel⟩, List.mem_of_getElem? (i := 864) (by decide +kernel), List.mem_of_getElem? (i := 1113) (by decide +kernel), List.mem_of_getElem? (i := 1114) (by decide +kernel)⟩
def lw_privs_3 : List (MethodName × Nat) := [(⟨"CrierWeeksModel", "byteAt", "(I)I"⟩, 31), (⟨"CrierWeeksModel", "readsLaw", "()Z"⟩, 31), (⟨"CrierWeeksModel", "fails", "(I)Z"⟩, 31), (⟨"CrierWeeksModel", "told", "([IIII)Z"⟩, 31), (⟨"CrierWeeksModel", "sign", "(I)Z"⟩, 31), (⟨"CrierWeeksModel", "readsPerson", "()Z"⟩, 31), (⟨"CrierWeeksModel", "readsSpeech", "()Z"⟩, 31), (⟨"CrierWeeksModel", "need", "(Z)I"⟩, 31), (⟨"CrierWeeksModel", "remember", "()V"⟩, 31), (⟨"CrierWeeksModel", "passes", "([I)V"⟩, 31), (⟨"CrierWeeksModel", "onward", "(III)I"⟩, 31), (⟨"CrierWeeksModel", "beside", "(II)I"⟩, 31), (⟨"CrierWeeksModel", "isSpeech", "(I)Z"⟩, 31), (⟨"CrierWeeksModel", "can", "([II)Z"⟩, 31), (⟨"CrierWeeksModel", "rest", "([II)I"⟩, 31), (⟨"CrierWeeksModel", "words", "(I)I"⟩, 31)]
theorem lw_r3 : ∀ q ∈ lw_privs_3, lw_okq q := List.forall_mem_cons.mpr ⟨lw_p32, List.forall_mem_cons.mpr ⟨lw_p33, List.forall_mem_cons.mpr ⟨lw_p34, List.forall_mem_cons.mpr ⟨lw_p35, List.forall_mem_cons.mpr ⟨lw_p36, List.forall_mem_cons.mpr ⟨lw_p37, List.forall_mem_cons.mpr ⟨lw_p38, List.forall_mem_cons.mpr ⟨lw_p39, List.forall_mem_cons.mpr ⟨lw_p40, List.forall_mem_cons.mpr ⟨lw_p41, List.forall_mem_cons.mpr ⟨lw_p42, List.forall_mem_cons.mpr ⟨lw_p43, List.forall_mem_cons.mpr ⟨lw_p44, List.forall_mem_cons.mpr ⟨lw_p45, List.forall_mem_cons.mpr ⟨lw_p46, List.forall_mem_cons.mpr ⟨lw_p47, fun _ h => absurd h List.not_mem_nil⟩⟩⟩⟩⟩⟩⟩⟩⟩⟩⟩⟩⟩⟩⟩⟩
theorem lw_p48 : lw_okq (⟨"CrierWeeksModel", "costs", "([II)I"⟩, 31) := ⟨⟨by decide +kernel, by decide +kernel⟩, List.mem_of_getElem? (i := 864) (by decide +kernel), List.mem_of_getElem? (i := 1117) (by decide +kernel), List.mem_of_getElem? (i := 1118) (by decide +kernel)⟩
theorem lw_p49 : lw_okq (⟨"CrierWeeksModel", "says", "([II)I"⟩, 31) := ⟨⟨by decide +kernel, by decide +kernel⟩, List.mem_of_getElem? (i := 864) (by decide +kernel), List.mem_of_getElem? (i := 1121) (by decide +kernel), List.mem_of_getElem? (i := 1122) (by decide +kernel)⟩
theorem lw_p50 : lw_okq (⟨"CrierWeeksModel", "firstTo", "(III)I"⟩, 31) := ⟨⟨by decide +kernel, by decide +kernel⟩, List.mem_of_getElem? (i := 864) (by decide +kernel), List.mem_of_getElem? (i := 1125) (by decide +kernel), List.mem_of_getElem? (i := 1126) (by decide +kernel)⟩
theorem lw_p51 : lw_okq (⟨"CrierWeeksModel", "all", "()I"⟩, 31) := ⟨⟨by decide +kernel, by decide +kernel⟩, List.mem_of_getElem? (i := 864) (by decide +kernel), List.mem_of_getElem? (i := 1129) (by decide +kernel), List.mem_of_getElem? (i := 1130) (by decide +kernel)⟩
theorem lw_p52 : lw_okq (⟨"CrierWeeksModel", "isPerson", "(I)Z"⟩, 31) := ⟨⟨by decide +kernel, by decide +kernel⟩, List.mem_of_getElem? (i := 864) (by decide +kernel), List.mem_of_getElem? (i := 1137) (by decide +kernel), List.mem_of_getElem? (i := 1138) (by decide +kernel)⟩
theorem lw_p53 : lw_okq (⟨"CrierWeeksModel", "clearTo", "([II)I"⟩, 31) := ⟨⟨by decide +kernel, by decide +kernel⟩, List.mem_of_getElem? (i := 864) (by decide +kernel), List.mem_of_getElem? (i := 1153) (by decide +kernel), List.mem_of_getElem? (i := 1154) (by decide +kernel)⟩
theorem lw_p54 : lw_okq (⟨"CrierWeeksModel", "ahead", "(I)V"⟩, 31) := ⟨⟨by decide +kernel, by decide +kernel⟩, List.mem_of_getElem? (i := 864) (by decide +kernel), List.mem_of_getElem? (i := 1172) (by decide +kernel), List.mem_of_getElem? (i := 1173) (by decide +kernel)⟩
theorem lw_p55 : lw_okq (⟨"CrierWeeksModel", "copyNow", "()V"⟩, 31) := ⟨⟨by decide +kernel, by decide +kernel⟩, List.mem_of_getElem? (i := 864) (by decide +kernel), List.mem_of_getElem? (i := 1176) (by decide +kernel), List.mem_of_getElem? (i := 1177) (by decide +kernel)⟩
theorem lw_p56 : lw_okq (⟨"CrierWeeksModel", "saidAll", "(I)I"⟩, 31) := ⟨⟨by decide +kernel, by decide +kernel⟩, List.mem_of_getElem? (i := 864) (by decide +kernel), List.mem_of_getElem? (i := 1200) (by decide +kernel), List.mem_of_getElem? (i := 1201) (by decide +kernel)⟩
theorem lw_p57 : lw_okq (⟨"CrierWeeksModel", "weeksOf", "(II)I"⟩, 31) := ⟨⟨by decide +kernel, by decide +kernel⟩, List.mem_of_getElem? (i := 864) (by decide +kernel), List.mem_of_getElem? (i := 1211) (by decide +kernel), List.mem_of_getElem? (i := 1212) (by decide +kernel)⟩
theorem lw_p58 : lw_okq (⟨"CrierWeeksModel", "passedOn", "(III)I"⟩, 31) := ⟨⟨by decide +kernel, by decide +kernel⟩, List.mem_of_getElem? (i := 864) (by decide +kernel), List.mem_of_getElem? (i := 1223) (by decide +kernel), List.mem_of_getElem? (i := 1224) (by decide +kernel)⟩
theorem lw_p59 : lw_okq (⟨"CrierWeeksModel", "claim", "(I)I"⟩, 31) := ⟨⟨by decide +kernel, by decide +kernel⟩, List.mem_of_getElem? (i := 864) (by decide +kernel), List.mem_of_getElem? (i := 1231) (by decide +kernel), List.mem_of_getElem? (i := 1232) (by decide +kernel)⟩
theorem lw_p60 : lw_okq (⟨"CrierWeeksModel", "item", "(II)I"⟩, 31) := ⟨⟨by decide +kernel, by decide +kernel⟩, List.mem_of_getElem? (i := 864) (by decide +kernel), List.mem_of_getElem? (i := 1239) (by decide +kernel), List.mem_of_getElem? (i := 1240) (by decide +kernel)⟩
theorem lw_p61 : lw_okq (⟨"CrierWeeksModel", "week", "(II)V"⟩, 31) := ⟨⟨by decide +kernel, by decide +kernel⟩, List.mem_of_getElem? (i := 864) (by decide +kernel), List.mem_of_getElem? (i := 1243) (by decide +kernel), List.mem_of_getElem? (i := 1244) (by decide +kernel)⟩
theorem lw_p62 : lw_okq (⟨"CrierWeeksModel", "isNoted", "(IIIII)Z"⟩, 31) := ⟨⟨by decide +kernel, by decide +kernel⟩, List.mem_of_getElem? (i := 864) (by decide +kernel), List.mem_of_getElem? (i := 1251) (by decide +kernel), List.mem_of_getElem? (i := 1252) (by decide +kernel)⟩
theorem lw_p63 : lw_okq (⟨"CrierWeeksModel", "sizeOf", "(I)I"⟩, 31) := ⟨⟨by decide +kernel, by decide +kernel⟩, List.mem_of_getElem? (i := 864) (by decide +kernel), List.mem_of_getElem? (i := 1295) (by decide +kernel), List.mem_of_getElem? (i := 1296) (by decide +kernel)⟩
def lw_privs_4 : List (MethodName × Nat) := [(⟨"CrierWeeksModel", "costs", "([II)I"⟩, 31), (⟨"CrierWeeksModel", "says", "([II)I"⟩, 31), (⟨"CrierWeeksModel", "firstTo", "(III)I"⟩, 31), (⟨"CrierWeeksModel", "all", "()I"⟩, 31), (⟨"CrierWeeksModel", "isPerson", "(I)Z"⟩, 31), (⟨"CrierWeeksModel", "clearTo", "([II)I"⟩, 31), (⟨"CrierWeeksModel", "ahead", "(I)V"⟩, 31), (⟨"CrierWeeksModel", "copyNow", "()V"⟩, 31), (⟨"CrierWeeksModel", "saidAll", "(I)I"⟩, 31), (⟨"CrierWeeksModel", "weeksOf", "(II)I"⟩, 31), (⟨"CrierWeeksModel", "passedOn", "(III)I"⟩, 31), (⟨"CrierWeeksModel", "claim", "(I)I"⟩, 31), (⟨"CrierWeeksModel", "item", "(II)I"⟩, 31), (⟨"CrierWeeksModel", "week", "(II)V"⟩, 31), (⟨"CrierWeeksModel", "isNoted", "(IIIII)Z"⟩, 31), (⟨"CrierWeeksModel", "sizeOf", "(I)I"⟩, 31)]
theorem lw_r4 : ∀ q ∈ lw_privs_4, lw_okq q := List.forall_mem_cons.mpr ⟨lw_p48, List.forall_mem_cons.mpr ⟨lw_p49, List.forall_mem_cons.mpr ⟨lw_p50, List.forall_mem_cons.mpr ⟨lw_p51, List.forall_mem_cons.mpr ⟨lw_p52, List.forall_mem_cons.mpr ⟨lw_p53, List.forall_mem_cons.mpr ⟨lw_p54, List.forall_mem_cons.mpr ⟨lw_p55, List.forall_mem_cons.mpr ⟨lw_p56, List.forall_mem_cons.mpr ⟨lw_p57, List.forall_mem_cons.mpr ⟨lw_p58, List.forall_mem_cons.mpr ⟨lw_p59, List.forall_mem_cons.mpr ⟨lw_p60, List.forall_mem_cons.mpr ⟨lw_p61, List.forall_mem_cons.mpr ⟨lw_p62, List.forall_mem_cons.mpr ⟨lw_p63, fun _ h => absurd h List.not_mem_nil⟩⟩⟩⟩⟩⟩⟩⟩⟩⟩⟩⟩⟩⟩⟩⟩
theorem lw_p64 : lw_okq (⟨"CrierWeeksModel", "leaves", "(I)V"⟩, 31) := ⟨⟨by decide +kernel, by decide +kernel⟩, List.mem_of_getElem? (i := 864) (by decide +kernel), List.mem_of_getElem? (i := 1299) (by decide +kernel), List.mem_of_getElem? (i := 1300) (by decide +kernel)⟩
theorem lw_p65 : lw_okq (⟨"CrierWeeksModel", "b11", "(I)I"⟩, 31) := ⟨⟨by decide +kernel, by decide +kernel⟩, List.mem_of_getElem? (i := 864) (by decide +kernel), List.mem_of_getElem? (i := 1303) (by decide +kernel), List.mem_of_getElem? (i := 1304) (by decide +kernel)⟩
theorem lw_p66 : lw_okq (⟨"CrierWeeksModel", "b10", "(I)I"⟩, 31) := ⟨⟨by decide +kernel, by decide +kernel⟩, List.mem_of_getElem? (i := 864) (by decide +kernel), List.mem_of_getElem? (i := 1307) (by decide +kernel), List.mem_of_getElem? (i := 1308) (by decide +kernel)⟩
theorem lw_p67 : lw_okq (⟨"CrierWeeksModel", "markOfNotice", "(I)I"⟩, 31) := ⟨⟨by decide +kernel, by decide +kernel⟩, List.mem_of_getElem? (i := 864) (by decide +kernel), List.mem_of_getElem? (i := 1311) (by decide +kernel), List.mem_of_getElem? (i := 1312) (by decide +kernel)⟩
theorem lw_p68 : lw_okq (⟨"CrierWeeksModel", "b21", "(I)I"⟩, 31) := ⟨⟨by decide +kernel, by decide +kernel⟩, List.mem_of_getElem? (i := 864) (by decide +kernel), List.mem_of_getElem? (i := 1315) (by decide +kernel), List.mem_of_getElem? (i := 1316) (by decide +kernel)⟩
theorem lw_p69 : lw_okq (⟨"CrierWeeksModel", "b20", "(I)I"⟩, 31) := ⟨⟨by decide +kernel, by decide +kernel⟩, List.mem_of_getElem? (i := 864) (by decide +kernel), List.mem_of_getElem? (i := 1319) (by decide +kernel), List.mem_of_getElem? (i := 1320) (by decide +kernel)⟩
theorem lw_p70 : lw_okq (⟨"CrierWeeksModel", "b13", "(I)I"⟩, 31) := ⟨⟨by decide +kernel, by decide +kernel⟩, List.mem_of_getElem? (i := 864) (by decide +kernel), List.mem_of_getElem? (i := 1323) (by decide +kernel), List.mem_of_getElem? (i := 1324) (by decide +kernel)⟩
theorem lw_p71 : lw_okq (⟨"CrierWeeksModel", "markOf", "(I)I"⟩, 31) := ⟨⟨by decide +kernel, by decide +kernel⟩, List.mem_of_getElem? (i := 864) (by decide +kernel), List.mem_of_getElem? (i := 1327) (by decide +kernel), List.mem_of_getElem? (i := 1328) (by decide +kernel)⟩
def lw_privs_5 : List (MethodName × Nat) := [(⟨"CrierWeeksModel", "leaves", "(I)V"⟩, 31), (⟨"CrierWeeksModel", "b11", "(I)I"⟩, 31), (⟨"CrierWeeksModel", "b10", "(I)I"⟩, 31), (⟨"CrierWeeksModel", "markOfNotice", "(I)I"⟩, 31), (⟨"CrierWeeksModel", "b21", "(I)I"⟩, 31), (⟨"CrierWeeksModel", "b20", "(I)I"⟩, 31), (⟨"CrierWeeksModel", "b13", "(I)I"⟩, 31), (⟨"CrierWeeksModel", "markOf", "(I)I"⟩, 31)]
theorem lw_r5 : ∀ q ∈ lw_privs_5, lw_okq q := List.forall_mem_cons.mpr ⟨lw_p64, List.forall_mem_cons.mpr ⟨lw_p65, List.forall_mem_cons.mpr ⟨lw_p66, List.forall_mem_cons.mpr ⟨lw_p67, List.forall_mem_cons.mpr ⟨lw_p68, List.forall_mem_cons.mpr ⟨lw_p69, List.forall_mem_cons.mpr ⟨lw_p70, List.forall_mem_cons.mpr ⟨lw_p71, fun _ h => absurd h List.not_mem_nil⟩⟩⟩⟩⟩⟩⟩⟩
def lw_privs : List (MethodName × Nat) := lw_privs_1 ++ (lw_privs_2 ++ (lw_privs_3 ++ (lw_privs_4 ++ (lw_privs_5))))
def lw_tbl : List Cond := k2_sels lw_privs ++ tables_1
theorem lw_privs_ok : ∀ q ∈ lw_privs, lw_okq q := by
  show ∀ q ∈ lw_privs_1 ++ (lw_privs_2 ++ (lw_privs_3 ++ (lw_privs_4 ++ (lw_privs_5)))), lw_okq q
  exact List.forall_mem_append.mpr ⟨lw_r1, List.forall_mem_append.mpr ⟨lw_r2, List.forall_mem_append.mpr ⟨lw_r3, List.forall_mem_append.mpr ⟨lw_r4, lw_r5⟩⟩⟩⟩
end
section
def RX0 : String := "CrierWeeks$Asks"
def TX0 : u_T := fun k => match k with
  | 0 => ("CrierWeeks$Asks", "town", "LCrierWeeks$Town;", true)
  | 1 => ("CrierWeeks$Asks", "stand", "LCrierWeeks$Stand;", true)
  | 2 => ("CrierWeeks$Asks", "bodies", "[I", true)
  | _ => ("CrierWeeks$Asks", "traced", "I", false)
def tyX0 : Nat → FieldType := fun k => match k with
  | 0 => .object "CrierWeeks$Town"
  | 1 => .object "CrierWeeks$Stand"
  | 2 => .array .int
  | _ => .int
theorem nmX0 : ∀ a, a < 4 → ∀ b, b < 4 → a ≠ b → (TX0 a).2.1 ≠ (TX0 b).2.1 := by decide +kernel
theorem tyX0_ok : ∀ k, k < 4 → parseFieldDescriptor (TX0 k).2.2.1 = some (tyX0 k) := by decide +kernel
abbrev cX0_init : ByteArray := prog_2_method_1_code
def yX0_init : MethodName := ⟨RX0, "<init>", "(LCrierWeeks$Town;LCrierWeeks$Stand;)V"⟩
abbrev cX0_answer : ByteArray := prog_2_method_2_code
def yX0_answer : MethodName := ⟨RX0, "answer", "(II)I"⟩
abbrev cX0_sizeBody : ByteArray := prog_2_method_3_code
def yX0_sizeBody : MethodName := ⟨RX0, "sizeBody", "(I)I"⟩
abbrev cX0_markBody : ByteArray := prog_2_method_4_code
def yX0_markBody : MethodName := ⟨RX0, "markBody", "(I)I"⟩
abbrev cX0_leave : ByteArray := prog_2_method_5_code
def yX0_leave : MethodName := ⟨RX0, "leave", "(I)V"⟩
abbrev cX0_run : ByteArray := prog_2_method_6_code
def yX0_run : MethodName := ⟨RX0, "run", "(LCrierWeeks$Asks;III)I"⟩
def RX1 : String := "CrierWeeks$Image"
def TX1 : u_T := fun k => match k with
  | 0 => ("CrierWeeks$Image", "town", "LCrierWeeks$Town;", true)
  | 1 => ("CrierWeeks$Image", "stand", "LCrierWeeks$Stand;", true)
  | _ => ("CrierWeeks$Image", "kept", "Z", false)
def tyX1 : Nat → FieldType := fun k => match k with
  | 0 => .object "CrierWeeks$Town"
  | 1 => .object "CrierWeeks$Stand"
  | _ => .boolean
theorem nmX1 : ∀ a, a < 3 → ∀ b, b < 3 → a ≠ b → (TX1 a).2.1 ≠ (TX1 b).2.1 := by decide +kernel
theorem tyX1_ok : ∀ k, k < 3 → parseFieldDescriptor (TX1 k).2.2.1 = some (tyX1 k) := by decide +kernel
abbrev cX1_init : ByteArray := prog_3_method_1_code
def yX1_init : MethodName := ⟨RX1, "<init>", "()V"⟩
def RX2 : String := "CrierWeeks$Orders"
def TX2 : u_T := fun k => match k with
  | 0 => ("CrierWeeks$Orders", "town", "LCrierWeeks$Town;", true)
  | 1 => ("CrierWeeks$Orders", "levels", "[LCrierWeeks$Stand;", true)
  | 2 => ("CrierWeeks$Orders", "tried", "[I", true)
  | 3 => ("CrierWeeks$Orders", "best", "[I", true)
  | 4 => ("CrierWeeks$Orders", "bestSize", "I", false)
  | _ => ("CrierWeeks$Orders", "bestWeeks", "I", false)
def tyX2 : Nat → FieldType := fun k => match k with
  | 0 => .object "CrierWeeks$Town"
  | 1 => .array (.object "CrierWeeks$Stand")
  | 2 => .array .int
  | 3 => .array .int
  | 4 => .int
  | _ => .int
theorem nmX2 : ∀ a, a < 6 → ∀ b, b < 6 → a ≠ b → (TX2 a).2.1 ≠ (TX2 b).2.1 := by decide +kernel
theorem tyX2_ok : ∀ k, k < 6 → parseFieldDescriptor (TX2 k).2.2.1 = some (tyX2 k) := by decide +kernel
abbrev cX2_init : ByteArray := prog_4_method_1_code
def yX2_init : MethodName := ⟨RX2, "<init>", "(LCrierWeeks$Town;)V"⟩
abbrev cX2_findFirst : ByteArray := prog_4_method_2_code
def yX2_findFirst : MethodName := ⟨RX2, "findFirst", "(LCrierWeeks$Stand;)V"⟩
abbrev cX2_bestAt : ByteArray := prog_4_method_3_code
def yX2_bestAt : MethodName := ⟨RX2, "bestAt", "(I)I"⟩
abbrev cX2_goOn : ByteArray := prog_4_method_4_code
def yX2_goOn : MethodName := ⟨RX2, "goOn", "(LCrierWeeks$Orders;I)V"⟩
abbrev cX2_mostWeeks : ByteArray := prog_4_method_5_code
def yX2_mostWeeks : MethodName := ⟨RX2, "mostWeeks", "()I"⟩
abbrev cX2_keepTried : ByteArray := prog_4_method_6_code
def yX2_keepTried : MethodName := ⟨RX2, "keepTried", "(II)V"⟩
def RX3 : String := "CrierWeeks$Past"
def TX3 : u_T := fun k => match k with
  | 0 => ("CrierWeeks$Past", "stands", "[LCrierWeeks$Stand;", true)
  | 1 => ("CrierWeeks$Past", "next", "I", false)
  | _ => ("CrierWeeks$Past", "kept", "I", false)
def tyX3 : Nat → FieldType := fun k => match k with
  | 0 => .array (.object "CrierWeeks$Stand")
  | 1 => .int
  | _ => .int
theorem nmX3 : ∀ a, a < 3 → ∀ b, b < 3 → a ≠ b → (TX3 a).2.1 ≠ (TX3 b).2.1 := by decide +kernel
theorem tyX3_ok : ∀ k, k < 3 → parseFieldDescriptor (TX3 k).2.2.1 = some (tyX3 k) := by decide +kernel
abbrev cX3_init : ByteArray := prog_5_method_1_code
def yX3_init : MethodName := ⟨RX3, "<init>", "(LCrierWeeks$Town;)V"⟩
abbrev cX3_keep : ByteArray := prog_5_method_2_code
def yX3_keep : MethodName := ⟨RX3, "keep", "(LCrierWeeks$Stand;)V"⟩
abbrev cX3_giveBack : ByteArray := prog_5_method_3_code
def yX3_giveBack : MethodName := ⟨RX3, "giveBack", "(LCrierWeeks$Stand;)Z"⟩
abbrev cX3_forget : ByteArray := prog_5_method_4_code
def yX3_forget : MethodName := ⟨RX3, "forget", "()V"⟩
def RX4 : String := "CrierWeeks$Reader"
def TX4 : u_T := fun k => match k with
  | 0 => ("CrierWeeks$Reader", "tape", "[I", true)
  | 1 => ("CrierWeeks$Reader", "town", "LCrierWeeks$Town;", true)
  | 2 => ("CrierWeeks$Reader", "stand", "LCrierWeeks$Stand;", true)
  | 3 => ("CrierWeeks$Reader", "length", "I", false)
  | 4 => ("CrierWeeks$Reader", "fault", "I", false)
  | 5 => ("CrierWeeks$Reader", "place", "I", false)
  | 6 => ("CrierWeeks$Reader", "read", "I", false)
  | 7 => ("CrierWeeks$Reader", "next", "I", false)
  | 8 => ("CrierWeeks$Reader", "token", "I", false)
  | 9 => ("CrierWeeks$Reader", "number", "I", false)
  | _ => ("CrierWeeks$Reader", "taken", "I", false)
def tyX4 : Nat → FieldType := fun k => match k with
  | 0 => .array .int
  | 1 => .object "CrierWeeks$Town"
  | 2 => .object "CrierWeeks$Stand"
  | 3 => .int
  | 4 => .int
  | 5 => .int
  | 6 => .int
  | 7 => .int
  | 8 => .int
  | 9 => .int
  | _ => .int
theorem nmX4 : ∀ a, a < 11 → ∀ b, b < 11 → a ≠ b → (TX4 a).2.1 ≠ (TX4 b).2.1 := by decide +kernel
theorem tyX4_ok : ∀ k, k < 11 → parseFieldDescriptor (TX4 k).2.2.1 = some (tyX4 k) := by decide +kernel
abbrev cX4_init : ByteArray := prog_6_method_1_code
def yX4_init : MethodName := ⟨RX4, "<init>", "()V"⟩
abbrev cX4_append : ByteArray := prog_6_method_2_code
def yX4_append : MethodName := ⟨RX4, "append", "(I)Z"⟩
abbrev cX4_readTape : ByteArray := prog_6_method_3_code
def yX4_readTape : MethodName := ⟨RX4, "readTape", "()Z"⟩
abbrev cX4_readLaw : ByteArray := prog_6_method_4_code
def yX4_readLaw : MethodName := ⟨RX4, "readLaw", "()Z"⟩
abbrev cX4_readPeople : ByteArray := prog_6_method_5_code
def yX4_readPeople : MethodName := ⟨RX4, "readPeople", "()Z"⟩
abbrev cX4_readPerson : ByteArray := prog_6_method_6_code
def yX4_readPerson : MethodName := ⟨RX4, "readPerson", "()Z"⟩
abbrev cX4_readSpeeches : ByteArray := prog_6_method_7_code
def yX4_readSpeeches : MethodName := ⟨RX4, "readSpeeches", "()Z"⟩
abbrev cX4_readSpeech : ByteArray := prog_6_method_8_code
def yX4_readSpeech : MethodName := ⟨RX4, "readSpeech", "()Z"⟩
abbrev cX4_kindOfSort : ByteArray := prog_6_method_9_code
def yX4_kindOfSort : MethodName := ⟨RX4, "kindOfSort", "(I)I"⟩
abbrev cX4_takeSign : ByteArray := prog_6_method_10_code
def yX4_takeSign : MethodName := ⟨RX4, "takeSign", "(I)Z"⟩
abbrev cX4_takeNumber : ByteArray := prog_6_method_11_code
def yX4_takeNumber : MethodName := ⟨RX4, "takeNumber", "(II)Z"⟩
abbrev cX4_fail : ByteArray := prog_6_method_12_code
def yX4_fail : MethodName := ⟨RX4, "fail", "(I)Z"⟩
abbrev cX4_advance : ByteArray := prog_6_method_13_code
def yX4_advance : MethodName := ⟨RX4, "advance", "()V"⟩
abbrev cX4_readFigures : ByteArray := prog_6_method_14_code
def yX4_readFigures : MethodName := ⟨RX4, "readFigures", "()V"⟩
abbrev cX4_isFigure : ByteArray := prog_6_method_15_code
def yX4_isFigure : MethodName := ⟨RX4, "isFigure", "(I)Z"⟩
def RX5 : String := "CrierWeeks$Row"
def TX5 : u_T := fun k => match k with
  | 0 => ("CrierWeeks$Row", "items", "[I", true)
  | 1 => ("CrierWeeks$Row", "there", "Z", false)
  | 2 => ("CrierWeeks$Row", "lane", "I", false)
  | _ => ("CrierWeeks$Row", "size", "I", false)
def tyX5 : Nat → FieldType := fun k => match k with
  | 0 => .array .int
  | 1 => .boolean
  | 2 => .int
  | _ => .int
theorem nmX5 : ∀ a, a < 4 → ∀ b, b < 4 → a ≠ b → (TX5 a).2.1 ≠ (TX5 b).2.1 := by decide +kernel
theorem tyX5_ok : ∀ k, k < 4 → parseFieldDescriptor (TX5 k).2.2.1 = some (tyX5 k) := by decide +kernel
abbrev cX5_init : ByteArray := prog_7_method_1_code
def yX5_init : MethodName := ⟨RX5, "<init>", "()V"⟩
abbrev cX5_begin : ByteArray := prog_7_method_2_code
def yX5_begin : MethodName := ⟨RX5, "begin", "(II)V"⟩
abbrev cX5_holds : ByteArray := prog_7_method_3_code
def yX5_holds : MethodName := ⟨RX5, "holds", "(II)Z"⟩
abbrev cX5_put : ByteArray := prog_7_method_4_code
def yX5_put : MethodName := ⟨RX5, "put", "(II)I"⟩
abbrev cX5_allWithin : ByteArray := prog_7_method_5_code
def yX5_allWithin : MethodName := ⟨RX5, "allWithin", "(IIII)Z"⟩
def RX6 : String := "CrierWeeks$Stand"
def TX6 : u_T := fun k => match k with
  | 0 => ("CrierWeeks$Stand", "town", "LCrierWeeks$Town;", true)
  | 1 => ("CrierWeeks$Stand", "purses", "[I", true)
  | 2 => ("CrierWeeks$Stand", "banked", "[I", true)
  | 3 => ("CrierWeeks$Stand", "known", "[I", true)
  | 4 => ("CrierWeeks$Stand", "week", "I", false)
  | 5 => ("CrierWeeks$Stand", "left", "I", false)
  | 6 => ("CrierWeeks$Stand", "hill", "I", false)
  | 7 => ("CrierWeeks$Stand", "price", "I", false)
  | _ => ("CrierWeeks$Stand", "said", "I", false)
def tyX6 : Nat → FieldType := fun k => match k with
  | 0 => .object "CrierWeeks$Town"
  | 1 => .array .int
  | 2 => .array .int
  | 3 => .array .int
  | 4 => .int
  | 5 => .int
  | 6 => .int
  | 7 => .int
  | _ => .int
theorem nmX6 : ∀ a, a < 9 → ∀ b, b < 9 → a ≠ b → (TX6 a).2.1 ≠ (TX6 b).2.1 := by decide +kernel
theorem tyX6_ok : ∀ k, k < 9 → parseFieldDescriptor (TX6 k).2.2.1 = some (tyX6 k) := by decide +kernel
abbrev cX6_init : ByteArray := prog_8_method_1_code
def yX6_init : MethodName := ⟨RX6, "<init>", "(LCrierWeeks$Town;)V"⟩
abbrev cX6_takeFrom : ByteArray := prog_8_method_2_code
def yX6_takeFrom : MethodName := ⟨RX6, "takeFrom", "(LCrierWeeks$Stand;)V"⟩
abbrev cX6_isSaid : ByteArray := prog_8_method_3_code
def yX6_isSaid : MethodName := ⟨RX6, "isSaid", "(I)Z"⟩
abbrev cX6_wordsOfLeft : ByteArray := prog_8_method_4_code
def yX6_wordsOfLeft : MethodName := ⟨RX6, "wordsOfLeft", "(I)I"⟩
abbrev cX6_crowns : ByteArray := prog_8_method_5_code
def yX6_crowns : MethodName := ⟨RX6, "crowns", "(I)I"⟩
abbrev cX6_canSay : ByteArray := prog_8_method_6_code
def yX6_canSay : MethodName := ⟨RX6, "canSay", "(I)Z"⟩
abbrev cX6_speak : ByteArray := prog_8_method_7_code
def yX6_speak : MethodName := ⟨RX6, "speak", "(I)I"⟩
abbrev cX6_canBank : ByteArray := prog_8_method_8_code
def yX6_canBank : MethodName := ⟨RX6, "canBank", "(II)Z"⟩
abbrev cX6_bank : ByteArray := prog_8_method_9_code
def yX6_bank : MethodName := ⟨RX6, "bank", "(II)I"⟩
abbrev cX6_purseAhead : ByteArray := prog_8_method_10_code
def yX6_purseAhead : MethodName := ⟨RX6, "purseAhead", "(II)I"⟩
abbrev cX6_hillAhead : ByteArray := prog_8_method_11_code
def yX6_hillAhead : MethodName := ⟨RX6, "hillAhead", "(I)I"⟩
abbrev cX6_knownAhead : ByteArray := prog_8_method_12_code
def yX6_knownAhead : MethodName := ⟨RX6, "knownAhead", "(II)I"⟩
abbrev cX6_passWeeks : ByteArray := prog_8_method_13_code
def yX6_passWeeks : MethodName := ⟨RX6, "passWeeks", "(I)V"⟩
abbrev cX6_weeksTill : ByteArray := prog_8_method_14_code
def yX6_weeksTill : MethodName := ⟨RX6, "weeksTill", "(II)I"⟩
abbrev cX6_weeksToEarn : ByteArray := prog_8_method_15_code
def yX6_weeksToEarn : MethodName := ⟨RX6, "weeksToEarn", "(II)I"⟩
abbrev cX6_understanders : ByteArray := prog_8_method_16_code
def yX6_understanders : MethodName := ⟨RX6, "understanders", "(I)I"⟩
abbrev cX6_understandersOfAll : ByteArray := prog_8_method_17_code
def yX6_understandersOfAll : MethodName := ⟨RX6, "understandersOfAll", "(I)I"⟩
abbrev cX6_knownTo : ByteArray := prog_8_method_18_code
def yX6_knownTo : MethodName := ⟨RX6, "knownTo", "(I)I"⟩
abbrev cX6_understoodBy : ByteArray := prog_8_method_19_code
def yX6_understoodBy : MethodName := ⟨RX6, "understoodBy", "(I)I"⟩
abbrev cX6_passedOn : ByteArray := prog_8_method_20_code
def yX6_passedOn : MethodName := ⟨RX6, "passedOn", "(III)I"⟩
abbrev cX6_claim : ByteArray := prog_8_method_21_code
def yX6_claim : MethodName := ⟨RX6, "claim", "(I)I"⟩
abbrev cX6_shareOf : ByteArray := prog_8_method_22_code
def yX6_shareOf : MethodName := ⟨RX6, "shareOf", "(II)I"⟩
def RX7 : String := "CrierWeeks$Thrift"
def TX7 : u_T := fun k => match k with
  | 0 => ("CrierWeeks$Thrift", "fullest", "[I", true)
  | _ => ("CrierWeeks$Thrift", "wanted", "I", false)
def tyX7 : Nat → FieldType := fun k => match k with
  | 0 => .array .int
  | _ => .int
theorem nmX7 : ∀ a, a < 2 → ∀ b, b < 2 → a ≠ b → (TX7 a).2.1 ≠ (TX7 b).2.1 := by decide +kernel
theorem tyX7_ok : ∀ k, k < 2 → parseFieldDescriptor (TX7 k).2.2.1 = some (tyX7 k) := by decide +kernel
abbrev cX7_init : ByteArray := prog_9_method_1_code
def yX7_init : MethodName := ⟨RX7, "<init>", "()V"⟩
abbrev cX7_begin : ByteArray := prog_9_method_2_code
def yX7_begin : MethodName := ⟨RX7, "begin", "(II)V"⟩
abbrev cX7_passWeek : ByteArray := prog_9_method_3_code
def yX7_passWeek : MethodName := ⟨RX7, "passWeek", "(III)V"⟩
abbrev cX7_mostLeft : ByteArray := prog_9_method_4_code
def yX7_mostLeft : MethodName := ⟨RX7, "mostLeft", "()I"⟩
def RX8 : String := "CrierWeeks$Town"
def TX8 : u_T := fun k => match k with
  | 0 => ("CrierWeeks$Town", "incomes", "[I", true)
  | 1 => ("CrierWeeks$Town", "kinds", "[I", true)
  | 2 => ("CrierWeeks$Town", "speakers", "[I", true)
  | 3 => ("CrierWeeks$Town", "lengths", "[I", true)
  | 4 => ("CrierWeeks$Town", "needs", "[I", true)
  | 5 => ("CrierWeeks$Town", "ration", "I", false)
  | 6 => ("CrierWeeks$Town", "people", "I", false)
  | _ => ("CrierWeeks$Town", "speeches", "I", false)
def tyX8 : Nat → FieldType := fun k => match k with
  | 0 => .array .int
  | 1 => .array .int
  | 2 => .array .int
  | 3 => .array .int
  | 4 => .array .int
  | 5 => .int
  | 6 => .int
  | _ => .int
theorem nmX8 : ∀ a, a < 8 → ∀ b, b < 8 → a ≠ b → (TX8 a).2.1 ≠ (TX8 b).2.1 := by decide +kernel
theorem tyX8_ok : ∀ k, k < 8 → parseFieldDescriptor (TX8 k).2.2.1 = some (tyX8 k) := by decide +kernel
abbrev cX8_init : ByteArray := prog_10_method_1_code
def yX8_init : MethodName := ⟨RX8, "<init>", "()V"⟩
abbrev cX8_takeFrom : ByteArray := prog_10_method_2_code
def yX8_takeFrom : MethodName := ⟨RX8, "takeFrom", "(LCrierWeeks$Town;)V"⟩
abbrev cX8_hasPerson : ByteArray := prog_10_method_3_code
def yX8_hasPerson : MethodName := ⟨RX8, "hasPerson", "(I)Z"⟩
abbrev cX8_hasSpeech : ByteArray := prog_10_method_4_code
def yX8_hasSpeech : MethodName := ⟨RX8, "hasSpeech", "(I)Z"⟩
abbrev cX8_everyone : ByteArray := prog_10_method_5_code
def yX8_everyone : MethodName := ⟨RX8, "everyone", "()I"⟩
abbrev cX8_words : ByteArray := prog_10_method_6_code
def yX8_words : MethodName := ⟨RX8, "words", "(I)I"⟩
abbrev cX8_withBeside : ByteArray := prog_10_method_7_code
def yX8_withBeside : MethodName := ⟨RX8, "withBeside", "(I)I"⟩
abbrev cX8_reachedBySaying : ByteArray := prog_10_method_8_code
def yX8_reachedBySaying : MethodName := ⟨RX8, "reachedBySaying", "(III)I"⟩
abbrev cX8_onward : ByteArray := prog_10_method_9_code
def yX8_onward : MethodName := ⟨RX8, "onward", "(IIII)I"⟩
def RX9 : String := "CrierWeeks"
def TX9 : u_T := fun k => match k with
  | 0 => ("CrierWeeks", "rows", "[LCrierWeeks$Row;", true)
  | 1 => ("CrierWeeks", "images", "[LCrierWeeks$Image;", true)
  | 2 => ("CrierWeeks", "town", "LCrierWeeks$Town;", true)
  | 3 => ("CrierWeeks", "stand", "LCrierWeeks$Stand;", true)
  | 4 => ("CrierWeeks", "trial", "LCrierWeeks$Stand;", true)
  | 5 => ("CrierWeeks", "past", "LCrierWeeks$Past;", true)
  | 6 => ("CrierWeeks", "orders", "LCrierWeeks$Orders;", true)
  | 7 => ("CrierWeeks", "saver", "LCrierWeeks$Thrift;", true)
  | 8 => ("CrierWeeks", "reader", "LCrierWeeks$Reader;", true)
  | 9 => ("CrierWeeks", "asks", "LCrierWeeks$Asks;", true)
  | _ => ("CrierWeeks", "status", "I", false)
def tyX9 : Nat → FieldType := fun k => match k with
  | 0 => .array (.object "CrierWeeks$Row")
  | 1 => .array (.object "CrierWeeks$Image")
  | 2 => .object "CrierWeeks$Town"
  | 3 => .object "CrierWeeks$Stand"
  | 4 => .object "CrierWeeks$Stand"
  | 5 => .object "CrierWeeks$Past"
  | 6 => .object "CrierWeeks$Orders"
  | 7 => .object "CrierWeeks$Thrift"
  | 8 => .object "CrierWeeks$Reader"
  | 9 => .object "CrierWeeks$Asks"
  | _ => .int
theorem nmX9 : ∀ a, a < 11 → ∀ b, b < 11 → a ≠ b → (TX9 a).2.1 ≠ (TX9 b).2.1 := by decide +kernel
theorem tyX9_ok : ∀ k, k < 11 → parseFieldDescriptor (TX9 k).2.2.1 = some (tyX9 k) := by decide +kernel
abbrev cX9_init : ByteArray := prog_1_method_1_code
def yX9_init : MethodName := ⟨RX9, "<init>", "()V"⟩
abbrev cX9_row : ByteArray := prog_1_method_2_code
def yX9_row : MethodName := ⟨RX9, "row", "(III)I"⟩
abbrev cX9_set : ByteArray := prog_1_method_3_code
def yX9_set : MethodName := ⟨RX9, "set", "(III)I"⟩
abbrev cX9_copy : ByteArray := prog_1_method_4_code
def yX9_copy : MethodName := ⟨RX9, "copy", "(IIIII)I"⟩
abbrev cX9_drop : ByteArray := prog_1_method_5_code
def yX9_drop : MethodName := ⟨RX9, "drop", "(I)I"⟩
abbrev cX9_feed : ByteArray := prog_1_method_6_code
def yX9_feed : MethodName := ⟨RX9, "feed", "(I)I"⟩
abbrev cX9_duchy : ByteArray := prog_1_method_7_code
def yX9_duchy : MethodName := ⟨RX9, "duchy", "()I"⟩
abbrev cX9_fault : ByteArray := prog_1_method_8_code
def yX9_fault : MethodName := ⟨RX9, "fault", "()I"⟩
abbrev cX9_undo : ByteArray := prog_1_method_9_code
def yX9_undo : MethodName := ⟨RX9, "undo", "()I"⟩
abbrev cX9_weeks : ByteArray := prog_1_method_10_code
def yX9_weeks : MethodName := ⟨RX9, "weeks", "(I)I"⟩
abbrev cX9_say : ByteArray := prog_1_method_11_code
def yX9_say : MethodName := ⟨RX9, "say", "(I)I"⟩
abbrev cX9_buy : ByteArray := prog_1_method_12_code
def yX9_buy : MethodName := ⟨RX9, "buy", "(II)I"⟩
abbrev cX9_letOut : ByteArray := prog_1_method_13_code
def yX9_letOut : MethodName := ⟨RX9, "letOut", "(I)I"⟩
abbrev cX9_price : ByteArray := prog_1_method_14_code
def yX9_price : MethodName := ⟨RX9, "price", "(I)I"⟩
abbrev cX9_speech : ByteArray := prog_1_method_15_code
def yX9_speech : MethodName := ⟨RX9, "speech", "(II)I"⟩
abbrev cX9_person : ByteArray := prog_1_method_16_code
def yX9_person : MethodName := ⟨RX9, "person", "(II)I"⟩
abbrev cX9_stand : ByteArray := prog_1_method_17_code
def yX9_stand : MethodName := ⟨RX9, "stand", "(I)I"⟩
abbrev cX9_purse : ByteArray := prog_1_method_18_code
def yX9_purse : MethodName := ⟨RX9, "purse", "(II)I"⟩
abbrev cX9_hill : ByteArray := prog_1_method_19_code
def yX9_hill : MethodName := ⟨RX9, "hill", "(I)I"⟩
abbrev cX9_known : ByteArray := prog_1_method_20_code
def yX9_known : MethodName := ⟨RX9, "known", "(II)I"⟩
abbrev cX9_allKnow : ByteArray := prog_1_method_21_code
def yX9_allKnow : MethodName := ⟨RX9, "allKnow", "(I)I"⟩
abbrev cX9_when : ByteArray := prog_1_method_22_code
def yX9_when : MethodName := ⟨RX9, "when", "(I)I"⟩
abbrev cX9_most : ByteArray := prog_1_method_23_code
def yX9_most : MethodName := ⟨RX9, "most", "(I)I"⟩
abbrev cX9_order : ByteArray := prog_1_method_24_code
def yX9_order : MethodName := ⟨RX9, "order", "(I)I"⟩
abbrev cX9_clear : ByteArray := prog_1_method_25_code
def yX9_clear : MethodName := ⟨RX9, "clear", "()I"⟩
abbrev cX9_deaf : ByteArray := prog_1_method_26_code
def yX9_deaf : MethodName := ⟨RX9, "deaf", "(IIII)I"⟩
abbrev cX9_share : ByteArray := prog_1_method_27_code
def yX9_share : MethodName := ⟨RX9, "share", "(II)I"⟩
abbrev cX9_thrift : ByteArray := prog_1_method_28_code
def yX9_thrift : MethodName := ⟨RX9, "thrift", "(IIIII)I"⟩
abbrev cX9_who : ByteArray := prog_1_method_29_code
def yX9_who : MethodName := ⟨RX9, "who", "(IIIII)I"⟩
abbrev cX9_priced : ByteArray := prog_1_method_30_code
def yX9_priced : MethodName := ⟨RX9, "priced", "(IIIII)I"⟩
abbrev cX9_heard : ByteArray := prog_1_method_31_code
def yX9_heard : MethodName := ⟨RX9, "heard", "(IIIII)J"⟩
abbrev cX9_drawn : ByteArray := prog_1_method_32_code
def yX9_drawn : MethodName := ⟨RX9, "drawn", "(III)I"⟩
abbrev cX9_image : ByteArray := prog_1_method_33_code
def yX9_image : MethodName := ⟨RX9, "image", "(I)I"⟩
abbrev cX9_restore : ByteArray := prog_1_method_34_code
def yX9_restore : MethodName := ⟨RX9, "restore", "(I)I"⟩
abbrev cX9_kind : ByteArray := prog_1_method_35_code
def yX9_kind : MethodName := ⟨RX9, "kind", "(I)I"⟩
abbrev cX9_as : ByteArray := prog_1_method_36_code
def yX9_as : MethodName := ⟨RX9, "as", "(II)I"⟩
abbrev cX9_ask : ByteArray := prog_1_method_37_code
def yX9_ask : MethodName := ⟨RX9, "ask", "(II)I"⟩
abbrev cX9_trace : ByteArray := prog_1_method_38_code
def yX9_trace : MethodName := ⟨RX9, "trace", "(I)I"⟩
abbrev cX9_count : ByteArray := prog_1_method_39_code
def yX9_count : MethodName := ⟨RX9, "count", "(I)I"⟩
abbrev cX9_status : ByteArray := prog_1_method_40_code
def yX9_status : MethodName := ⟨RX9, "status", "()I"⟩
abbrev cX9_within : ByteArray := prog_1_method_41_code
def yX9_within : MethodName := ⟨RX9, "within", "(III)Z"⟩
abbrev cX9_isRow : ByteArray := prog_1_method_42_code
def yX9_isRow : MethodName := ⟨RX9, "isRow", "(I)Z"⟩
abbrev cX9_noDuchy : ByteArray := prog_1_method_43_code
def yX9_noDuchy : MethodName := ⟨RX9, "noDuchy", "()Z"⟩
abbrev cX9_found : ByteArray := prog_1_method_44_code
def yX9_found : MethodName := ⟨RX9, "found", "(I)I"⟩
abbrev cX9_fine : ByteArray := prog_1_method_45_code
def yX9_fine : MethodName := ⟨RX9, "fine", "(I)I"⟩
abbrev cX9_stretchFinding : ByteArray := prog_1_method_46_code
def yX9_stretchFinding : MethodName := ⟨RX9, "stretchFinding", "(III)I"⟩
abbrev cX9_rowsThere : ByteArray := prog_1_method_47_code
def yX9_rowsThere : MethodName := ⟨RX9, "rowsThere", "()I"⟩
abbrev cX9_isKind : ByteArray := prog_1_method_48_code
def yX9_isKind : MethodName := ⟨RX9, "isKind", "(II)Z"⟩
abbrev cX9_largestSet : ByteArray := prog_1_method_49_code
def yX9_largestSet : MethodName := ⟨RX9, "largestSet", "()I"⟩
abbrev cX9_tryAllOf : ByteArray := prog_1_method_50_code
def yX9_tryAllOf : MethodName := ⟨RX9, "tryAllOf", "(I)I"⟩
abbrev cX9_fewestDeaf : ByteArray := prog_1_method_51_code
def yX9_fewestDeaf : MethodName := ⟨RX9, "fewestDeaf", "(III)I"⟩
abbrev cX9_fitsCounts : ByteArray := prog_1_method_52_code
def yX9_fitsCounts : MethodName := ⟨RX9, "fitsCounts", "(IILCrierWeeks$Row;II)Z"⟩
abbrev cX9_heardCases : ByteArray := prog_1_method_53_code
def yX9_heardCases : MethodName := ⟨RX9, "heardCases", "(IIII)J"⟩
abbrev cX9_power : ByteArray := prog_1_method_54_code
def yX9_power : MethodName := ⟨RX9, "power", "(II)J"⟩
abbrev cX9_commonDivisor : ByteArray := prog_1_method_55_code
def yX9_commonDivisor : MethodName := ⟨RX9, "commonDivisor", "(JJ)J"⟩
abbrev cX9_drawTerms : ByteArray := prog_1_method_56_code
def yX9_drawTerms : MethodName := ⟨RX9, "drawTerms", "(II)V"⟩
def RX10 : String := "CrierWeeksModel"
def TX10 : u_T := fun k => match k with
  | 0 => ("CrierWeeksModel", "sizes", "[I", true)
  | 1 => ("CrierWeeksModel", "lanes", "[I", true)
  | 2 => ("CrierWeeksModel", "rows", "[I", true)
  | 3 => ("CrierWeeksModel", "found", "I", false)
  | 4 => ("CrierWeeksModel", "byteMany", "I", false)
  | 5 => ("CrierWeeksModel", "tape", "[I", true)
  | 6 => ("CrierWeeksModel", "readAt", "I", false)
  | 7 => ("CrierWeeksModel", "token", "I", false)
  | 8 => ("CrierWeeksModel", "number", "I", false)
  | 9 => ("CrierWeeksModel", "tokenAt", "I", false)
  | 10 => ("CrierWeeksModel", "readFault", "I", false)
  | 11 => ("CrierWeeksModel", "fault", "I", false)
  | 12 => ("CrierWeeksModel", "readPrice", "I", false)
  | 13 => ("CrierWeeksModel", "read", "[I", true)
  | 14 => ("CrierWeeksModel", "readPurse", "[I", true)
  | 15 => ("CrierWeeksModel", "one", "[I", true)
  | 16 => ("CrierWeeksModel", "isDuchy", "Z", false)
  | 17 => ("CrierWeeksModel", "law", "[I", true)
  | 18 => ("CrierWeeksModel", "now", "[I", true)
  | 19 => ("CrierWeeksModel", "tried", "[I", true)
  | 20 => ("CrierWeeksModel", "undoMany", "I", false)
  | 21 => ("CrierWeeksModel", "undoAt", "I", false)
  | 22 => ("CrierWeeksModel", "undos", "[I", true)
  | 23 => ("CrierWeeksModel", "orders", "[I", true)
  | 24 => ("CrierWeeksModel", "purses", "[I", true)
  | 25 => ("CrierWeeksModel", "pursesThen", "[I", true)
  | 26 => ("CrierWeeksModel", "isKept", "[Z", true)
  | 27 => ("CrierWeeksModel", "keptLaw", "[I", true)
  | 28 => ("CrierWeeksModel", "kept", "[I", true)
  | 29 => ("CrierWeeksModel", "traceMany", "I", false)
  | _ => ("CrierWeeksModel", "traced", "[I", true)
def tyX10 : Nat → FieldType := fun k => match k with
  | 0 => .array .int
  | 1 => .array .int
  | 2 => .array .int
  | 3 => .int
  | 4 => .int
  | 5 => .array .int
  | 6 => .int
  | 7 => .int
  | 8 => .int
  | 9 => .int
  | 10 => .int
  | 11 => .int
  | 12 => .int
  | 13 => .array .int
  | 14 => .array .int
  | 15 => .array .int
  | 16 => .boolean
  | 17 => .array .int
  | 18 => .array .int
  | 19 => .array .int
  | 20 => .int
  | 21 => .int
  | 22 => .array .int
  | 23 => .array .int
  | 24 => .array .int
  | 25 => .array .int
  | 26 => .array .boolean
  | 27 => .array .int
  | 28 => .array .int
  | 29 => .int
  | _ => .array .int
theorem nmX10 : ∀ a, a < 31 → ∀ b, b < 31 → a ≠ b → (TX10 a).2.1 ≠ (TX10 b).2.1 := by decide +kernel
theorem tyX10_ok : ∀ k, k < 31 → parseFieldDescriptor (TX10 k).2.2.1 = some (tyX10 k) := by decide +kernel
abbrev cX10_init : ByteArray := prog_12_method_1_code
def yX10_init : MethodName := ⟨RX10, "<init>", "()V"⟩
abbrev cX10_in : ByteArray := prog_12_method_2_code
def yX10_in : MethodName := ⟨RX10, "in", "(III)Z"⟩
abbrev cX10_has : ByteArray := prog_12_method_3_code
def yX10_has : MethodName := ⟨RX10, "has", "(II)Z"⟩
abbrev cX10_bits : ByteArray := prog_12_method_4_code
def yX10_bits : MethodName := ⟨RX10, "bits", "(I)I"⟩
abbrev cX10_meets : ByteArray := prog_12_method_5_code
def yX10_meets : MethodName := ⟨RX10, "meets", "(I)I"⟩
abbrev cX10_well : ByteArray := prog_12_method_6_code
def yX10_well : MethodName := ⟨RX10, "well", "(I)I"⟩
abbrev cX10_status : ByteArray := prog_12_method_7_code
def yX10_status : MethodName := ⟨RX10, "status", "()I"⟩
abbrev cX10_isRow : ByteArray := prog_12_method_8_code
def yX10_isRow : MethodName := ⟨RX10, "isRow", "(I)Z"⟩
abbrev cX10_isPart : ByteArray := prog_12_method_9_code
def yX10_isPart : MethodName := ⟨RX10, "isPart", "(III)Z"⟩
abbrev cX10_item : ByteArray := prog_12_method_10_code
def yX10_item : MethodName := ⟨RX10, "item", "(II)I"⟩
abbrev cX10_row : ByteArray := prog_12_method_11_code
def yX10_row : MethodName := ⟨RX10, "row", "(III)I"⟩
abbrev cX10_set : ByteArray := prog_12_method_12_code
def yX10_set : MethodName := ⟨RX10, "set", "(III)I"⟩
abbrev cX10_copy : ByteArray := prog_12_method_13_code
def yX10_copy : MethodName := ⟨RX10, "copy", "(IIIII)I"⟩
abbrev cX10_drop : ByteArray := prog_12_method_14_code
def yX10_drop : MethodName := ⟨RX10, "drop", "(I)I"⟩
abbrev cX10_feed : ByteArray := prog_12_method_15_code
def yX10_feed : MethodName := ⟨RX10, "feed", "(I)I"⟩
abbrev cX10_byteAt : ByteArray := prog_12_method_16_code
def yX10_byteAt : MethodName := ⟨RX10, "byteAt", "(I)I"⟩
abbrev cX10_isFigure : ByteArray := prog_12_method_17_code
def yX10_isFigure : MethodName := ⟨RX10, "isFigure", "(I)Z"⟩
abbrev cX10_reads : ByteArray := prog_12_method_18_code
def yX10_reads : MethodName := ⟨RX10, "reads", "()V"⟩
abbrev cX10_fails : ByteArray := prog_12_method_19_code
def yX10_fails : MethodName := ⟨RX10, "fails", "(I)Z"⟩
abbrev cX10_told : ByteArray := prog_12_method_20_code
def yX10_told : MethodName := ⟨RX10, "told", "([IIII)Z"⟩
abbrev cX10_sign : ByteArray := prog_12_method_21_code
def yX10_sign : MethodName := ⟨RX10, "sign", "(I)Z"⟩
abbrev cX10_readsLaw : ByteArray := prog_12_method_22_code
def yX10_readsLaw : MethodName := ⟨RX10, "readsLaw", "()Z"⟩
abbrev cX10_readsPerson : ByteArray := prog_12_method_23_code
def yX10_readsPerson : MethodName := ⟨RX10, "readsPerson", "()Z"⟩
abbrev cX10_sortOf : ByteArray := prog_12_method_24_code
def yX10_sortOf : MethodName := ⟨RX10, "sortOf", "(I)I"⟩
abbrev cX10_readsSpeech : ByteArray := prog_12_method_25_code
def yX10_readsSpeech : MethodName := ⟨RX10, "readsSpeech", "()Z"⟩
abbrev cX10_readsAll : ByteArray := prog_12_method_26_code
def yX10_readsAll : MethodName := ⟨RX10, "readsAll", "()Z"⟩
abbrev cX10_duchy : ByteArray := prog_12_method_27_code
def yX10_duchy : MethodName := ⟨RX10, "duchy", "()I"⟩
abbrev cX10_fault : ByteArray := prog_12_method_28_code
def yX10_fault : MethodName := ⟨RX10, "fault", "()I"⟩
abbrev cX10_isPerson : ByteArray := prog_12_method_29_code
def yX10_isPerson : MethodName := ⟨RX10, "isPerson", "(I)Z"⟩
abbrev cX10_isSpeech : ByteArray := prog_12_method_30_code
def yX10_isSpeech : MethodName := ⟨RX10, "isSpeech", "(I)Z"⟩
abbrev cX10_all : ByteArray := prog_12_method_31_code
def yX10_all : MethodName := ⟨RX10, "all", "()I"⟩
abbrev cX10_words : ByteArray := prog_12_method_32_code
def yX10_words : MethodName := ⟨RX10, "words", "(I)I"⟩
abbrev cX10_rest : ByteArray := prog_12_method_33_code
def yX10_rest : MethodName := ⟨RX10, "rest", "([II)I"⟩
abbrev cX10_costs : ByteArray := prog_12_method_34_code
def yX10_costs : MethodName := ⟨RX10, "costs", "([II)I"⟩
abbrev cX10_can : ByteArray := prog_12_method_35_code
def yX10_can : MethodName := ⟨RX10, "can", "([II)Z"⟩
abbrev cX10_beside : ByteArray := prog_12_method_36_code
def yX10_beside : MethodName := ⟨RX10, "beside", "(II)I"⟩
abbrev cX10_firstTo : ByteArray := prog_12_method_37_code
def yX10_firstTo : MethodName := ⟨RX10, "firstTo", "(III)I"⟩
abbrev cX10_onward : ByteArray := prog_12_method_38_code
def yX10_onward : MethodName := ⟨RX10, "onward", "(III)I"⟩
abbrev cX10_says : ByteArray := prog_12_method_39_code
def yX10_says : MethodName := ⟨RX10, "says", "([II)I"⟩
abbrev cX10_capped : ByteArray := prog_12_method_40_code
def yX10_capped : MethodName := ⟨RX10, "capped", "(II)I"⟩
abbrev cX10_passes : ByteArray := prog_12_method_41_code
def yX10_passes : MethodName := ⟨RX10, "passes", "([I)V"⟩
abbrev cX10_remember : ByteArray := prog_12_method_42_code
def yX10_remember : MethodName := ⟨RX10, "remember", "()V"⟩
abbrev cX10_undo : ByteArray := prog_12_method_43_code
def yX10_undo : MethodName := ⟨RX10, "undo", "()I"⟩
abbrev cX10_need : ByteArray := prog_12_method_44_code
def yX10_need : MethodName := ⟨RX10, "need", "(Z)I"⟩
abbrev cX10_weeks : ByteArray := prog_12_method_45_code
def yX10_weeks : MethodName := ⟨RX10, "weeks", "(I)I"⟩
abbrev cX10_say : ByteArray := prog_12_method_46_code
def yX10_say : MethodName := ⟨RX10, "say", "(I)I"⟩
abbrev cX10_buy : ByteArray := prog_12_method_47_code
def yX10_buy : MethodName := ⟨RX10, "buy", "(II)I"⟩
abbrev cX10_letOut : ByteArray := prog_12_method_48_code
def yX10_letOut : MethodName := ⟨RX10, "letOut", "(I)I"⟩
abbrev cX10_price : ByteArray := prog_12_method_49_code
def yX10_price : MethodName := ⟨RX10, "price", "(I)I"⟩
abbrev cX10_clearTo : ByteArray := prog_12_method_50_code
def yX10_clearTo : MethodName := ⟨RX10, "clearTo", "([II)I"⟩
abbrev cX10_speech : ByteArray := prog_12_method_51_code
def yX10_speech : MethodName := ⟨RX10, "speech", "(II)I"⟩
abbrev cX10_person : ByteArray := prog_12_method_52_code
def yX10_person : MethodName := ⟨RX10, "person", "(II)I"⟩
abbrev cX10_stand : ByteArray := prog_12_method_53_code
def yX10_stand : MethodName := ⟨RX10, "stand", "(I)I"⟩
abbrev cX10_copyNow : ByteArray := prog_12_method_54_code
def yX10_copyNow : MethodName := ⟨RX10, "copyNow", "()V"⟩
abbrev cX10_ahead : ByteArray := prog_12_method_55_code
def yX10_ahead : MethodName := ⟨RX10, "ahead", "(I)V"⟩
abbrev cX10_isAhead : ByteArray := prog_12_method_56_code
def yX10_isAhead : MethodName := ⟨RX10, "isAhead", "(I)Z"⟩
abbrev cX10_purse : ByteArray := prog_12_method_57_code
def yX10_purse : MethodName := ⟨RX10, "purse", "(II)I"⟩
abbrev cX10_hill : ByteArray := prog_12_method_58_code
def yX10_hill : MethodName := ⟨RX10, "hill", "(I)I"⟩
abbrev cX10_known : ByteArray := prog_12_method_59_code
def yX10_known : MethodName := ⟨RX10, "known", "(II)I"⟩
abbrev cX10_allKnow : ByteArray := prog_12_method_60_code
def yX10_allKnow : MethodName := ⟨RX10, "allKnow", "(I)I"⟩
abbrev cX10_when : ByteArray := prog_12_method_61_code
def yX10_when : MethodName := ⟨RX10, "when", "(I)I"⟩
abbrev cX10_saidAll : ByteArray := prog_12_method_62_code
def yX10_saidAll : MethodName := ⟨RX10, "saidAll", "(I)I"⟩
abbrev cX10_most : ByteArray := prog_12_method_63_code
def yX10_most : MethodName := ⟨RX10, "most", "(I)I"⟩
abbrev cX10_weeksOf : ByteArray := prog_12_method_64_code
def yX10_weeksOf : MethodName := ⟨RX10, "weeksOf", "(II)I"⟩
abbrev cX10_order : ByteArray := prog_12_method_65_code
def yX10_order : MethodName := ⟨RX10, "order", "(I)I"⟩
abbrev cX10_clear : ByteArray := prog_12_method_66_code
def yX10_clear : MethodName := ⟨RX10, "clear", "()I"⟩
abbrev cX10_passedOn : ByteArray := prog_12_method_67_code
def yX10_passedOn : MethodName := ⟨RX10, "passedOn", "(III)I"⟩
abbrev cX10_deaf : ByteArray := prog_12_method_68_code
def yX10_deaf : MethodName := ⟨RX10, "deaf", "(IIII)I"⟩
abbrev cX10_claim : ByteArray := prog_12_method_69_code
def yX10_claim : MethodName := ⟨RX10, "claim", "(I)I"⟩
abbrev cX10_share : ByteArray := prog_12_method_70_code
def yX10_share : MethodName := ⟨RX10, "share", "(II)I"⟩
abbrev cX10_thrift : ByteArray := prog_12_method_71_code
def yX10_thrift : MethodName := ⟨RX10, "thrift", "(IIIII)I"⟩
abbrev cX10_week : ByteArray := prog_12_method_72_code
def yX10_week : MethodName := ⟨RX10, "week", "(II)V"⟩
abbrev cX10_isNoted : ByteArray := prog_12_method_73_code
def yX10_isNoted : MethodName := ⟨RX10, "isNoted", "(IIIII)Z"⟩
abbrev cX10_who : ByteArray := prog_12_method_74_code
def yX10_who : MethodName := ⟨RX10, "who", "(IIIII)I"⟩
abbrev cX10_priced : ByteArray := prog_12_method_75_code
def yX10_priced : MethodName := ⟨RX10, "priced", "(IIIII)I"⟩
abbrev cX10_common : ByteArray := prog_12_method_76_code
def yX10_common : MethodName := ⟨RX10, "common", "(JJ)J"⟩
abbrev cX10_heard : ByteArray := prog_12_method_77_code
def yX10_heard : MethodName := ⟨RX10, "heard", "(IIIII)J"⟩
abbrev cX10_drawn : ByteArray := prog_12_method_78_code
def yX10_drawn : MethodName := ⟨RX10, "drawn", "(III)I"⟩
abbrev cX10_image : ByteArray := prog_12_method_79_code
def yX10_image : MethodName := ⟨RX10, "image", "(I)I"⟩
abbrev cX10_restore : ByteArray := prog_12_method_80_code
def yX10_restore : MethodName := ⟨RX10, "restore", "(I)I"⟩
abbrev cX10_kind : ByteArray := prog_12_method_81_code
def yX10_kind : MethodName := ⟨RX10, "kind", "(I)I"⟩
abbrev cX10_as : ByteArray := prog_12_method_82_code
def yX10_as : MethodName := ⟨RX10, "as", "(II)I"⟩
abbrev cX10_leaves : ByteArray := prog_12_method_83_code
def yX10_leaves : MethodName := ⟨RX10, "leaves", "(I)V"⟩
abbrev cX10_b10 : ByteArray := prog_12_method_84_code
def yX10_b10 : MethodName := ⟨RX10, "b10", "(I)I"⟩
abbrev cX10_b20 : ByteArray := prog_12_method_85_code
def yX10_b20 : MethodName := ⟨RX10, "b20", "(I)I"⟩
abbrev cX10_b21 : ByteArray := prog_12_method_86_code
def yX10_b21 : MethodName := ⟨RX10, "b21", "(I)I"⟩
abbrev cX10_markOfNotice : ByteArray := prog_12_method_87_code
def yX10_markOfNotice : MethodName := ⟨RX10, "markOfNotice", "(I)I"⟩
abbrev cX10_b11 : ByteArray := prog_12_method_88_code
def yX10_b11 : MethodName := ⟨RX10, "b11", "(I)I"⟩
abbrev cX10_b13 : ByteArray := prog_12_method_89_code
def yX10_b13 : MethodName := ⟨RX10, "b13", "(I)I"⟩
abbrev cX10_sizeOf : ByteArray := prog_12_method_90_code
def yX10_sizeOf : MethodName := ⟨RX10, "sizeOf", "(I)I"⟩
abbrev cX10_markOf : ByteArray := prog_12_method_91_code
def yX10_markOf : MethodName := ⟨RX10, "markOf", "(I)I"⟩
abbrev cX10_ask : ByteArray := prog_12_method_92_code
def yX10_ask : MethodName := ⟨RX10, "ask", "(II)I"⟩
abbrev cX10_trace : ByteArray := prog_12_method_93_code
def yX10_trace : MethodName := ⟨RX10, "trace", "(I)I"⟩
abbrev cX10_count : ByteArray := prog_12_method_94_code
def yX10_count : MethodName := ⟨RX10, "count", "(I)I"⟩
def RJ6 : String := "java/lang/Integer"
def TJ6 : u_T := fun k => match k with
  | _ => ("", "", "", false)
def tyJ6 : Nat → FieldType := fun k => match k with
  | _ => .int
theorem nmJ6 : ∀ a, a < 0 → ∀ b, b < 0 → a ≠ b → (TJ6 a).2.1 ≠ (TJ6 b).2.1 := by decide +kernel
theorem tyJ6_ok : ∀ k, k < 0 → parseFieldDescriptor (TJ6 k).2.2.1 = some (tyJ6 k) := by decide +kernel
abbrev cJ6_bitCount_0f7a4 : ByteArray := prog_13_method_49_code
def yJ6_bitCount_0f7a4 : MethodName := ⟨RJ6, "bitCount", "(I)I"⟩
def RJ9 : String := "java/lang/Math"
def TJ9 : u_T := fun k => match k with
  | _ => ("", "", "", false)
def tyJ9 : Nat → FieldType := fun k => match k with
  | _ => .int
theorem nmJ9 : ∀ a, a < 0 → ∀ b, b < 0 → a ≠ b → (TJ9 a).2.1 ≠ (TJ9 b).2.1 := by decide +kernel
theorem tyJ9_ok : ∀ k, k < 0 → parseFieldDescriptor (TJ9 k).2.2.1 = some (tyJ9 k) := by decide +kernel
abbrev cJ9_max_7cf53 : ByteArray := prog_14_method_65_code
def yJ9_max_7cf53 : MethodName := ⟨RJ9, "max", "(II)I"⟩
abbrev cJ9_min_7cf53 : ByteArray := prog_14_method_69_code
def yJ9_min_7cf53 : MethodName := ⟨RJ9, "min", "(II)I"⟩
def RJ10 : String := "java/lang/System"
def TJ10 : u_T := fun k => match k with
  | _ => ("", "", "", false)
def tyJ10 : Nat → FieldType := fun k => match k with
  | _ => .int
theorem nmJ10 : ∀ a, a < 0 → ∀ b, b < 0 → a ≠ b → (TJ10 a).2.1 ≠ (TJ10 b).2.1 := by decide +kernel
theorem tyJ10_ok : ∀ k, k < 0 → parseFieldDescriptor (TJ10 k).2.2.1 = some (tyJ10 k) := by decide +kernel
def RL : String := "CrierWeeksLaw"
abbrev cL_law : ByteArray := code
def yL_law : MethodName := ⟨RL, "law", "([I)Z"⟩
abbrev vwCl : List vw_C := [(RX0, TX0, 4), (RX1, TX1, 3), (RX2, TX2, 6), (RX3, TX3, 3), (RX4, TX4, 11), (RX5, TX5, 4), (RX6, TX6, 9), (RX7, TX7, 2), (RX8, TX8, 8), (RX9, TX9, 11), (RX10, TX10, 31)]
end
section
theorem dX0_init_0 : decode cX0_init 0 = .ok (.aload_n 0, 1) := by decide +kernel
theorem dX0_init_1 : decode cX0_init 1 = .ok (.invokespecial 3, 3) := by decide +kernel
theorem dX0_init_4 : decode cX0_init 4 = .ok (.aload_n 0, 1) := by decide +kernel
theorem dX0_init_5 : decode cX0_init 5 = .ok (.bipush 16, 2) := by decide +kernel
theorem dX0_init_7 : decode cX0_init 7 = .ok (.newarray .int, 2) := by decide +kernel
theorem dX0_init_9 : decode cX0_init 9 = .ok (.putfield 9, 3) := by decide +kernel
theorem dX0_init_12 : decode cX0_init 12 = .ok (.aload_n 0, 1) := by decide +kernel
theorem dX0_init_13 : decode cX0_init 13 = .ok (.aload_n 1, 1) := by decide +kernel
theorem dX0_init_14 : decode cX0_init 14 = .ok (.putfield 15, 3) := by decide +kernel
theorem dX0_init_17 : decode cX0_init 17 = .ok (.aload_n 0, 1) := by decide +kernel
theorem dX0_init_18 : decode cX0_init 18 = .ok (.aload_n 2, 1) := by decide +kernel
theorem dX0_init_19 : decode cX0_init 19 = .ok (.putfield 19, 3) := by decide +kernel
theorem dX0_init_22 : decode cX0_init 22 = .ok (.return_, 1) := by decide +kernel
theorem dX0_answer_0 : decode cX0_answer 0 = .ok (.aload_n 0, 1) := by decide +kernel
theorem dX0_answer_1 : decode cX0_answer 1 = .ok (.iconst 0, 1) := by decide +kernel
theorem dX0_answer_2 : decode cX0_answer 2 = .ok (.putfield 23, 3) := by decide +kernel
theorem dX0_answer_5 : decode cX0_answer 5 = .ok (.aload_n 0, 1) := by decide +kernel
theorem dX0_answer_6 : decode cX0_answer 6 = .ok (.iload_n 2, 1) := by decide +kernel
theorem dX0_answer_7 : decode cX0_answer 7 = .ok (.ifCond .ne 11, 3) := by decide +kernel
theorem dX0_answer_10 : decode cX0_answer 10 = .ok (.aload_n 0, 1) := by decide +kernel
theorem dX0_answer_11 : decode cX0_answer 11 = .ok (.iload_n 1, 1) := by decide +kernel
theorem dX0_answer_12 : decode cX0_answer 12 = .ok (.invokevirtual 27, 3) := by decide +kernel
theorem dX0_answer_15 : decode cX0_answer 15 = .ok (.goto 8, 3) := by decide +kernel
theorem dX0_answer_18 : decode cX0_answer 18 = .ok (.aload_n 0, 1) := by decide +kernel
theorem dX0_answer_19 : decode cX0_answer 19 = .ok (.iload_n 1, 1) := by decide +kernel
theorem dX0_answer_20 : decode cX0_answer 20 = .ok (.invokevirtual 31, 3) := by decide +kernel
theorem dX0_answer_23 : decode cX0_answer 23 = .ok (.iload_n 1, 1) := by decide +kernel
theorem dX0_answer_24 : decode cX0_answer 24 = .ok (.iconst 0, 1) := by decide +kernel
theorem dX0_answer_25 : decode cX0_answer 25 = .ok (.invokestatic 34, 3) := by decide +kernel
theorem dX0_answer_28 : decode cX0_answer 28 = .ok (.ireturn, 1) := by decide +kernel
theorem dX0_sizeBody_0 : decode cX0_sizeBody 0 = .ok (.getstatic 38, 3) := by decide +kernel
theorem dX0_sizeBody_3 : decode cX0_sizeBody 3 = .ok (.aload_n 0, 1) := by decide +kernel
theorem dX0_sizeBody_4 : decode cX0_sizeBody 4 = .ok (.getfield 15, 3) := by decide +kernel
theorem dX0_sizeBody_7 : decode cX0_sizeBody 7 = .ok (.getfield 41, 3) := by decide +kernel
theorem dX0_sizeBody_10 : decode cX0_sizeBody 10 = .ok (.iload_n 1, 1) := by decide +kernel
theorem dX0_sizeBody_11 : decode cX0_sizeBody 11 = .ok (.iaload, 1) := by decide +kernel
theorem dX0_sizeBody_12 : decode cX0_sizeBody 12 = .ok (.iaload, 1) := by decide +kernel
theorem dX0_sizeBody_13 : decode cX0_sizeBody 13 = .ok (.ireturn, 1) := by decide +kernel
theorem dX0_markBody_0 : decode cX0_markBody 0 = .ok (.getstatic 46, 3) := by decide +kernel
theorem dX0_markBody_3 : decode cX0_markBody 3 = .ok (.aload_n 0, 1) := by decide +kernel
theorem dX0_markBody_4 : decode cX0_markBody 4 = .ok (.getfield 15, 3) := by decide +kernel
theorem dX0_markBody_7 : decode cX0_markBody 7 = .ok (.getfield 41, 3) := by decide +kernel
theorem dX0_markBody_10 : decode cX0_markBody 10 = .ok (.iload_n 1, 1) := by decide +kernel
theorem dX0_markBody_11 : decode cX0_markBody 11 = .ok (.iaload, 1) := by decide +kernel
theorem dX0_markBody_12 : decode cX0_markBody 12 = .ok (.iaload, 1) := by decide +kernel
theorem dX0_markBody_13 : decode cX0_markBody 13 = .ok (.ireturn, 1) := by decide +kernel
theorem dX0_leave_0 : decode cX0_leave 0 = .ok (.aload_n 0, 1) := by decide +kernel
theorem dX0_leave_1 : decode cX0_leave 1 = .ok (.getfield 23, 3) := by decide +kernel
theorem dX0_leave_4 : decode cX0_leave 4 = .ok (.bipush 16, 2) := by decide +kernel
theorem dX0_leave_6 : decode cX0_leave 6 = .ok (.if_icmp .ge 23, 3) := by decide +kernel
theorem dX0_leave_9 : decode cX0_leave 9 = .ok (.aload_n 0, 1) := by decide +kernel
theorem dX0_leave_10 : decode cX0_leave 10 = .ok (.getfield 9, 3) := by decide +kernel
theorem dX0_leave_13 : decode cX0_leave 13 = .ok (.aload_n 0, 1) := by decide +kernel
theorem dX0_leave_14 : decode cX0_leave 14 = .ok (.getfield 23, 3) := by decide +kernel
theorem dX0_leave_17 : decode cX0_leave 17 = .ok (.iload_n 1, 1) := by decide +kernel
theorem dX0_leave_18 : decode cX0_leave 18 = .ok (.iastore, 1) := by decide +kernel
theorem dX0_leave_19 : decode cX0_leave 19 = .ok (.aload_n 0, 1) := by decide +kernel
theorem dX0_leave_20 : decode cX0_leave 20 = .ok (.dup, 1) := by decide +kernel
theorem dX0_leave_21 : decode cX0_leave 21 = .ok (.getfield 23, 3) := by decide +kernel
theorem dX0_leave_24 : decode cX0_leave 24 = .ok (.iconst 1, 1) := by decide +kernel
theorem dX0_leave_25 : decode cX0_leave 25 = .ok (.iadd, 1) := by decide +kernel
theorem dX0_leave_26 : decode cX0_leave 26 = .ok (.putfield 23, 3) := by decide +kernel
theorem dX0_leave_29 : decode cX0_leave 29 = .ok (.return_, 1) := by decide +kernel
theorem dX0_run_0 : decode cX0_run 0 = .ok (.iload_n 3, 1) := by decide +kernel
theorem dX0_run_1 : decode cX0_run 1 = .ok (.bipush 16, 2) := by decide +kernel
theorem dX0_run_3 : decode cX0_run 3 = .ok (.if_icmp .le 5, 3) := by decide +kernel
theorem dX0_run_6 : decode cX0_run 6 = .ok (.iconst 0, 1) := by decide +kernel
theorem dX0_run_7 : decode cX0_run 7 = .ok (.ireturn, 1) := by decide +kernel
theorem dX0_run_8 : decode cX0_run 8 = .ok (.aload_n 0, 1) := by decide +kernel
theorem dX0_run_9 : decode cX0_run 9 = .ok (.iload_n 1, 1) := by decide +kernel
theorem dX0_run_10 : decode cX0_run 10 = .ok (.invokevirtual 49, 3) := by decide +kernel
theorem dX0_run_13 : decode cX0_run 13 = .ok (.iload_n 3, 1) := by decide +kernel
theorem dX0_run_14 : decode cX0_run 14 = .ok (.iconst 1, 1) := by decide +kernel
theorem dX0_run_15 : decode cX0_run 15 = .ok (.iadd, 1) := by decide +kernel
theorem dX0_run_16 : decode cX0_run 16 = .ok (.istore 4, 2) := by decide +kernel
theorem dX0_run_18 : decode cX0_run 18 = .ok (.iload_n 1, 1) := by decide +kernel
theorem dX0_run_19 : decode cX0_run 19 = .ok (.tableswitch 212 10 24 #[73, 83, 106, 118, 131, 212, 212, 212, 212, 212, 143, 145, 163, 177, 200], 73) := by decide +kernel
theorem dX0_run_92 : decode cX0_run 92 = .ok (.aload_n 0, 1) := by decide +kernel
theorem dX0_run_93 : decode cX0_run 93 = .ok (.getfield 15, 3) := by decide +kernel
theorem dX0_run_96 : decode cX0_run 96 = .ok (.getfield 53, 3) := by decide +kernel
theorem dX0_run_99 : decode cX0_run 99 = .ok (.iload_n 2, 1) := by decide +kernel
theorem dX0_run_100 : decode cX0_run 100 = .ok (.iaload, 1) := by decide +kernel
theorem dX0_run_101 : decode cX0_run 101 = .ok (.ireturn, 1) := by decide +kernel
theorem dX0_run_102 : decode cX0_run 102 = .ok (.aload_n 0, 1) := by decide +kernel
theorem dX0_run_103 : decode cX0_run 103 = .ok (.bipush 10, 2) := by decide +kernel
theorem dX0_run_105 : decode cX0_run 105 = .ok (.iload_n 2, 1) := by decide +kernel
theorem dX0_run_106 : decode cX0_run 106 = .ok (.iload 4, 2) := by decide +kernel
theorem dX0_run_108 : decode cX0_run 108 = .ok (.invokestatic 34, 3) := by decide +kernel
theorem dX0_run_111 : decode cX0_run 111 = .ok (.aload_n 0, 1) := by decide +kernel
theorem dX0_run_112 : decode cX0_run 112 = .ok (.aload_n 0, 1) := by decide +kernel
theorem dX0_run_113 : decode cX0_run 113 = .ok (.iload_n 2, 1) := by decide +kernel
theorem dX0_run_114 : decode cX0_run 114 = .ok (.invokevirtual 31, 3) := by decide +kernel
theorem dX0_run_117 : decode cX0_run 117 = .ok (.iload_n 2, 1) := by decide +kernel
theorem dX0_run_118 : decode cX0_run 118 = .ok (.iload 4, 2) := by decide +kernel
theorem dX0_run_120 : decode cX0_run 120 = .ok (.invokestatic 34, 3) := by decide +kernel
theorem dX0_run_123 : decode cX0_run 123 = .ok (.iadd, 1) := by decide +kernel
theorem dX0_run_124 : decode cX0_run 124 = .ok (.ireturn, 1) := by decide +kernel
theorem dX0_run_125 : decode cX0_run 125 = .ok (.iconst 0, 1) := by decide +kernel
theorem dX0_run_126 : decode cX0_run 126 = .ok (.aload_n 0, 1) := by decide +kernel
theorem dX0_run_127 : decode cX0_run 127 = .ok (.bipush 11, 2) := by decide +kernel
theorem dX0_run_129 : decode cX0_run 129 = .ok (.iload_n 2, 1) := by decide +kernel
theorem dX0_run_130 : decode cX0_run 130 = .ok (.iload 4, 2) := by decide +kernel
theorem dX0_run_132 : decode cX0_run 132 = .ok (.invokestatic 34, 3) := by decide +kernel
theorem dX0_run_135 : decode cX0_run 135 = .ok (.isub, 1) := by decide +kernel
theorem dX0_run_136 : decode cX0_run 136 = .ok (.ireturn, 1) := by decide +kernel
theorem dX0_run_137 : decode cX0_run 137 = .ok (.aload_n 0, 1) := by decide +kernel
theorem dX0_run_138 : decode cX0_run 138 = .ok (.bipush 10, 2) := by decide +kernel
theorem dX0_run_140 : decode cX0_run 140 = .ok (.iload_n 2, 1) := by decide +kernel
theorem dX0_run_141 : decode cX0_run 141 = .ok (.iload 4, 2) := by decide +kernel
theorem dX0_run_143 : decode cX0_run 143 = .ok (.invokestatic 34, 3) := by decide +kernel
theorem dX0_run_146 : decode cX0_run 146 = .ok (.bipush 100, 2) := by decide +kernel
theorem dX0_run_148 : decode cX0_run 148 = .ok (.isub, 1) := by decide +kernel
theorem dX0_run_149 : decode cX0_run 149 = .ok (.ireturn, 1) := by decide +kernel
theorem dX0_run_150 : decode cX0_run 150 = .ok (.iconst 2, 1) := by decide +kernel
theorem dX0_run_151 : decode cX0_run 151 = .ok (.aload_n 0, 1) := by decide +kernel
theorem dX0_run_152 : decode cX0_run 152 = .ok (.bipush 13, 2) := by decide +kernel
theorem dX0_run_154 : decode cX0_run 154 = .ok (.iload_n 2, 1) := by decide +kernel
theorem dX0_run_155 : decode cX0_run 155 = .ok (.iload 4, 2) := by decide +kernel
theorem dX0_run_157 : decode cX0_run 157 = .ok (.invokestatic 34, 3) := by decide +kernel
theorem dX0_run_160 : decode cX0_run 160 = .ok (.imul, 1) := by decide +kernel
theorem dX0_run_161 : decode cX0_run 161 = .ok (.ireturn, 1) := by decide +kernel
theorem dX0_run_162 : decode cX0_run 162 = .ok (.iload_n 2, 1) := by decide +kernel
theorem dX0_run_163 : decode cX0_run 163 = .ok (.ireturn, 1) := by decide +kernel
theorem dX0_run_164 : decode cX0_run 164 = .ok (.aload_n 0, 1) := by decide +kernel
theorem dX0_run_165 : decode cX0_run 165 = .ok (.bipush 20, 2) := by decide +kernel
theorem dX0_run_167 : decode cX0_run 167 = .ok (.iload_n 2, 1) := by decide +kernel
theorem dX0_run_168 : decode cX0_run 168 = .ok (.iload 4, 2) := by decide +kernel
theorem dX0_run_170 : decode cX0_run 170 = .ok (.invokestatic 34, 3) := by decide +kernel
theorem dX0_run_173 : decode cX0_run 173 = .ok (.aload_n 0, 1) := by decide +kernel
theorem dX0_run_174 : decode cX0_run 174 = .ok (.getfield 19, 3) := by decide +kernel
theorem dX0_run_177 : decode cX0_run 177 = .ok (.getfield 56, 3) := by decide +kernel
theorem dX0_run_180 : decode cX0_run 180 = .ok (.iadd, 1) := by decide +kernel
theorem dX0_run_181 : decode cX0_run 181 = .ok (.ireturn, 1) := by decide +kernel
theorem dX0_run_182 : decode cX0_run 182 = .ok (.aload_n 0, 1) := by decide +kernel
theorem dX0_run_183 : decode cX0_run 183 = .ok (.bipush 21, 2) := by decide +kernel
theorem dX0_run_185 : decode cX0_run 185 = .ok (.iload_n 2, 1) := by decide +kernel
theorem dX0_run_186 : decode cX0_run 186 = .ok (.iload 4, 2) := by decide +kernel
theorem dX0_run_188 : decode cX0_run 188 = .ok (.invokestatic 34, 3) := by decide +kernel
theorem dX0_run_191 : decode cX0_run 191 = .ok (.sipush 1000, 3) := by decide +kernel
theorem dX0_run_194 : decode cX0_run 194 = .ok (.isub, 1) := by decide +kernel
theorem dX0_run_195 : decode cX0_run 195 = .ok (.ireturn, 1) := by decide +kernel
theorem dX0_run_196 : decode cX0_run 196 = .ok (.aload_n 0, 1) := by decide +kernel
theorem dX0_run_197 : decode cX0_run 197 = .ok (.bipush 20, 2) := by decide +kernel
theorem dX0_run_199 : decode cX0_run 199 = .ok (.iload_n 2, 1) := by decide +kernel
theorem dX0_run_200 : decode cX0_run 200 = .ok (.iload 4, 2) := by decide +kernel
theorem dX0_run_202 : decode cX0_run 202 = .ok (.invokestatic 34, 3) := by decide +kernel
theorem dX0_run_205 : decode cX0_run 205 = .ok (.aload_n 0, 1) := by decide +kernel
theorem dX0_run_206 : decode cX0_run 206 = .ok (.aload_n 0, 1) := by decide +kernel
theorem dX0_run_207 : decode cX0_run 207 = .ok (.iload_n 2, 1) := by decide +kernel
theorem dX0_run_208 : decode cX0_run 208 = .ok (.invokevirtual 27, 3) := by decide +kernel
theorem dX0_run_211 : decode cX0_run 211 = .ok (.iload_n 2, 1) := by decide +kernel
theorem dX0_run_212 : decode cX0_run 212 = .ok (.iload 4, 2) := by decide +kernel
theorem dX0_run_214 : decode cX0_run 214 = .ok (.invokestatic 34, 3) := by decide +kernel
theorem dX0_run_217 : decode cX0_run 217 = .ok (.isub, 1) := by decide +kernel
theorem dX0_run_218 : decode cX0_run 218 = .ok (.ireturn, 1) := by decide +kernel
theorem dX0_run_219 : decode cX0_run 219 = .ok (.iconst 2, 1) := by decide +kernel
theorem dX0_run_220 : decode cX0_run 220 = .ok (.aload_n 0, 1) := by decide +kernel
theorem dX0_run_221 : decode cX0_run 221 = .ok (.bipush 21, 2) := by decide +kernel
theorem dX0_run_223 : decode cX0_run 223 = .ok (.iload_n 2, 1) := by decide +kernel
theorem dX0_run_224 : decode cX0_run 224 = .ok (.iload 4, 2) := by decide +kernel
theorem dX0_run_226 : decode cX0_run 226 = .ok (.invokestatic 34, 3) := by decide +kernel
theorem dX0_run_229 : decode cX0_run 229 = .ok (.imul, 1) := by decide +kernel
theorem dX0_run_230 : decode cX0_run 230 = .ok (.ireturn, 1) := by decide +kernel
theorem dX0_run_231 : decode cX0_run 231 = .ok (.iconst 0, 1) := by decide +kernel
theorem dX0_run_232 : decode cX0_run 232 = .ok (.ireturn, 1) := by decide +kernel
theorem dX1_init_0 : decode cX1_init 0 = .ok (.aload_n 0, 1) := by decide +kernel
theorem dX1_init_1 : decode cX1_init 1 = .ok (.invokespecial 1, 3) := by decide +kernel
theorem dX1_init_4 : decode cX1_init 4 = .ok (.aload_n 0, 1) := by decide +kernel
theorem dX1_init_5 : decode cX1_init 5 = .ok (.new 7, 3) := by decide +kernel
theorem dX1_init_8 : decode cX1_init 8 = .ok (.dup, 1) := by decide +kernel
theorem dX1_init_9 : decode cX1_init 9 = .ok (.invokespecial 9, 3) := by decide +kernel
theorem dX1_init_12 : decode cX1_init 12 = .ok (.putfield 10, 3) := by decide +kernel
theorem dX1_init_15 : decode cX1_init 15 = .ok (.aload_n 0, 1) := by decide +kernel
theorem dX1_init_16 : decode cX1_init 16 = .ok (.new 16, 3) := by decide +kernel
theorem dX1_init_19 : decode cX1_init 19 = .ok (.dup, 1) := by decide +kernel
theorem dX1_init_20 : decode cX1_init 20 = .ok (.aload_n 0, 1) := by decide +kernel
theorem dX1_init_21 : decode cX1_init 21 = .ok (.getfield 10, 3) := by decide +kernel
theorem dX1_init_24 : decode cX1_init 24 = .ok (.invokespecial 18, 3) := by decide +kernel
theorem dX1_init_27 : decode cX1_init 27 = .ok (.putfield 21, 3) := by decide +kernel
theorem dX1_init_30 : decode cX1_init 30 = .ok (.return_, 1) := by decide +kernel
theorem dX2_init_0 : decode cX2_init 0 = .ok (.aload_n 0, 1) := by decide +kernel
theorem dX2_init_1 : decode cX2_init 1 = .ok (.invokespecial 3, 3) := by decide +kernel
theorem dX2_init_4 : decode cX2_init 4 = .ok (.aload_n 0, 1) := by decide +kernel
theorem dX2_init_5 : decode cX2_init 5 = .ok (.bipush 7, 2) := by decide +kernel
theorem dX2_init_7 : decode cX2_init 7 = .ok (.anewarray 9, 3) := by decide +kernel
theorem dX2_init_10 : decode cX2_init 10 = .ok (.putfield 11, 3) := by decide +kernel
theorem dX2_init_13 : decode cX2_init 13 = .ok (.aload_n 0, 1) := by decide +kernel
theorem dX2_init_14 : decode cX2_init 14 = .ok (.bipush 6, 2) := by decide +kernel
theorem dX2_init_16 : decode cX2_init 16 = .ok (.newarray .int, 2) := by decide +kernel
theorem dX2_init_18 : decode cX2_init 18 = .ok (.putfield 17, 3) := by decide +kernel
theorem dX2_init_21 : decode cX2_init 21 = .ok (.aload_n 0, 1) := by decide +kernel
theorem dX2_init_22 : decode cX2_init 22 = .ok (.bipush 6, 2) := by decide +kernel
theorem dX2_init_24 : decode cX2_init 24 = .ok (.newarray .int, 2) := by decide +kernel
theorem dX2_init_26 : decode cX2_init 26 = .ok (.putfield 21, 3) := by decide +kernel
theorem dX2_init_29 : decode cX2_init 29 = .ok (.aload_n 0, 1) := by decide +kernel
theorem dX2_init_30 : decode cX2_init 30 = .ok (.aload_n 1, 1) := by decide +kernel
theorem dX2_init_31 : decode cX2_init 31 = .ok (.putfield 24, 3) := by decide +kernel
theorem dX2_init_34 : decode cX2_init 34 = .ok (.iconst 0, 1) := by decide +kernel
theorem dX2_init_35 : decode cX2_init 35 = .ok (.istore_n 2, 1) := by decide +kernel
theorem dX2_init_36 : decode cX2_init 36 = .ok (.iload_n 2, 1) := by decide +kernel
theorem dX2_init_37 : decode cX2_init 37 = .ok (.bipush 6, 2) := by decide +kernel
theorem dX2_init_39 : decode cX2_init 39 = .ok (.if_icmp .gt 23, 3) := by decide +kernel
theorem dX2_init_42 : decode cX2_init 42 = .ok (.aload_n 0, 1) := by decide +kernel
theorem dX2_init_43 : decode cX2_init 43 = .ok (.getfield 11, 3) := by decide +kernel
theorem dX2_init_46 : decode cX2_init 46 = .ok (.iload_n 2, 1) := by decide +kernel
theorem dX2_init_47 : decode cX2_init 47 = .ok (.new 9, 3) := by decide +kernel
theorem dX2_init_50 : decode cX2_init 50 = .ok (.dup, 1) := by decide +kernel
theorem dX2_init_51 : decode cX2_init 51 = .ok (.aload_n 1, 1) := by decide +kernel
theorem dX2_init_52 : decode cX2_init 52 = .ok (.invokespecial 28, 3) := by decide +kernel
theorem dX2_init_55 : decode cX2_init 55 = .ok (.aastore, 1) := by decide +kernel
theorem dX2_init_56 : decode cX2_init 56 = .ok (.iinc 2 1, 3) := by decide +kernel
theorem dX2_init_59 : decode cX2_init 59 = .ok (.goto (-23), 3) := by decide +kernel
theorem dX2_init_62 : decode cX2_init 62 = .ok (.return_, 1) := by decide +kernel
theorem dX2_findFirst_0 : decode cX2_findFirst 0 = .ok (.aload_n 0, 1) := by decide +kernel
theorem dX2_findFirst_1 : decode cX2_findFirst 1 = .ok (.ldc 31, 2) := by decide +kernel
theorem dX2_findFirst_3 : decode cX2_findFirst 3 = .ok (.putfield 32, 3) := by decide +kernel
theorem dX2_findFirst_6 : decode cX2_findFirst 6 = .ok (.aload_n 0, 1) := by decide +kernel
theorem dX2_findFirst_7 : decode cX2_findFirst 7 = .ok (.iconst 0, 1) := by decide +kernel
theorem dX2_findFirst_8 : decode cX2_findFirst 8 = .ok (.putfield 36, 3) := by decide +kernel
theorem dX2_findFirst_11 : decode cX2_findFirst 11 = .ok (.aload_n 0, 1) := by decide +kernel
theorem dX2_findFirst_12 : decode cX2_findFirst 12 = .ok (.getfield 11, 3) := by decide +kernel
theorem dX2_findFirst_15 : decode cX2_findFirst 15 = .ok (.iconst 0, 1) := by decide +kernel
theorem dX2_findFirst_16 : decode cX2_findFirst 16 = .ok (.aaload, 1) := by decide +kernel
theorem dX2_findFirst_17 : decode cX2_findFirst 17 = .ok (.aload_n 1, 1) := by decide +kernel
theorem dX2_findFirst_18 : decode cX2_findFirst 18 = .ok (.invokevirtual 39, 3) := by decide +kernel
theorem dX2_findFirst_21 : decode cX2_findFirst 21 = .ok (.aload_n 0, 1) := by decide +kernel
theorem dX2_findFirst_22 : decode cX2_findFirst 22 = .ok (.getfield 11, 3) := by decide +kernel
theorem dX2_findFirst_25 : decode cX2_findFirst 25 = .ok (.iconst 0, 1) := by decide +kernel
theorem dX2_findFirst_26 : decode cX2_findFirst 26 = .ok (.aaload, 1) := by decide +kernel
theorem dX2_findFirst_27 : decode cX2_findFirst 27 = .ok (.iconst 0, 1) := by decide +kernel
theorem dX2_findFirst_28 : decode cX2_findFirst 28 = .ok (.putfield 43, 3) := by decide +kernel
theorem dX2_findFirst_31 : decode cX2_findFirst 31 = .ok (.aload_n 0, 1) := by decide +kernel
theorem dX2_findFirst_32 : decode cX2_findFirst 32 = .ok (.iconst 0, 1) := by decide +kernel
theorem dX2_findFirst_33 : decode cX2_findFirst 33 = .ok (.invokestatic 46, 3) := by decide +kernel
theorem dX2_findFirst_36 : decode cX2_findFirst 36 = .ok (.return_, 1) := by decide +kernel
theorem dX2_bestAt_0 : decode cX2_bestAt 0 = .ok (.iload_n 1, 1) := by decide +kernel
theorem dX2_bestAt_1 : decode cX2_bestAt 1 = .ok (.ifCond .lt 20, 3) := by decide +kernel
theorem dX2_bestAt_4 : decode cX2_bestAt 4 = .ok (.iload_n 1, 1) := by decide +kernel
theorem dX2_bestAt_5 : decode cX2_bestAt 5 = .ok (.aload_n 0, 1) := by decide +kernel
theorem dX2_bestAt_6 : decode cX2_bestAt 6 = .ok (.getfield 36, 3) := by decide +kernel
theorem dX2_bestAt_9 : decode cX2_bestAt 9 = .ok (.if_icmp .ge 12, 3) := by decide +kernel
theorem dX2_bestAt_12 : decode cX2_bestAt 12 = .ok (.aload_n 0, 1) := by decide +kernel
theorem dX2_bestAt_13 : decode cX2_bestAt 13 = .ok (.getfield 21, 3) := by decide +kernel
theorem dX2_bestAt_16 : decode cX2_bestAt 16 = .ok (.iload_n 1, 1) := by decide +kernel
theorem dX2_bestAt_17 : decode cX2_bestAt 17 = .ok (.iaload, 1) := by decide +kernel
theorem dX2_bestAt_18 : decode cX2_bestAt 18 = .ok (.goto 5, 3) := by decide +kernel
theorem dX2_bestAt_21 : decode cX2_bestAt 21 = .ok (.ldc 31, 2) := by decide +kernel
theorem dX2_bestAt_23 : decode cX2_bestAt 23 = .ok (.ireturn, 1) := by decide +kernel
theorem dX2_goOn_0 : decode cX2_goOn 0 = .ok (.iload_n 1, 1) := by decide +kernel
theorem dX2_goOn_1 : decode cX2_goOn 1 = .ok (.ifCond .lt 9, 3) := by decide +kernel
theorem dX2_goOn_4 : decode cX2_goOn 4 = .ok (.iload_n 1, 1) := by decide +kernel
theorem dX2_goOn_5 : decode cX2_goOn 5 = .ok (.bipush 6, 2) := by decide +kernel
theorem dX2_goOn_7 : decode cX2_goOn 7 = .ok (.if_icmp .le 4, 3) := by decide +kernel
theorem dX2_goOn_10 : decode cX2_goOn 10 = .ok (.return_, 1) := by decide +kernel
theorem dX2_goOn_11 : decode cX2_goOn 11 = .ok (.aload_n 0, 1) := by decide +kernel
theorem dX2_goOn_12 : decode cX2_goOn 12 = .ok (.getfield 11, 3) := by decide +kernel
theorem dX2_goOn_15 : decode cX2_goOn 15 = .ok (.iload_n 1, 1) := by decide +kernel
theorem dX2_goOn_16 : decode cX2_goOn 16 = .ok (.aaload, 1) := by decide +kernel
theorem dX2_goOn_17 : decode cX2_goOn 17 = .ok (.astore_n 2, 1) := by decide +kernel
theorem dX2_goOn_18 : decode cX2_goOn 18 = .ok (.aload_n 2, 1) := by decide +kernel
theorem dX2_goOn_19 : decode cX2_goOn 19 = .ok (.getfield 50, 3) := by decide +kernel
theorem dX2_goOn_22 : decode cX2_goOn 22 = .ok (.iconst 1, 1) := by decide +kernel
theorem dX2_goOn_23 : decode cX2_goOn 23 = .ok (.aload_n 0, 1) := by decide +kernel
theorem dX2_goOn_24 : decode cX2_goOn 24 = .ok (.getfield 24, 3) := by decide +kernel
theorem dX2_goOn_27 : decode cX2_goOn 27 = .ok (.getfield 53, 3) := by decide +kernel
theorem dX2_goOn_30 : decode cX2_goOn 30 = .ok (.ishl, 1) := by decide +kernel
theorem dX2_goOn_31 : decode cX2_goOn 31 = .ok (.iconst 1, 1) := by decide +kernel
theorem dX2_goOn_32 : decode cX2_goOn 32 = .ok (.isub, 1) := by decide +kernel
theorem dX2_goOn_33 : decode cX2_goOn 33 = .ok (.if_icmp .ne 13, 3) := by decide +kernel
theorem dX2_goOn_36 : decode cX2_goOn 36 = .ok (.aload_n 0, 1) := by decide +kernel
theorem dX2_goOn_37 : decode cX2_goOn 37 = .ok (.iload_n 1, 1) := by decide +kernel
theorem dX2_goOn_38 : decode cX2_goOn 38 = .ok (.aload_n 2, 1) := by decide +kernel
theorem dX2_goOn_39 : decode cX2_goOn 39 = .ok (.getfield 43, 3) := by decide +kernel
theorem dX2_goOn_42 : decode cX2_goOn 42 = .ok (.invokevirtual 58, 3) := by decide +kernel
theorem dX2_goOn_45 : decode cX2_goOn 45 = .ok (.return_, 1) := by decide +kernel
theorem dX2_goOn_46 : decode cX2_goOn 46 = .ok (.iload_n 1, 1) := by decide +kernel
theorem dX2_goOn_47 : decode cX2_goOn 47 = .ok (.bipush 6, 2) := by decide +kernel
theorem dX2_goOn_49 : decode cX2_goOn 49 = .ok (.if_icmp .ne 4, 3) := by decide +kernel
theorem dX2_goOn_52 : decode cX2_goOn 52 = .ok (.return_, 1) := by decide +kernel
theorem dX2_goOn_53 : decode cX2_goOn 53 = .ok (.iconst 0, 1) := by decide +kernel
theorem dX2_goOn_54 : decode cX2_goOn 54 = .ok (.istore_n 3, 1) := by decide +kernel
theorem dX2_goOn_55 : decode cX2_goOn 55 = .ok (.iload_n 3, 1) := by decide +kernel
theorem dX2_goOn_56 : decode cX2_goOn 56 = .ok (.aload_n 0, 1) := by decide +kernel
theorem dX2_goOn_57 : decode cX2_goOn 57 = .ok (.getfield 24, 3) := by decide +kernel
theorem dX2_goOn_60 : decode cX2_goOn 60 = .ok (.getfield 53, 3) := by decide +kernel
theorem dX2_goOn_63 : decode cX2_goOn 63 = .ok (.if_icmp .ge 89, 3) := by decide +kernel
theorem dX2_goOn_66 : decode cX2_goOn 66 = .ok (.aload_n 2, 1) := by decide +kernel
theorem dX2_goOn_67 : decode cX2_goOn 67 = .ok (.iload_n 3, 1) := by decide +kernel
theorem dX2_goOn_68 : decode cX2_goOn 68 = .ok (.invokevirtual 62, 3) := by decide +kernel
theorem dX2_goOn_71 : decode cX2_goOn 71 = .ok (.ifCond .eq 8, 3) := by decide +kernel
theorem dX2_goOn_74 : decode cX2_goOn 74 = .ok (.ldc 31, 2) := by decide +kernel
theorem dX2_goOn_76 : decode cX2_goOn 76 = .ok (.goto 17, 3) := by decide +kernel
theorem dX2_goOn_79 : decode cX2_goOn 79 = .ok (.aload_n 2, 1) := by decide +kernel
theorem dX2_goOn_80 : decode cX2_goOn 80 = .ok (.iload_n 3, 1) := by decide +kernel
theorem dX2_goOn_81 : decode cX2_goOn 81 = .ok (.aload_n 0, 1) := by decide +kernel
theorem dX2_goOn_82 : decode cX2_goOn 82 = .ok (.invokevirtual 66, 3) := by decide +kernel
theorem dX2_goOn_85 : decode cX2_goOn 85 = .ok (.aload_n 2, 1) := by decide +kernel
theorem dX2_goOn_86 : decode cX2_goOn 86 = .ok (.getfield 43, 3) := by decide +kernel
theorem dX2_goOn_89 : decode cX2_goOn 89 = .ok (.isub, 1) := by decide +kernel
theorem dX2_goOn_90 : decode cX2_goOn 90 = .ok (.invokevirtual 70, 3) := by decide +kernel
theorem dX2_goOn_93 : decode cX2_goOn 93 = .ok (.istore 4, 2) := by decide +kernel
theorem dX2_goOn_95 : decode cX2_goOn 95 = .ok (.iload 4, 2) := by decide +kernel
theorem dX2_goOn_97 : decode cX2_goOn 97 = .ok (.ldc 31, 2) := by decide +kernel
theorem dX2_goOn_99 : decode cX2_goOn 99 = .ok (.if_icmp .eq 47, 3) := by decide +kernel
theorem dX2_goOn_102 : decode cX2_goOn 102 = .ok (.aload_n 0, 1) := by decide +kernel
theorem dX2_goOn_103 : decode cX2_goOn 103 = .ok (.getfield 11, 3) := by decide +kernel
theorem dX2_goOn_106 : decode cX2_goOn 106 = .ok (.iload_n 1, 1) := by decide +kernel
theorem dX2_goOn_107 : decode cX2_goOn 107 = .ok (.iconst 1, 1) := by decide +kernel
theorem dX2_goOn_108 : decode cX2_goOn 108 = .ok (.iadd, 1) := by decide +kernel
theorem dX2_goOn_109 : decode cX2_goOn 109 = .ok (.aaload, 1) := by decide +kernel
theorem dX2_goOn_110 : decode cX2_goOn 110 = .ok (.astore 5, 2) := by decide +kernel
theorem dX2_goOn_112 : decode cX2_goOn 112 = .ok (.aload 5, 2) := by decide +kernel
theorem dX2_goOn_114 : decode cX2_goOn 114 = .ok (.aload_n 2, 1) := by decide +kernel
theorem dX2_goOn_115 : decode cX2_goOn 115 = .ok (.invokevirtual 39, 3) := by decide +kernel
theorem dX2_goOn_118 : decode cX2_goOn 118 = .ok (.aload 5, 2) := by decide +kernel
theorem dX2_goOn_120 : decode cX2_goOn 120 = .ok (.iload 4, 2) := by decide +kernel
theorem dX2_goOn_122 : decode cX2_goOn 122 = .ok (.invokevirtual 74, 3) := by decide +kernel
theorem dX2_goOn_125 : decode cX2_goOn 125 = .ok (.aload 5, 2) := by decide +kernel
theorem dX2_goOn_127 : decode cX2_goOn 127 = .ok (.iload_n 3, 1) := by decide +kernel
theorem dX2_goOn_128 : decode cX2_goOn 128 = .ok (.invokevirtual 78, 3) := by decide +kernel
theorem dX2_goOn_131 : decode cX2_goOn 131 = .ok (.pop, 1) := by decide +kernel
theorem dX2_goOn_132 : decode cX2_goOn 132 = .ok (.aload_n 0, 1) := by decide +kernel
theorem dX2_goOn_133 : decode cX2_goOn 133 = .ok (.getfield 17, 3) := by decide +kernel
theorem dX2_goOn_136 : decode cX2_goOn 136 = .ok (.iload_n 1, 1) := by decide +kernel
theorem dX2_goOn_137 : decode cX2_goOn 137 = .ok (.iload_n 3, 1) := by decide +kernel
theorem dX2_goOn_138 : decode cX2_goOn 138 = .ok (.iastore, 1) := by decide +kernel
theorem dX2_goOn_139 : decode cX2_goOn 139 = .ok (.aload_n 0, 1) := by decide +kernel
theorem dX2_goOn_140 : decode cX2_goOn 140 = .ok (.iload_n 1, 1) := by decide +kernel
theorem dX2_goOn_141 : decode cX2_goOn 141 = .ok (.iconst 1, 1) := by decide +kernel
theorem dX2_goOn_142 : decode cX2_goOn 142 = .ok (.iadd, 1) := by decide +kernel
theorem dX2_goOn_143 : decode cX2_goOn 143 = .ok (.invokestatic 46, 3) := by decide +kernel
theorem dX2_goOn_146 : decode cX2_goOn 146 = .ok (.iinc 3 1, 3) := by decide +kernel
theorem dX2_goOn_149 : decode cX2_goOn 149 = .ok (.goto (-94), 3) := by decide +kernel
theorem dX2_goOn_152 : decode cX2_goOn 152 = .ok (.return_, 1) := by decide +kernel
theorem dX2_mostWeeks_0 : decode cX2_mostWeeks 0 = .ok (.aload_n 0, 1) := by decide +kernel
theorem dX2_mostWeeks_1 : decode cX2_mostWeeks 1 = .ok (.getfield 32, 3) := by decide +kernel
theorem dX2_mostWeeks_4 : decode cX2_mostWeeks 4 = .ok (.ldc 31, 2) := by decide +kernel
theorem dX2_mostWeeks_6 : decode cX2_mostWeeks 6 = .ok (.if_icmp .ne 8, 3) := by decide +kernel
theorem dX2_mostWeeks_9 : decode cX2_mostWeeks 9 = .ok (.bipush 60, 2) := by decide +kernel
theorem dX2_mostWeeks_11 : decode cX2_mostWeeks 11 = .ok (.goto 9, 3) := by decide +kernel
theorem dX2_mostWeeks_14 : decode cX2_mostWeeks 14 = .ok (.aload_n 0, 1) := by decide +kernel
theorem dX2_mostWeeks_15 : decode cX2_mostWeeks 15 = .ok (.getfield 32, 3) := by decide +kernel
theorem dX2_mostWeeks_18 : decode cX2_mostWeeks 18 = .ok (.iconst 1, 1) := by decide +kernel
theorem dX2_mostWeeks_19 : decode cX2_mostWeeks 19 = .ok (.isub, 1) := by decide +kernel
theorem dX2_mostWeeks_20 : decode cX2_mostWeeks 20 = .ok (.ireturn, 1) := by decide +kernel
theorem dX2_keepTried_0 : decode cX2_keepTried 0 = .ok (.iload_n 2, 1) := by decide +kernel
theorem dX2_keepTried_1 : decode cX2_keepTried 1 = .ok (.aload_n 0, 1) := by decide +kernel
theorem dX2_keepTried_2 : decode cX2_keepTried 2 = .ok (.invokevirtual 66, 3) := by decide +kernel
theorem dX2_keepTried_5 : decode cX2_keepTried 5 = .ok (.if_icmp .le 4, 3) := by decide +kernel
theorem dX2_keepTried_8 : decode cX2_keepTried 8 = .ok (.return_, 1) := by decide +kernel
theorem dX2_keepTried_9 : decode cX2_keepTried 9 = .ok (.aload_n 0, 1) := by decide +kernel
theorem dX2_keepTried_10 : decode cX2_keepTried 10 = .ok (.iload_n 2, 1) := by decide +kernel
theorem dX2_keepTried_11 : decode cX2_keepTried 11 = .ok (.putfield 32, 3) := by decide +kernel
theorem dX2_keepTried_14 : decode cX2_keepTried 14 = .ok (.aload_n 0, 1) := by decide +kernel
theorem dX2_keepTried_15 : decode cX2_keepTried 15 = .ok (.iload_n 1, 1) := by decide +kernel
theorem dX2_keepTried_16 : decode cX2_keepTried 16 = .ok (.putfield 36, 3) := by decide +kernel
theorem dX2_keepTried_19 : decode cX2_keepTried 19 = .ok (.aload_n 0, 1) := by decide +kernel
theorem dX2_keepTried_20 : decode cX2_keepTried 20 = .ok (.getfield 17, 3) := by decide +kernel
theorem dX2_keepTried_23 : decode cX2_keepTried 23 = .ok (.iconst 0, 1) := by decide +kernel
theorem dX2_keepTried_24 : decode cX2_keepTried 24 = .ok (.aload_n 0, 1) := by decide +kernel
theorem dX2_keepTried_25 : decode cX2_keepTried 25 = .ok (.getfield 21, 3) := by decide +kernel
theorem dX2_keepTried_28 : decode cX2_keepTried 28 = .ok (.iconst 0, 1) := by decide +kernel
theorem dX2_keepTried_29 : decode cX2_keepTried 29 = .ok (.iload_n 1, 1) := by decide +kernel
theorem dX2_keepTried_30 : decode cX2_keepTried 30 = .ok (.invokestatic 82, 3) := by decide +kernel
theorem dX2_keepTried_33 : decode cX2_keepTried 33 = .ok (.return_, 1) := by decide +kernel
theorem dX3_init_0 : decode cX3_init 0 = .ok (.aload_n 0, 1) := by decide +kernel
theorem dX3_init_1 : decode cX3_init 1 = .ok (.invokespecial 3, 3) := by decide +kernel
theorem dX3_init_4 : decode cX3_init 4 = .ok (.aload_n 0, 1) := by decide +kernel
theorem dX3_init_5 : decode cX3_init 5 = .ok (.bipush 24, 2) := by decide +kernel
theorem dX3_init_7 : decode cX3_init 7 = .ok (.anewarray 9, 3) := by decide +kernel
theorem dX3_init_10 : decode cX3_init 10 = .ok (.putfield 11, 3) := by decide +kernel
theorem dX3_init_13 : decode cX3_init 13 = .ok (.iconst 0, 1) := by decide +kernel
theorem dX3_init_14 : decode cX3_init 14 = .ok (.istore_n 2, 1) := by decide +kernel
theorem dX3_init_15 : decode cX3_init 15 = .ok (.iload_n 2, 1) := by decide +kernel
theorem dX3_init_16 : decode cX3_init 16 = .ok (.bipush 24, 2) := by decide +kernel
theorem dX3_init_18 : decode cX3_init 18 = .ok (.if_icmp .ge 23, 3) := by decide +kernel
theorem dX3_init_21 : decode cX3_init 21 = .ok (.aload_n 0, 1) := by decide +kernel
theorem dX3_init_22 : decode cX3_init 22 = .ok (.getfield 11, 3) := by decide +kernel
theorem dX3_init_25 : decode cX3_init 25 = .ok (.iload_n 2, 1) := by decide +kernel
theorem dX3_init_26 : decode cX3_init 26 = .ok (.new 9, 3) := by decide +kernel
theorem dX3_init_29 : decode cX3_init 29 = .ok (.dup, 1) := by decide +kernel
theorem dX3_init_30 : decode cX3_init 30 = .ok (.aload_n 1, 1) := by decide +kernel
theorem dX3_init_31 : decode cX3_init 31 = .ok (.invokespecial 17, 3) := by decide +kernel
theorem dX3_init_34 : decode cX3_init 34 = .ok (.aastore, 1) := by decide +kernel
theorem dX3_init_35 : decode cX3_init 35 = .ok (.iinc 2 1, 3) := by decide +kernel
theorem dX3_init_38 : decode cX3_init 38 = .ok (.goto (-23), 3) := by decide +kernel
theorem dX3_init_41 : decode cX3_init 41 = .ok (.return_, 1) := by decide +kernel
theorem dX3_keep_0 : decode cX3_keep 0 = .ok (.aload_n 0, 1) := by decide +kernel
theorem dX3_keep_1 : decode cX3_keep 1 = .ok (.getfield 11, 3) := by decide +kernel
theorem dX3_keep_4 : decode cX3_keep 4 = .ok (.aload_n 0, 1) := by decide +kernel
theorem dX3_keep_5 : decode cX3_keep 5 = .ok (.getfield 20, 3) := by decide +kernel
theorem dX3_keep_8 : decode cX3_keep 8 = .ok (.aaload, 1) := by decide +kernel
theorem dX3_keep_9 : decode cX3_keep 9 = .ok (.aload_n 1, 1) := by decide +kernel
theorem dX3_keep_10 : decode cX3_keep 10 = .ok (.invokevirtual 24, 3) := by decide +kernel
theorem dX3_keep_13 : decode cX3_keep 13 = .ok (.aload_n 0, 1) := by decide +kernel
theorem dX3_keep_14 : decode cX3_keep 14 = .ok (.aload_n 0, 1) := by decide +kernel
theorem dX3_keep_15 : decode cX3_keep 15 = .ok (.getfield 20, 3) := by decide +kernel
theorem dX3_keep_18 : decode cX3_keep 18 = .ok (.iconst 1, 1) := by decide +kernel
theorem dX3_keep_19 : decode cX3_keep 19 = .ok (.iadd, 1) := by decide +kernel
theorem dX3_keep_20 : decode cX3_keep 20 = .ok (.bipush 24, 2) := by decide +kernel
theorem dX3_keep_22 : decode cX3_keep 22 = .ok (.if_icmp .ge 12, 3) := by decide +kernel
theorem dX3_keep_25 : decode cX3_keep 25 = .ok (.aload_n 0, 1) := by decide +kernel
theorem dX3_keep_26 : decode cX3_keep 26 = .ok (.getfield 20, 3) := by decide +kernel
theorem dX3_keep_29 : decode cX3_keep 29 = .ok (.iconst 1, 1) := by decide +kernel
theorem dX3_keep_30 : decode cX3_keep 30 = .ok (.iadd, 1) := by decide +kernel
theorem dX3_keep_31 : decode cX3_keep 31 = .ok (.goto 4, 3) := by decide +kernel
theorem dX3_keep_34 : decode cX3_keep 34 = .ok (.iconst 0, 1) := by decide +kernel
theorem dX3_keep_35 : decode cX3_keep 35 = .ok (.putfield 20, 3) := by decide +kernel
theorem dX3_keep_38 : decode cX3_keep 38 = .ok (.aload_n 0, 1) := by decide +kernel
theorem dX3_keep_39 : decode cX3_keep 39 = .ok (.bipush 24, 2) := by decide +kernel
theorem dX3_keep_41 : decode cX3_keep 41 = .ok (.aload_n 0, 1) := by decide +kernel
theorem dX3_keep_42 : decode cX3_keep 42 = .ok (.getfield 28, 3) := by decide +kernel
theorem dX3_keep_45 : decode cX3_keep 45 = .ok (.iconst 1, 1) := by decide +kernel
theorem dX3_keep_46 : decode cX3_keep 46 = .ok (.iadd, 1) := by decide +kernel
theorem dX3_keep_47 : decode cX3_keep 47 = .ok (.invokestatic 31, 3) := by decide +kernel
theorem dX3_keep_50 : decode cX3_keep 50 = .ok (.putfield 28, 3) := by decide +kernel
theorem dX3_keep_53 : decode cX3_keep 53 = .ok (.return_, 1) := by decide +kernel
theorem dX3_giveBack_0 : decode cX3_giveBack 0 = .ok (.aload_n 0, 1) := by decide +kernel
theorem dX3_giveBack_1 : decode cX3_giveBack 1 = .ok (.getfield 28, 3) := by decide +kernel
theorem dX3_giveBack_4 : decode cX3_giveBack 4 = .ok (.ifCond .ne 5, 3) := by decide +kernel
theorem dX3_giveBack_7 : decode cX3_giveBack 7 = .ok (.iconst 0, 1) := by decide +kernel
theorem dX3_giveBack_8 : decode cX3_giveBack 8 = .ok (.ireturn, 1) := by decide +kernel
theorem dX3_giveBack_9 : decode cX3_giveBack 9 = .ok (.aload_n 0, 1) := by decide +kernel
theorem dX3_giveBack_10 : decode cX3_giveBack 10 = .ok (.aload_n 0, 1) := by decide +kernel
theorem dX3_giveBack_11 : decode cX3_giveBack 11 = .ok (.getfield 20, 3) := by decide +kernel
theorem dX3_giveBack_14 : decode cX3_giveBack 14 = .ok (.ifCond .le 12, 3) := by decide +kernel
theorem dX3_giveBack_17 : decode cX3_giveBack 17 = .ok (.aload_n 0, 1) := by decide +kernel
theorem dX3_giveBack_18 : decode cX3_giveBack 18 = .ok (.getfield 20, 3) := by decide +kernel
theorem dX3_giveBack_21 : decode cX3_giveBack 21 = .ok (.iconst 1, 1) := by decide +kernel
theorem dX3_giveBack_22 : decode cX3_giveBack 22 = .ok (.isub, 1) := by decide +kernel
theorem dX3_giveBack_23 : decode cX3_giveBack 23 = .ok (.goto 5, 3) := by decide +kernel
theorem dX3_giveBack_26 : decode cX3_giveBack 26 = .ok (.bipush 23, 2) := by decide +kernel
theorem dX3_giveBack_28 : decode cX3_giveBack 28 = .ok (.putfield 20, 3) := by decide +kernel
theorem dX3_giveBack_31 : decode cX3_giveBack 31 = .ok (.aload_n 0, 1) := by decide +kernel
theorem dX3_giveBack_32 : decode cX3_giveBack 32 = .ok (.dup, 1) := by decide +kernel
theorem dX3_giveBack_33 : decode cX3_giveBack 33 = .ok (.getfield 28, 3) := by decide +kernel
theorem dX3_giveBack_36 : decode cX3_giveBack 36 = .ok (.iconst 1, 1) := by decide +kernel
theorem dX3_giveBack_37 : decode cX3_giveBack 37 = .ok (.isub, 1) := by decide +kernel
theorem dX3_giveBack_38 : decode cX3_giveBack 38 = .ok (.putfield 28, 3) := by decide +kernel
theorem dX3_giveBack_41 : decode cX3_giveBack 41 = .ok (.aload_n 1, 1) := by decide +kernel
theorem dX3_giveBack_42 : decode cX3_giveBack 42 = .ok (.aload_n 0, 1) := by decide +kernel
theorem dX3_giveBack_43 : decode cX3_giveBack 43 = .ok (.getfield 11, 3) := by decide +kernel
theorem dX3_giveBack_46 : decode cX3_giveBack 46 = .ok (.aload_n 0, 1) := by decide +kernel
theorem dX3_giveBack_47 : decode cX3_giveBack 47 = .ok (.getfield 20, 3) := by decide +kernel
theorem dX3_giveBack_50 : decode cX3_giveBack 50 = .ok (.aaload, 1) := by decide +kernel
theorem dX3_giveBack_51 : decode cX3_giveBack 51 = .ok (.invokevirtual 24, 3) := by decide +kernel
theorem dX3_giveBack_54 : decode cX3_giveBack 54 = .ok (.iconst 1, 1) := by decide +kernel
theorem dX3_giveBack_55 : decode cX3_giveBack 55 = .ok (.ireturn, 1) := by decide +kernel
theorem dX3_forget_0 : decode cX3_forget 0 = .ok (.aload_n 0, 1) := by decide +kernel
theorem dX3_forget_1 : decode cX3_forget 1 = .ok (.iconst 0, 1) := by decide +kernel
theorem dX3_forget_2 : decode cX3_forget 2 = .ok (.putfield 28, 3) := by decide +kernel
theorem dX3_forget_5 : decode cX3_forget 5 = .ok (.return_, 1) := by decide +kernel
theorem dX4_init_0 : decode cX4_init 0 = .ok (.aload_n 0, 1) := by decide +kernel
theorem dX4_init_1 : decode cX4_init 1 = .ok (.invokespecial 3, 3) := by decide +kernel
theorem dX4_init_4 : decode cX4_init 4 = .ok (.aload_n 0, 1) := by decide +kernel
theorem dX4_init_5 : decode cX4_init 5 = .ok (.bipush 120, 2) := by decide +kernel
theorem dX4_init_7 : decode cX4_init 7 = .ok (.newarray .int, 2) := by decide +kernel
theorem dX4_init_9 : decode cX4_init 9 = .ok (.putfield 9, 3) := by decide +kernel
theorem dX4_init_12 : decode cX4_init 12 = .ok (.aload_n 0, 1) := by decide +kernel
theorem dX4_init_13 : decode cX4_init 13 = .ok (.new 15, 3) := by decide +kernel
theorem dX4_init_16 : decode cX4_init 16 = .ok (.dup, 1) := by decide +kernel
theorem dX4_init_17 : decode cX4_init 17 = .ok (.invokespecial 17, 3) := by decide +kernel
theorem dX4_init_20 : decode cX4_init 20 = .ok (.putfield 18, 3) := by decide +kernel
theorem dX4_init_23 : decode cX4_init 23 = .ok (.aload_n 0, 1) := by decide +kernel
theorem dX4_init_24 : decode cX4_init 24 = .ok (.new 22, 3) := by decide +kernel
theorem dX4_init_27 : decode cX4_init 27 = .ok (.dup, 1) := by decide +kernel
theorem dX4_init_28 : decode cX4_init 28 = .ok (.aload_n 0, 1) := by decide +kernel
theorem dX4_init_29 : decode cX4_init 29 = .ok (.getfield 18, 3) := by decide +kernel
theorem dX4_init_32 : decode cX4_init 32 = .ok (.invokespecial 24, 3) := by decide +kernel
theorem dX4_init_35 : decode cX4_init 35 = .ok (.putfield 27, 3) := by decide +kernel
theorem dX4_init_38 : decode cX4_init 38 = .ok (.return_, 1) := by decide +kernel
theorem dX4_append_0 : decode cX4_append 0 = .ok (.aload_n 0, 1) := by decide +kernel
theorem dX4_append_1 : decode cX4_append 1 = .ok (.getfield 31, 3) := by decide +kernel
theorem dX4_append_4 : decode cX4_append 4 = .ok (.bipush 120, 2) := by decide +kernel
theorem dX4_append_6 : decode cX4_append 6 = .ok (.if_icmp .lt 5, 3) := by decide +kernel
theorem dX4_append_9 : decode cX4_append 9 = .ok (.iconst 0, 1) := by decide +kernel
theorem dX4_append_10 : decode cX4_append 10 = .ok (.ireturn, 1) := by decide +kernel
theorem dX4_append_11 : decode cX4_append 11 = .ok (.aload_n 0, 1) := by decide +kernel
theorem dX4_append_12 : decode cX4_append 12 = .ok (.getfield 9, 3) := by decide +kernel
theorem dX4_append_15 : decode cX4_append 15 = .ok (.aload_n 0, 1) := by decide +kernel
theorem dX4_append_16 : decode cX4_append 16 = .ok (.getfield 31, 3) := by decide +kernel
theorem dX4_append_19 : decode cX4_append 19 = .ok (.iload_n 1, 1) := by decide +kernel
theorem dX4_append_20 : decode cX4_append 20 = .ok (.iastore, 1) := by decide +kernel
theorem dX4_append_21 : decode cX4_append 21 = .ok (.aload_n 0, 1) := by decide +kernel
theorem dX4_append_22 : decode cX4_append 22 = .ok (.dup, 1) := by decide +kernel
theorem dX4_append_23 : decode cX4_append 23 = .ok (.getfield 31, 3) := by decide +kernel
theorem dX4_append_26 : decode cX4_append 26 = .ok (.iconst 1, 1) := by decide +kernel
theorem dX4_append_27 : decode cX4_append 27 = .ok (.iadd, 1) := by decide +kernel
theorem dX4_append_28 : decode cX4_append 28 = .ok (.putfield 31, 3) := by decide +kernel
theorem dX4_append_31 : decode cX4_append 31 = .ok (.iconst 1, 1) := by decide +kernel
theorem dX4_append_32 : decode cX4_append 32 = .ok (.ireturn, 1) := by decide +kernel
theorem dX4_readTape_0 : decode cX4_readTape 0 = .ok (.aload_n 0, 1) := by decide +kernel
theorem dX4_readTape_1 : decode cX4_readTape 1 = .ok (.aload_n 0, 1) := by decide +kernel
theorem dX4_readTape_2 : decode cX4_readTape 2 = .ok (.getfield 31, 3) := by decide +kernel
theorem dX4_readTape_5 : decode cX4_readTape 5 = .ok (.putfield 35, 3) := by decide +kernel
theorem dX4_readTape_8 : decode cX4_readTape 8 = .ok (.aload_n 0, 1) := by decide +kernel
theorem dX4_readTape_9 : decode cX4_readTape 9 = .ok (.iconst 0, 1) := by decide +kernel
theorem dX4_readTape_10 : decode cX4_readTape 10 = .ok (.putfield 31, 3) := by decide +kernel
theorem dX4_readTape_13 : decode cX4_readTape 13 = .ok (.aload_n 0, 1) := by decide +kernel
theorem dX4_readTape_14 : decode cX4_readTape 14 = .ok (.iconst 0, 1) := by decide +kernel
theorem dX4_readTape_15 : decode cX4_readTape 15 = .ok (.putfield 38, 3) := by decide +kernel
theorem dX4_readTape_18 : decode cX4_readTape 18 = .ok (.aload_n 0, 1) := by decide +kernel
theorem dX4_readTape_19 : decode cX4_readTape 19 = .ok (.getfield 18, 3) := by decide +kernel
theorem dX4_readTape_22 : decode cX4_readTape 22 = .ok (.iconst 0, 1) := by decide +kernel
theorem dX4_readTape_23 : decode cX4_readTape 23 = .ok (.putfield 41, 3) := by decide +kernel
theorem dX4_readTape_26 : decode cX4_readTape 26 = .ok (.aload_n 0, 1) := by decide +kernel
theorem dX4_readTape_27 : decode cX4_readTape 27 = .ok (.getfield 18, 3) := by decide +kernel
theorem dX4_readTape_30 : decode cX4_readTape 30 = .ok (.iconst 0, 1) := by decide +kernel
theorem dX4_readTape_31 : decode cX4_readTape 31 = .ok (.putfield 44, 3) := by decide +kernel
theorem dX4_readTape_34 : decode cX4_readTape 34 = .ok (.aload_n 0, 1) := by decide +kernel
theorem dX4_readTape_35 : decode cX4_readTape 35 = .ok (.invokevirtual 47, 3) := by decide +kernel
theorem dX4_readTape_38 : decode cX4_readTape 38 = .ok (.aload_n 0, 1) := by decide +kernel
theorem dX4_readTape_39 : decode cX4_readTape 39 = .ok (.invokevirtual 50, 3) := by decide +kernel
theorem dX4_readTape_42 : decode cX4_readTape 42 = .ok (.ifCond .eq 21, 3) := by decide +kernel
theorem dX4_readTape_45 : decode cX4_readTape 45 = .ok (.aload_n 0, 1) := by decide +kernel
theorem dX4_readTape_46 : decode cX4_readTape 46 = .ok (.invokevirtual 54, 3) := by decide +kernel
theorem dX4_readTape_49 : decode cX4_readTape 49 = .ok (.ifCond .eq 14, 3) := by decide +kernel
theorem dX4_readTape_52 : decode cX4_readTape 52 = .ok (.aload_n 0, 1) := by decide +kernel
theorem dX4_readTape_53 : decode cX4_readTape 53 = .ok (.invokevirtual 57, 3) := by decide +kernel
theorem dX4_readTape_56 : decode cX4_readTape 56 = .ok (.ifCond .eq 7, 3) := by decide +kernel
theorem dX4_readTape_59 : decode cX4_readTape 59 = .ok (.iconst 1, 1) := by decide +kernel
theorem dX4_readTape_60 : decode cX4_readTape 60 = .ok (.goto 4, 3) := by decide +kernel
theorem dX4_readTape_63 : decode cX4_readTape 63 = .ok (.iconst 0, 1) := by decide +kernel
theorem dX4_readTape_64 : decode cX4_readTape 64 = .ok (.ireturn, 1) := by decide +kernel
theorem dX4_readLaw_0 : decode cX4_readLaw 0 = .ok (.aload_n 0, 1) := by decide +kernel
theorem dX4_readLaw_1 : decode cX4_readLaw 1 = .ok (.bipush 99, 2) := by decide +kernel
theorem dX4_readLaw_3 : decode cX4_readLaw 3 = .ok (.invokevirtual 60, 3) := by decide +kernel
theorem dX4_readLaw_6 : decode cX4_readLaw 6 = .ok (.ifCond .eq 13, 3) := by decide +kernel
theorem dX4_readLaw_9 : decode cX4_readLaw 9 = .ok (.aload_n 0, 1) := by decide +kernel
theorem dX4_readLaw_10 : decode cX4_readLaw 10 = .ok (.iconst 1, 1) := by decide +kernel
theorem dX4_readLaw_11 : decode cX4_readLaw 11 = .ok (.bipush 60, 2) := by decide +kernel
theorem dX4_readLaw_13 : decode cX4_readLaw 13 = .ok (.invokevirtual 64, 3) := by decide +kernel
theorem dX4_readLaw_16 : decode cX4_readLaw 16 = .ok (.ifCond .ne 5, 3) := by decide +kernel
theorem dX4_readLaw_19 : decode cX4_readLaw 19 = .ok (.iconst 0, 1) := by decide +kernel
theorem dX4_readLaw_20 : decode cX4_readLaw 20 = .ok (.ireturn, 1) := by decide +kernel
theorem dX4_readLaw_21 : decode cX4_readLaw 21 = .ok (.aload_n 0, 1) := by decide +kernel
theorem dX4_readLaw_22 : decode cX4_readLaw 22 = .ok (.getfield 18, 3) := by decide +kernel
theorem dX4_readLaw_25 : decode cX4_readLaw 25 = .ok (.aload_n 0, 1) := by decide +kernel
theorem dX4_readLaw_26 : decode cX4_readLaw 26 = .ok (.getfield 68, 3) := by decide +kernel
theorem dX4_readLaw_29 : decode cX4_readLaw 29 = .ok (.putfield 71, 3) := by decide +kernel
theorem dX4_readLaw_32 : decode cX4_readLaw 32 = .ok (.aload_n 0, 1) := by decide +kernel
theorem dX4_readLaw_33 : decode cX4_readLaw 33 = .ok (.getfield 27, 3) := by decide +kernel
theorem dX4_readLaw_36 : decode cX4_readLaw 36 = .ok (.aload_n 0, 1) := by decide +kernel
theorem dX4_readLaw_37 : decode cX4_readLaw 37 = .ok (.getfield 68, 3) := by decide +kernel
theorem dX4_readLaw_40 : decode cX4_readLaw 40 = .ok (.putfield 74, 3) := by decide +kernel
theorem dX4_readLaw_43 : decode cX4_readLaw 43 = .ok (.aload_n 0, 1) := by decide +kernel
theorem dX4_readLaw_44 : decode cX4_readLaw 44 = .ok (.bipush 44, 2) := by decide +kernel
theorem dX4_readLaw_46 : decode cX4_readLaw 46 = .ok (.invokevirtual 60, 3) := by decide +kernel
theorem dX4_readLaw_49 : decode cX4_readLaw 49 = .ok (.ifCond .eq 13, 3) := by decide +kernel
theorem dX4_readLaw_52 : decode cX4_readLaw 52 = .ok (.aload_n 0, 1) := by decide +kernel
theorem dX4_readLaw_53 : decode cX4_readLaw 53 = .ok (.iconst 1, 1) := by decide +kernel
theorem dX4_readLaw_54 : decode cX4_readLaw 54 = .ok (.bipush 9, 2) := by decide +kernel
theorem dX4_readLaw_56 : decode cX4_readLaw 56 = .ok (.invokevirtual 64, 3) := by decide +kernel
theorem dX4_readLaw_59 : decode cX4_readLaw 59 = .ok (.ifCond .ne 5, 3) := by decide +kernel
theorem dX4_readLaw_62 : decode cX4_readLaw 62 = .ok (.iconst 0, 1) := by decide +kernel
theorem dX4_readLaw_63 : decode cX4_readLaw 63 = .ok (.ireturn, 1) := by decide +kernel
theorem dX4_readLaw_64 : decode cX4_readLaw 64 = .ok (.aload_n 0, 1) := by decide +kernel
theorem dX4_readLaw_65 : decode cX4_readLaw 65 = .ok (.getfield 27, 3) := by decide +kernel
theorem dX4_readLaw_68 : decode cX4_readLaw 68 = .ok (.aload_n 0, 1) := by decide +kernel
theorem dX4_readLaw_69 : decode cX4_readLaw 69 = .ok (.getfield 68, 3) := by decide +kernel
theorem dX4_readLaw_72 : decode cX4_readLaw 72 = .ok (.putfield 77, 3) := by decide +kernel
theorem dX4_readLaw_75 : decode cX4_readLaw 75 = .ok (.aload_n 0, 1) := by decide +kernel
theorem dX4_readLaw_76 : decode cX4_readLaw 76 = .ok (.bipush 59, 2) := by decide +kernel
theorem dX4_readLaw_78 : decode cX4_readLaw 78 = .ok (.invokevirtual 60, 3) := by decide +kernel
theorem dX4_readLaw_81 : decode cX4_readLaw 81 = .ok (.ireturn, 1) := by decide +kernel
theorem dX4_readPeople_0 : decode cX4_readPeople 0 = .ok (.iconst 0, 1) := by decide +kernel
theorem dX4_readPeople_1 : decode cX4_readPeople 1 = .ok (.istore_n 1, 1) := by decide +kernel
theorem dX4_readPeople_2 : decode cX4_readPeople 2 = .ok (.iload_n 1, 1) := by decide +kernel
theorem dX4_readPeople_3 : decode cX4_readPeople 3 = .ok (.iconst 5, 1) := by decide +kernel
theorem dX4_readPeople_4 : decode cX4_readPeople 4 = .ok (.if_icmp .gt 31, 3) := by decide +kernel
theorem dX4_readPeople_7 : decode cX4_readPeople 7 = .ok (.iload_n 1, 1) := by decide +kernel
theorem dX4_readPeople_8 : decode cX4_readPeople 8 = .ok (.ifCond .eq 12, 3) := by decide +kernel
theorem dX4_readPeople_11 : decode cX4_readPeople 11 = .ok (.aload_n 0, 1) := by decide +kernel
theorem dX4_readPeople_12 : decode cX4_readPeople 12 = .ok (.getfield 80, 3) := by decide +kernel
theorem dX4_readPeople_15 : decode cX4_readPeople 15 = .ok (.bipush 122, 2) := by decide +kernel
theorem dX4_readPeople_17 : decode cX4_readPeople 17 = .ok (.if_icmp .ne 18, 3) := by decide +kernel
theorem dX4_readPeople_20 : decode cX4_readPeople 20 = .ok (.aload_n 0, 1) := by decide +kernel
theorem dX4_readPeople_21 : decode cX4_readPeople 21 = .ok (.invokevirtual 83, 3) := by decide +kernel
theorem dX4_readPeople_24 : decode cX4_readPeople 24 = .ok (.ifCond .ne 5, 3) := by decide +kernel
theorem dX4_readPeople_27 : decode cX4_readPeople 27 = .ok (.iconst 0, 1) := by decide +kernel
theorem dX4_readPeople_28 : decode cX4_readPeople 28 = .ok (.ireturn, 1) := by decide +kernel
theorem dX4_readPeople_29 : decode cX4_readPeople 29 = .ok (.iinc 1 1, 3) := by decide +kernel
theorem dX4_readPeople_32 : decode cX4_readPeople 32 = .ok (.goto (-30), 3) := by decide +kernel
theorem dX4_readPeople_35 : decode cX4_readPeople 35 = .ok (.iconst 1, 1) := by decide +kernel
theorem dX4_readPeople_36 : decode cX4_readPeople 36 = .ok (.ireturn, 1) := by decide +kernel
theorem dX4_readPerson_0 : decode cX4_readPerson 0 = .ok (.aload_n 0, 1) := by decide +kernel
theorem dX4_readPerson_1 : decode cX4_readPerson 1 = .ok (.getfield 18, 3) := by decide +kernel
theorem dX4_readPerson_4 : decode cX4_readPerson 4 = .ok (.getfield 41, 3) := by decide +kernel
theorem dX4_readPerson_7 : decode cX4_readPerson 7 = .ok (.istore_n 1, 1) := by decide +kernel
theorem dX4_readPerson_8 : decode cX4_readPerson 8 = .ok (.aload_n 0, 1) := by decide +kernel
theorem dX4_readPerson_9 : decode cX4_readPerson 9 = .ok (.getfield 80, 3) := by decide +kernel
theorem dX4_readPerson_12 : decode cX4_readPerson 12 = .ok (.bipush 122, 2) := by decide +kernel
theorem dX4_readPerson_14 : decode cX4_readPerson 14 = .ok (.if_icmp .ne 14, 3) := by decide +kernel
theorem dX4_readPerson_17 : decode cX4_readPerson 17 = .ok (.iload_n 1, 1) := by decide +kernel
theorem dX4_readPerson_18 : decode cX4_readPerson 18 = .ok (.iconst 5, 1) := by decide +kernel
theorem dX4_readPerson_19 : decode cX4_readPerson 19 = .ok (.if_icmp .lt 9, 3) := by decide +kernel
theorem dX4_readPerson_22 : decode cX4_readPerson 22 = .ok (.aload_n 0, 1) := by decide +kernel
theorem dX4_readPerson_23 : decode cX4_readPerson 23 = .ok (.iconst 3, 1) := by decide +kernel
theorem dX4_readPerson_24 : decode cX4_readPerson 24 = .ok (.invokevirtual 86, 3) := by decide +kernel
theorem dX4_readPerson_27 : decode cX4_readPerson 27 = .ok (.ireturn, 1) := by decide +kernel
theorem dX4_readPerson_28 : decode cX4_readPerson 28 = .ok (.aload_n 0, 1) := by decide +kernel
theorem dX4_readPerson_29 : decode cX4_readPerson 29 = .ok (.bipush 122, 2) := by decide +kernel
theorem dX4_readPerson_31 : decode cX4_readPerson 31 = .ok (.invokevirtual 60, 3) := by decide +kernel
theorem dX4_readPerson_34 : decode cX4_readPerson 34 = .ok (.ifCond .eq 13, 3) := by decide +kernel
theorem dX4_readPerson_37 : decode cX4_readPerson 37 = .ok (.aload_n 0, 1) := by decide +kernel
theorem dX4_readPerson_38 : decode cX4_readPerson 38 = .ok (.iconst 0, 1) := by decide +kernel
theorem dX4_readPerson_39 : decode cX4_readPerson 39 = .ok (.bipush 99, 2) := by decide +kernel
theorem dX4_readPerson_41 : decode cX4_readPerson 41 = .ok (.invokevirtual 64, 3) := by decide +kernel
theorem dX4_readPerson_44 : decode cX4_readPerson 44 = .ok (.ifCond .ne 5, 3) := by decide +kernel
theorem dX4_readPerson_47 : decode cX4_readPerson 47 = .ok (.iconst 0, 1) := by decide +kernel
theorem dX4_readPerson_48 : decode cX4_readPerson 48 = .ok (.ireturn, 1) := by decide +kernel
theorem dX4_readPerson_49 : decode cX4_readPerson 49 = .ok (.aload_n 0, 1) := by decide +kernel
theorem dX4_readPerson_50 : decode cX4_readPerson 50 = .ok (.getfield 27, 3) := by decide +kernel
theorem dX4_readPerson_53 : decode cX4_readPerson 53 = .ok (.getfield 89, 3) := by decide +kernel
theorem dX4_readPerson_56 : decode cX4_readPerson 56 = .ok (.iload_n 1, 1) := by decide +kernel
theorem dX4_readPerson_57 : decode cX4_readPerson 57 = .ok (.aload_n 0, 1) := by decide +kernel
theorem dX4_readPerson_58 : decode cX4_readPerson 58 = .ok (.getfield 68, 3) := by decide +kernel
theorem dX4_readPerson_61 : decode cX4_readPerson 61 = .ok (.iastore, 1) := by decide +kernel
theorem dX4_readPerson_62 : decode cX4_readPerson 62 = .ok (.aload_n 0, 1) := by decide +kernel
theorem dX4_readPerson_63 : decode cX4_readPerson 63 = .ok (.bipush 44, 2) := by decide +kernel
theorem dX4_readPerson_65 : decode cX4_readPerson 65 = .ok (.invokevirtual 60, 3) := by decide +kernel
theorem dX4_readPerson_68 : decode cX4_readPerson 68 = .ok (.ifCond .eq 13, 3) := by decide +kernel
theorem dX4_readPerson_71 : decode cX4_readPerson 71 = .ok (.aload_n 0, 1) := by decide +kernel
theorem dX4_readPerson_72 : decode cX4_readPerson 72 = .ok (.iconst 0, 1) := by decide +kernel
theorem dX4_readPerson_73 : decode cX4_readPerson 73 = .ok (.bipush 20, 2) := by decide +kernel
theorem dX4_readPerson_75 : decode cX4_readPerson 75 = .ok (.invokevirtual 64, 3) := by decide +kernel
theorem dX4_readPerson_78 : decode cX4_readPerson 78 = .ok (.ifCond .ne 5, 3) := by decide +kernel
theorem dX4_readPerson_81 : decode cX4_readPerson 81 = .ok (.iconst 0, 1) := by decide +kernel
theorem dX4_readPerson_82 : decode cX4_readPerson 82 = .ok (.ireturn, 1) := by decide +kernel
theorem dX4_readPerson_83 : decode cX4_readPerson 83 = .ok (.aload_n 0, 1) := by decide +kernel
theorem dX4_readPerson_84 : decode cX4_readPerson 84 = .ok (.getfield 18, 3) := by decide +kernel
theorem dX4_readPerson_87 : decode cX4_readPerson 87 = .ok (.getfield 92, 3) := by decide +kernel
theorem dX4_readPerson_90 : decode cX4_readPerson 90 = .ok (.iload_n 1, 1) := by decide +kernel
theorem dX4_readPerson_91 : decode cX4_readPerson 91 = .ok (.aload_n 0, 1) := by decide +kernel
theorem dX4_readPerson_92 : decode cX4_readPerson 92 = .ok (.getfield 68, 3) := by decide +kernel
theorem dX4_readPerson_95 : decode cX4_readPerson 95 = .ok (.iastore, 1) := by decide +kernel
theorem dX4_readPerson_96 : decode cX4_readPerson 96 = .ok (.aload_n 0, 1) := by decide +kernel
theorem dX4_readPerson_97 : decode cX4_readPerson 97 = .ok (.getfield 18, 3) := by decide +kernel
theorem dX4_readPerson_100 : decode cX4_readPerson 100 = .ok (.dup, 1) := by decide +kernel
theorem dX4_readPerson_101 : decode cX4_readPerson 101 = .ok (.getfield 41, 3) := by decide +kernel
theorem dX4_readPerson_104 : decode cX4_readPerson 104 = .ok (.iconst 1, 1) := by decide +kernel
theorem dX4_readPerson_105 : decode cX4_readPerson 105 = .ok (.iadd, 1) := by decide +kernel
theorem dX4_readPerson_106 : decode cX4_readPerson 106 = .ok (.putfield 41, 3) := by decide +kernel
theorem dX4_readPerson_109 : decode cX4_readPerson 109 = .ok (.aload_n 0, 1) := by decide +kernel
theorem dX4_readPerson_110 : decode cX4_readPerson 110 = .ok (.bipush 59, 2) := by decide +kernel
theorem dX4_readPerson_112 : decode cX4_readPerson 112 = .ok (.invokevirtual 60, 3) := by decide +kernel
theorem dX4_readPerson_115 : decode cX4_readPerson 115 = .ok (.ireturn, 1) := by decide +kernel
theorem dX4_readSpeeches_0 : decode cX4_readSpeeches 0 = .ok (.iconst 0, 1) := by decide +kernel
theorem dX4_readSpeeches_1 : decode cX4_readSpeeches 1 = .ok (.istore_n 1, 1) := by decide +kernel
theorem dX4_readSpeeches_2 : decode cX4_readSpeeches 2 = .ok (.iload_n 1, 1) := by decide +kernel
theorem dX4_readSpeeches_3 : decode cX4_readSpeeches 3 = .ok (.bipush 6, 2) := by decide +kernel
theorem dX4_readSpeeches_5 : decode cX4_readSpeeches 5 = .ok (.if_icmp .gt 30, 3) := by decide +kernel
theorem dX4_readSpeeches_8 : decode cX4_readSpeeches 8 = .ok (.iload_n 1, 1) := by decide +kernel
theorem dX4_readSpeeches_9 : decode cX4_readSpeeches 9 = .ok (.ifCond .eq 11, 3) := by decide +kernel
theorem dX4_readSpeeches_12 : decode cX4_readSpeeches 12 = .ok (.aload_n 0, 1) := by decide +kernel
theorem dX4_readSpeeches_13 : decode cX4_readSpeeches 13 = .ok (.getfield 80, 3) := by decide +kernel
theorem dX4_readSpeeches_16 : decode cX4_readSpeeches 16 = .ok (.iconst (-1), 1) := by decide +kernel
theorem dX4_readSpeeches_17 : decode cX4_readSpeeches 17 = .ok (.if_icmp .eq 18, 3) := by decide +kernel
theorem dX4_readSpeeches_20 : decode cX4_readSpeeches 20 = .ok (.aload_n 0, 1) := by decide +kernel
theorem dX4_readSpeeches_21 : decode cX4_readSpeeches 21 = .ok (.invokevirtual 95, 3) := by decide +kernel
theorem dX4_readSpeeches_24 : decode cX4_readSpeeches 24 = .ok (.ifCond .ne 5, 3) := by decide +kernel
theorem dX4_readSpeeches_27 : decode cX4_readSpeeches 27 = .ok (.iconst 0, 1) := by decide +kernel
theorem dX4_readSpeeches_28 : decode cX4_readSpeeches 28 = .ok (.ireturn, 1) := by decide +kernel
theorem dX4_readSpeeches_29 : decode cX4_readSpeeches 29 = .ok (.iinc 1 1, 3) := by decide +kernel
theorem dX4_readSpeeches_32 : decode cX4_readSpeeches 32 = .ok (.goto (-30), 3) := by decide +kernel
theorem dX4_readSpeeches_35 : decode cX4_readSpeeches 35 = .ok (.iconst 1, 1) := by decide +kernel
theorem dX4_readSpeeches_36 : decode cX4_readSpeeches 36 = .ok (.ireturn, 1) := by decide +kernel
theorem dX4_readSpeech_0 : decode cX4_readSpeech 0 = .ok (.aload_n 0, 1) := by decide +kernel
theorem dX4_readSpeech_1 : decode cX4_readSpeech 1 = .ok (.getfield 18, 3) := by decide +kernel
theorem dX4_readSpeech_4 : decode cX4_readSpeech 4 = .ok (.getfield 44, 3) := by decide +kernel
theorem dX4_readSpeech_7 : decode cX4_readSpeech 7 = .ok (.istore_n 1, 1) := by decide +kernel
theorem dX4_readSpeech_8 : decode cX4_readSpeech 8 = .ok (.aload_n 0, 1) := by decide +kernel
theorem dX4_readSpeech_9 : decode cX4_readSpeech 9 = .ok (.getfield 80, 3) := by decide +kernel
theorem dX4_readSpeech_12 : decode cX4_readSpeech 12 = .ok (.invokestatic 98, 3) := by decide +kernel
theorem dX4_readSpeech_15 : decode cX4_readSpeech 15 = .ok (.istore_n 2, 1) := by decide +kernel
theorem dX4_readSpeech_16 : decode cX4_readSpeech 16 = .ok (.iload_n 2, 1) := by decide +kernel
theorem dX4_readSpeech_17 : decode cX4_readSpeech 17 = .ok (.ifCond .ne 9, 3) := by decide +kernel
theorem dX4_readSpeech_20 : decode cX4_readSpeech 20 = .ok (.aload_n 0, 1) := by decide +kernel
theorem dX4_readSpeech_21 : decode cX4_readSpeech 21 = .ok (.iconst 1, 1) := by decide +kernel
theorem dX4_readSpeech_22 : decode cX4_readSpeech 22 = .ok (.invokevirtual 86, 3) := by decide +kernel
theorem dX4_readSpeech_25 : decode cX4_readSpeech 25 = .ok (.ireturn, 1) := by decide +kernel
theorem dX4_readSpeech_26 : decode cX4_readSpeech 26 = .ok (.iload_n 1, 1) := by decide +kernel
theorem dX4_readSpeech_27 : decode cX4_readSpeech 27 = .ok (.bipush 6, 2) := by decide +kernel
theorem dX4_readSpeech_29 : decode cX4_readSpeech 29 = .ok (.if_icmp .lt 9, 3) := by decide +kernel
theorem dX4_readSpeech_32 : decode cX4_readSpeech 32 = .ok (.aload_n 0, 1) := by decide +kernel
theorem dX4_readSpeech_33 : decode cX4_readSpeech 33 = .ok (.iconst 3, 1) := by decide +kernel
theorem dX4_readSpeech_34 : decode cX4_readSpeech 34 = .ok (.invokevirtual 86, 3) := by decide +kernel
theorem dX4_readSpeech_37 : decode cX4_readSpeech 37 = .ok (.ireturn, 1) := by decide +kernel
theorem dX4_readSpeech_38 : decode cX4_readSpeech 38 = .ok (.aload_n 0, 1) := by decide +kernel
theorem dX4_readSpeech_39 : decode cX4_readSpeech 39 = .ok (.getfield 18, 3) := by decide +kernel
theorem dX4_readSpeech_42 : decode cX4_readSpeech 42 = .ok (.getfield 102, 3) := by decide +kernel
theorem dX4_readSpeech_45 : decode cX4_readSpeech 45 = .ok (.iload_n 1, 1) := by decide +kernel
theorem dX4_readSpeech_46 : decode cX4_readSpeech 46 = .ok (.iload_n 2, 1) := by decide +kernel
theorem dX4_readSpeech_47 : decode cX4_readSpeech 47 = .ok (.iastore, 1) := by decide +kernel
theorem dX4_readSpeech_48 : decode cX4_readSpeech 48 = .ok (.aload_n 0, 1) := by decide +kernel
theorem dX4_readSpeech_49 : decode cX4_readSpeech 49 = .ok (.invokevirtual 47, 3) := by decide +kernel
theorem dX4_readSpeech_52 : decode cX4_readSpeech 52 = .ok (.aload_n 0, 1) := by decide +kernel
theorem dX4_readSpeech_53 : decode cX4_readSpeech 53 = .ok (.iconst 0, 1) := by decide +kernel
theorem dX4_readSpeech_54 : decode cX4_readSpeech 54 = .ok (.aload_n 0, 1) := by decide +kernel
theorem dX4_readSpeech_55 : decode cX4_readSpeech 55 = .ok (.getfield 18, 3) := by decide +kernel
theorem dX4_readSpeech_58 : decode cX4_readSpeech 58 = .ok (.getfield 41, 3) := by decide +kernel
theorem dX4_readSpeech_61 : decode cX4_readSpeech 61 = .ok (.iconst 1, 1) := by decide +kernel
theorem dX4_readSpeech_62 : decode cX4_readSpeech 62 = .ok (.isub, 1) := by decide +kernel
theorem dX4_readSpeech_63 : decode cX4_readSpeech 63 = .ok (.invokevirtual 64, 3) := by decide +kernel
theorem dX4_readSpeech_66 : decode cX4_readSpeech 66 = .ok (.ifCond .ne 5, 3) := by decide +kernel
theorem dX4_readSpeech_69 : decode cX4_readSpeech 69 = .ok (.iconst 0, 1) := by decide +kernel
theorem dX4_readSpeech_70 : decode cX4_readSpeech 70 = .ok (.ireturn, 1) := by decide +kernel
theorem dX4_readSpeech_71 : decode cX4_readSpeech 71 = .ok (.aload_n 0, 1) := by decide +kernel
theorem dX4_readSpeech_72 : decode cX4_readSpeech 72 = .ok (.getfield 18, 3) := by decide +kernel
theorem dX4_readSpeech_75 : decode cX4_readSpeech 75 = .ok (.getfield 105, 3) := by decide +kernel
theorem dX4_readSpeech_78 : decode cX4_readSpeech 78 = .ok (.iload_n 1, 1) := by decide +kernel
theorem dX4_readSpeech_79 : decode cX4_readSpeech 79 = .ok (.aload_n 0, 1) := by decide +kernel
theorem dX4_readSpeech_80 : decode cX4_readSpeech 80 = .ok (.getfield 68, 3) := by decide +kernel
theorem dX4_readSpeech_83 : decode cX4_readSpeech 83 = .ok (.iastore, 1) := by decide +kernel
theorem dX4_readSpeech_84 : decode cX4_readSpeech 84 = .ok (.aload_n 0, 1) := by decide +kernel
theorem dX4_readSpeech_85 : decode cX4_readSpeech 85 = .ok (.bipush 44, 2) := by decide +kernel
theorem dX4_readSpeech_87 : decode cX4_readSpeech 87 = .ok (.invokevirtual 60, 3) := by decide +kernel
theorem dX4_readSpeech_90 : decode cX4_readSpeech 90 = .ok (.ifCond .eq 13, 3) := by decide +kernel
theorem dX4_readSpeech_93 : decode cX4_readSpeech 93 = .ok (.aload_n 0, 1) := by decide +kernel
theorem dX4_readSpeech_94 : decode cX4_readSpeech 94 = .ok (.iconst 1, 1) := by decide +kernel
theorem dX4_readSpeech_95 : decode cX4_readSpeech 95 = .ok (.bipush 30, 2) := by decide +kernel
theorem dX4_readSpeech_97 : decode cX4_readSpeech 97 = .ok (.invokevirtual 64, 3) := by decide +kernel
theorem dX4_readSpeech_100 : decode cX4_readSpeech 100 = .ok (.ifCond .ne 5, 3) := by decide +kernel
theorem dX4_readSpeech_103 : decode cX4_readSpeech 103 = .ok (.iconst 0, 1) := by decide +kernel
theorem dX4_readSpeech_104 : decode cX4_readSpeech 104 = .ok (.ireturn, 1) := by decide +kernel
theorem dX4_readSpeech_105 : decode cX4_readSpeech 105 = .ok (.aload_n 0, 1) := by decide +kernel
theorem dX4_readSpeech_106 : decode cX4_readSpeech 106 = .ok (.getfield 18, 3) := by decide +kernel
theorem dX4_readSpeech_109 : decode cX4_readSpeech 109 = .ok (.getfield 108, 3) := by decide +kernel
theorem dX4_readSpeech_112 : decode cX4_readSpeech 112 = .ok (.iload_n 1, 1) := by decide +kernel
theorem dX4_readSpeech_113 : decode cX4_readSpeech 113 = .ok (.aload_n 0, 1) := by decide +kernel
theorem dX4_readSpeech_114 : decode cX4_readSpeech 114 = .ok (.getfield 68, 3) := by decide +kernel
theorem dX4_readSpeech_117 : decode cX4_readSpeech 117 = .ok (.iastore, 1) := by decide +kernel
theorem dX4_readSpeech_118 : decode cX4_readSpeech 118 = .ok (.aload_n 0, 1) := by decide +kernel
theorem dX4_readSpeech_119 : decode cX4_readSpeech 119 = .ok (.bipush 44, 2) := by decide +kernel
theorem dX4_readSpeech_121 : decode cX4_readSpeech 121 = .ok (.invokevirtual 60, 3) := by decide +kernel
theorem dX4_readSpeech_124 : decode cX4_readSpeech 124 = .ok (.ifCond .eq 12, 3) := by decide +kernel
theorem dX4_readSpeech_127 : decode cX4_readSpeech 127 = .ok (.aload_n 0, 1) := by decide +kernel
theorem dX4_readSpeech_128 : decode cX4_readSpeech 128 = .ok (.iconst 0, 1) := by decide +kernel
theorem dX4_readSpeech_129 : decode cX4_readSpeech 129 = .ok (.iload_n 1, 1) := by decide +kernel
theorem dX4_readSpeech_130 : decode cX4_readSpeech 130 = .ok (.invokevirtual 64, 3) := by decide +kernel
theorem dX4_readSpeech_133 : decode cX4_readSpeech 133 = .ok (.ifCond .ne 5, 3) := by decide +kernel
theorem dX4_readSpeech_136 : decode cX4_readSpeech 136 = .ok (.iconst 0, 1) := by decide +kernel
theorem dX4_readSpeech_137 : decode cX4_readSpeech 137 = .ok (.ireturn, 1) := by decide +kernel
theorem dX4_readSpeech_138 : decode cX4_readSpeech 138 = .ok (.aload_n 0, 1) := by decide +kernel
theorem dX4_readSpeech_139 : decode cX4_readSpeech 139 = .ok (.getfield 18, 3) := by decide +kernel
theorem dX4_readSpeech_142 : decode cX4_readSpeech 142 = .ok (.getfield 111, 3) := by decide +kernel
theorem dX4_readSpeech_145 : decode cX4_readSpeech 145 = .ok (.iload_n 1, 1) := by decide +kernel
theorem dX4_readSpeech_146 : decode cX4_readSpeech 146 = .ok (.aload_n 0, 1) := by decide +kernel
theorem dX4_readSpeech_147 : decode cX4_readSpeech 147 = .ok (.getfield 68, 3) := by decide +kernel
theorem dX4_readSpeech_150 : decode cX4_readSpeech 150 = .ok (.iastore, 1) := by decide +kernel
theorem dX4_readSpeech_151 : decode cX4_readSpeech 151 = .ok (.aload_n 0, 1) := by decide +kernel
theorem dX4_readSpeech_152 : decode cX4_readSpeech 152 = .ok (.getfield 18, 3) := by decide +kernel
theorem dX4_readSpeech_155 : decode cX4_readSpeech 155 = .ok (.dup, 1) := by decide +kernel
theorem dX4_readSpeech_156 : decode cX4_readSpeech 156 = .ok (.getfield 44, 3) := by decide +kernel
theorem dX4_readSpeech_159 : decode cX4_readSpeech 159 = .ok (.iconst 1, 1) := by decide +kernel
theorem dX4_readSpeech_160 : decode cX4_readSpeech 160 = .ok (.iadd, 1) := by decide +kernel
theorem dX4_readSpeech_161 : decode cX4_readSpeech 161 = .ok (.putfield 44, 3) := by decide +kernel
theorem dX4_readSpeech_164 : decode cX4_readSpeech 164 = .ok (.aload_n 0, 1) := by decide +kernel
theorem dX4_readSpeech_165 : decode cX4_readSpeech 165 = .ok (.bipush 59, 2) := by decide +kernel
theorem dX4_readSpeech_167 : decode cX4_readSpeech 167 = .ok (.invokevirtual 60, 3) := by decide +kernel
theorem dX4_readSpeech_170 : decode cX4_readSpeech 170 = .ok (.ireturn, 1) := by decide +kernel
theorem dX4_kindOfSort_0 : decode cX4_kindOfSort 0 = .ok (.iload_n 0, 1) := by decide +kernel
theorem dX4_kindOfSort_1 : decode cX4_kindOfSort 1 = .ok (.lookupswitch 61 #[(98, 53), (101, 59), (110, 51), (115, 55), (119, 57)], 51) := by decide +kernel
theorem dX4_kindOfSort_52 : decode cX4_kindOfSort 52 = .ok (.iconst 1, 1) := by decide +kernel
theorem dX4_kindOfSort_53 : decode cX4_kindOfSort 53 = .ok (.ireturn, 1) := by decide +kernel
theorem dX4_kindOfSort_54 : decode cX4_kindOfSort 54 = .ok (.iconst 2, 1) := by decide +kernel
theorem dX4_kindOfSort_55 : decode cX4_kindOfSort 55 = .ok (.ireturn, 1) := by decide +kernel
theorem dX4_kindOfSort_56 : decode cX4_kindOfSort 56 = .ok (.iconst 3, 1) := by decide +kernel
theorem dX4_kindOfSort_57 : decode cX4_kindOfSort 57 = .ok (.ireturn, 1) := by decide +kernel
theorem dX4_kindOfSort_58 : decode cX4_kindOfSort 58 = .ok (.iconst 4, 1) := by decide +kernel
theorem dX4_kindOfSort_59 : decode cX4_kindOfSort 59 = .ok (.ireturn, 1) := by decide +kernel
theorem dX4_kindOfSort_60 : decode cX4_kindOfSort 60 = .ok (.iconst 5, 1) := by decide +kernel
theorem dX4_kindOfSort_61 : decode cX4_kindOfSort 61 = .ok (.ireturn, 1) := by decide +kernel
theorem dX4_kindOfSort_62 : decode cX4_kindOfSort 62 = .ok (.iconst 0, 1) := by decide +kernel
theorem dX4_kindOfSort_63 : decode cX4_kindOfSort 63 = .ok (.ireturn, 1) := by decide +kernel
theorem dX4_takeSign_0 : decode cX4_takeSign 0 = .ok (.aload_n 0, 1) := by decide +kernel
theorem dX4_takeSign_1 : decode cX4_takeSign 1 = .ok (.getfield 80, 3) := by decide +kernel
theorem dX4_takeSign_4 : decode cX4_takeSign 4 = .ok (.iload_n 1, 1) := by decide +kernel
theorem dX4_takeSign_5 : decode cX4_takeSign 5 = .ok (.if_icmp .eq 9, 3) := by decide +kernel
theorem dX4_takeSign_8 : decode cX4_takeSign 8 = .ok (.aload_n 0, 1) := by decide +kernel
theorem dX4_takeSign_9 : decode cX4_takeSign 9 = .ok (.iconst 1, 1) := by decide +kernel
theorem dX4_takeSign_10 : decode cX4_takeSign 10 = .ok (.invokevirtual 86, 3) := by decide +kernel
theorem dX4_takeSign_13 : decode cX4_takeSign 13 = .ok (.ireturn, 1) := by decide +kernel
theorem dX4_takeSign_14 : decode cX4_takeSign 14 = .ok (.aload_n 0, 1) := by decide +kernel
theorem dX4_takeSign_15 : decode cX4_takeSign 15 = .ok (.invokevirtual 47, 3) := by decide +kernel
theorem dX4_takeSign_18 : decode cX4_takeSign 18 = .ok (.iconst 1, 1) := by decide +kernel
theorem dX4_takeSign_19 : decode cX4_takeSign 19 = .ok (.ireturn, 1) := by decide +kernel
theorem dX4_takeNumber_0 : decode cX4_takeNumber 0 = .ok (.aload_n 0, 1) := by decide +kernel
theorem dX4_takeNumber_1 : decode cX4_takeNumber 1 = .ok (.getfield 80, 3) := by decide +kernel
theorem dX4_takeNumber_4 : decode cX4_takeNumber 4 = .ok (.bipush (-3), 2) := by decide +kernel
theorem dX4_takeNumber_6 : decode cX4_takeNumber 6 = .ok (.if_icmp .eq 9, 3) := by decide +kernel
theorem dX4_takeNumber_9 : decode cX4_takeNumber 9 = .ok (.aload_n 0, 1) := by decide +kernel
theorem dX4_takeNumber_10 : decode cX4_takeNumber 10 = .ok (.iconst 1, 1) := by decide +kernel
theorem dX4_takeNumber_11 : decode cX4_takeNumber 11 = .ok (.invokevirtual 86, 3) := by decide +kernel
theorem dX4_takeNumber_14 : decode cX4_takeNumber 14 = .ok (.ireturn, 1) := by decide +kernel
theorem dX4_takeNumber_15 : decode cX4_takeNumber 15 = .ok (.aload_n 0, 1) := by decide +kernel
theorem dX4_takeNumber_16 : decode cX4_takeNumber 16 = .ok (.getfield 114, 3) := by decide +kernel
theorem dX4_takeNumber_19 : decode cX4_takeNumber 19 = .ok (.iload_n 1, 1) := by decide +kernel
theorem dX4_takeNumber_20 : decode cX4_takeNumber 20 = .ok (.if_icmp .lt 11, 3) := by decide +kernel
theorem dX4_takeNumber_23 : decode cX4_takeNumber 23 = .ok (.aload_n 0, 1) := by decide +kernel
theorem dX4_takeNumber_24 : decode cX4_takeNumber 24 = .ok (.getfield 114, 3) := by decide +kernel
theorem dX4_takeNumber_27 : decode cX4_takeNumber 27 = .ok (.iload_n 2, 1) := by decide +kernel
theorem dX4_takeNumber_28 : decode cX4_takeNumber 28 = .ok (.if_icmp .le 9, 3) := by decide +kernel
theorem dX4_takeNumber_31 : decode cX4_takeNumber 31 = .ok (.aload_n 0, 1) := by decide +kernel
theorem dX4_takeNumber_32 : decode cX4_takeNumber 32 = .ok (.iconst 2, 1) := by decide +kernel
theorem dX4_takeNumber_33 : decode cX4_takeNumber 33 = .ok (.invokevirtual 86, 3) := by decide +kernel
theorem dX4_takeNumber_36 : decode cX4_takeNumber 36 = .ok (.ireturn, 1) := by decide +kernel
theorem dX4_takeNumber_37 : decode cX4_takeNumber 37 = .ok (.aload_n 0, 1) := by decide +kernel
theorem dX4_takeNumber_38 : decode cX4_takeNumber 38 = .ok (.aload_n 0, 1) := by decide +kernel
theorem dX4_takeNumber_39 : decode cX4_takeNumber 39 = .ok (.getfield 114, 3) := by decide +kernel
theorem dX4_takeNumber_42 : decode cX4_takeNumber 42 = .ok (.putfield 68, 3) := by decide +kernel
theorem dX4_takeNumber_45 : decode cX4_takeNumber 45 = .ok (.aload_n 0, 1) := by decide +kernel
theorem dX4_takeNumber_46 : decode cX4_takeNumber 46 = .ok (.invokevirtual 47, 3) := by decide +kernel
theorem dX4_takeNumber_49 : decode cX4_takeNumber 49 = .ok (.iconst 1, 1) := by decide +kernel
theorem dX4_takeNumber_50 : decode cX4_takeNumber 50 = .ok (.ireturn, 1) := by decide +kernel
theorem dX4_fail_0 : decode cX4_fail 0 = .ok (.aload_n 0, 1) := by decide +kernel
theorem dX4_fail_1 : decode cX4_fail 1 = .ok (.iload_n 1, 1) := by decide +kernel
theorem dX4_fail_2 : decode cX4_fail 2 = .ok (.putfield 117, 3) := by decide +kernel
theorem dX4_fail_5 : decode cX4_fail 5 = .ok (.iconst 0, 1) := by decide +kernel
theorem dX4_fail_6 : decode cX4_fail 6 = .ok (.ireturn, 1) := by decide +kernel
theorem dX4_advance_0 : decode cX4_advance 0 = .ok (.aload_n 0, 1) := by decide +kernel
theorem dX4_advance_1 : decode cX4_advance 1 = .ok (.aload_n 0, 1) := by decide +kernel
theorem dX4_advance_2 : decode cX4_advance 2 = .ok (.getfield 38, 3) := by decide +kernel
theorem dX4_advance_5 : decode cX4_advance 5 = .ok (.putfield 120, 3) := by decide +kernel
theorem dX4_advance_8 : decode cX4_advance 8 = .ok (.aload_n 0, 1) := by decide +kernel
theorem dX4_advance_9 : decode cX4_advance 9 = .ok (.getfield 38, 3) := by decide +kernel
theorem dX4_advance_12 : decode cX4_advance 12 = .ok (.aload_n 0, 1) := by decide +kernel
theorem dX4_advance_13 : decode cX4_advance 13 = .ok (.getfield 35, 3) := by decide +kernel
theorem dX4_advance_16 : decode cX4_advance 16 = .ok (.if_icmp .lt 9, 3) := by decide +kernel
theorem dX4_advance_19 : decode cX4_advance 19 = .ok (.aload_n 0, 1) := by decide +kernel
theorem dX4_advance_20 : decode cX4_advance 20 = .ok (.iconst (-1), 1) := by decide +kernel
theorem dX4_advance_21 : decode cX4_advance 21 = .ok (.putfield 80, 3) := by decide +kernel
theorem dX4_advance_24 : decode cX4_advance 24 = .ok (.return_, 1) := by decide +kernel
theorem dX4_advance_25 : decode cX4_advance 25 = .ok (.aload_n 0, 1) := by decide +kernel
theorem dX4_advance_26 : decode cX4_advance 26 = .ok (.getfield 9, 3) := by decide +kernel
theorem dX4_advance_29 : decode cX4_advance 29 = .ok (.aload_n 0, 1) := by decide +kernel
theorem dX4_advance_30 : decode cX4_advance 30 = .ok (.getfield 38, 3) := by decide +kernel
theorem dX4_advance_33 : decode cX4_advance 33 = .ok (.iaload, 1) := by decide +kernel
theorem dX4_advance_34 : decode cX4_advance 34 = .ok (.istore_n 1, 1) := by decide +kernel
theorem dX4_advance_35 : decode cX4_advance 35 = .ok (.iload_n 1, 1) := by decide +kernel
theorem dX4_advance_36 : decode cX4_advance 36 = .ok (.invokestatic 123, 3) := by decide +kernel
theorem dX4_advance_39 : decode cX4_advance 39 = .ok (.ifCond .eq 8, 3) := by decide +kernel
theorem dX4_advance_42 : decode cX4_advance 42 = .ok (.aload_n 0, 1) := by decide +kernel
theorem dX4_advance_43 : decode cX4_advance 43 = .ok (.invokevirtual 126, 3) := by decide +kernel
theorem dX4_advance_46 : decode cX4_advance 46 = .ok (.return_, 1) := by decide +kernel
theorem dX4_advance_47 : decode cX4_advance 47 = .ok (.iload_n 1, 1) := by decide +kernel
theorem dX4_advance_48 : decode cX4_advance 48 = .ok (.bipush 97, 2) := by decide +kernel
theorem dX4_advance_50 : decode cX4_advance 50 = .ok (.if_icmp .lt 9, 3) := by decide +kernel
theorem dX4_advance_53 : decode cX4_advance 53 = .ok (.iload_n 1, 1) := by decide +kernel
theorem dX4_advance_54 : decode cX4_advance 54 = .ok (.bipush 122, 2) := by decide +kernel
theorem dX4_advance_56 : decode cX4_advance 56 = .ok (.if_icmp .le 15, 3) := by decide +kernel
theorem dX4_advance_59 : decode cX4_advance 59 = .ok (.iload_n 1, 1) := by decide +kernel
theorem dX4_advance_60 : decode cX4_advance 60 = .ok (.bipush 44, 2) := by decide +kernel
theorem dX4_advance_62 : decode cX4_advance 62 = .ok (.if_icmp .eq 9, 3) := by decide +kernel
theorem dX4_advance_65 : decode cX4_advance 65 = .ok (.iload_n 1, 1) := by decide +kernel
theorem dX4_advance_66 : decode cX4_advance 66 = .ok (.bipush 59, 2) := by decide +kernel
theorem dX4_advance_68 : decode cX4_advance 68 = .ok (.if_icmp .ne 7, 3) := by decide +kernel
theorem dX4_advance_71 : decode cX4_advance 71 = .ok (.iconst 1, 1) := by decide +kernel
theorem dX4_advance_72 : decode cX4_advance 72 = .ok (.goto 4, 3) := by decide +kernel
theorem dX4_advance_75 : decode cX4_advance 75 = .ok (.iconst 0, 1) := by decide +kernel
theorem dX4_advance_76 : decode cX4_advance 76 = .ok (.istore_n 2, 1) := by decide +kernel
theorem dX4_advance_77 : decode cX4_advance 77 = .ok (.aload_n 0, 1) := by decide +kernel
theorem dX4_advance_78 : decode cX4_advance 78 = .ok (.iload_n 2, 1) := by decide +kernel
theorem dX4_advance_79 : decode cX4_advance 79 = .ok (.ifCond .eq 7, 3) := by decide +kernel
theorem dX4_advance_82 : decode cX4_advance 82 = .ok (.iload_n 1, 1) := by decide +kernel
theorem dX4_advance_83 : decode cX4_advance 83 = .ok (.goto 5, 3) := by decide +kernel
theorem dX4_advance_86 : decode cX4_advance 86 = .ok (.bipush (-2), 2) := by decide +kernel
theorem dX4_advance_88 : decode cX4_advance 88 = .ok (.putfield 80, 3) := by decide +kernel
theorem dX4_advance_91 : decode cX4_advance 91 = .ok (.aload_n 0, 1) := by decide +kernel
theorem dX4_advance_92 : decode cX4_advance 92 = .ok (.dup, 1) := by decide +kernel
theorem dX4_advance_93 : decode cX4_advance 93 = .ok (.getfield 38, 3) := by decide +kernel
theorem dX4_advance_96 : decode cX4_advance 96 = .ok (.iconst 1, 1) := by decide +kernel
theorem dX4_advance_97 : decode cX4_advance 97 = .ok (.iadd, 1) := by decide +kernel
theorem dX4_advance_98 : decode cX4_advance 98 = .ok (.putfield 38, 3) := by decide +kernel
theorem dX4_advance_101 : decode cX4_advance 101 = .ok (.return_, 1) := by decide +kernel
theorem dX4_readFigures_0 : decode cX4_readFigures 0 = .ok (.iconst 0, 1) := by decide +kernel
theorem dX4_readFigures_1 : decode cX4_readFigures 1 = .ok (.istore_n 1, 1) := by decide +kernel
theorem dX4_readFigures_2 : decode cX4_readFigures 2 = .ok (.aload_n 0, 1) := by decide +kernel
theorem dX4_readFigures_3 : decode cX4_readFigures 3 = .ok (.iconst 0, 1) := by decide +kernel
theorem dX4_readFigures_4 : decode cX4_readFigures 4 = .ok (.putfield 114, 3) := by decide +kernel
theorem dX4_readFigures_7 : decode cX4_readFigures 7 = .ok (.aload_n 0, 1) := by decide +kernel
theorem dX4_readFigures_8 : decode cX4_readFigures 8 = .ok (.getfield 38, 3) := by decide +kernel
theorem dX4_readFigures_11 : decode cX4_readFigures 11 = .ok (.aload_n 0, 1) := by decide +kernel
theorem dX4_readFigures_12 : decode cX4_readFigures 12 = .ok (.getfield 35, 3) := by decide +kernel
theorem dX4_readFigures_15 : decode cX4_readFigures 15 = .ok (.if_icmp .ge 67, 3) := by decide +kernel
theorem dX4_readFigures_18 : decode cX4_readFigures 18 = .ok (.aload_n 0, 1) := by decide +kernel
theorem dX4_readFigures_19 : decode cX4_readFigures 19 = .ok (.getfield 9, 3) := by decide +kernel
theorem dX4_readFigures_22 : decode cX4_readFigures 22 = .ok (.aload_n 0, 1) := by decide +kernel
theorem dX4_readFigures_23 : decode cX4_readFigures 23 = .ok (.getfield 38, 3) := by decide +kernel
theorem dX4_readFigures_26 : decode cX4_readFigures 26 = .ok (.iaload, 1) := by decide +kernel
theorem dX4_readFigures_27 : decode cX4_readFigures 27 = .ok (.invokestatic 123, 3) := by decide +kernel
theorem dX4_readFigures_30 : decode cX4_readFigures 30 = .ok (.ifCond .eq 52, 3) := by decide +kernel
theorem dX4_readFigures_33 : decode cX4_readFigures 33 = .ok (.iinc 1 1, 3) := by decide +kernel
theorem dX4_readFigures_36 : decode cX4_readFigures 36 = .ok (.aload_n 0, 1) := by decide +kernel
theorem dX4_readFigures_37 : decode cX4_readFigures 37 = .ok (.iload_n 1, 1) := by decide +kernel
theorem dX4_readFigures_38 : decode cX4_readFigures 38 = .ok (.iconst 2, 1) := by decide +kernel
theorem dX4_readFigures_39 : decode cX4_readFigures 39 = .ok (.if_icmp .le 7, 3) := by decide +kernel
theorem dX4_readFigures_42 : decode cX4_readFigures 42 = .ok (.iconst 0, 1) := by decide +kernel
theorem dX4_readFigures_43 : decode cX4_readFigures 43 = .ok (.goto 23, 3) := by decide +kernel
theorem dX4_readFigures_46 : decode cX4_readFigures 46 = .ok (.aload_n 0, 1) := by decide +kernel
theorem dX4_readFigures_47 : decode cX4_readFigures 47 = .ok (.getfield 114, 3) := by decide +kernel
theorem dX4_readFigures_50 : decode cX4_readFigures 50 = .ok (.bipush 10, 2) := by decide +kernel
theorem dX4_readFigures_52 : decode cX4_readFigures 52 = .ok (.imul, 1) := by decide +kernel
theorem dX4_readFigures_53 : decode cX4_readFigures 53 = .ok (.aload_n 0, 1) := by decide +kernel
theorem dX4_readFigures_54 : decode cX4_readFigures 54 = .ok (.getfield 9, 3) := by decide +kernel
theorem dX4_readFigures_57 : decode cX4_readFigures 57 = .ok (.aload_n 0, 1) := by decide +kernel
theorem dX4_readFigures_58 : decode cX4_readFigures 58 = .ok (.getfield 38, 3) := by decide +kernel
theorem dX4_readFigures_61 : decode cX4_readFigures 61 = .ok (.iaload, 1) := by decide +kernel
theorem dX4_readFigures_62 : decode cX4_readFigures 62 = .ok (.iadd, 1) := by decide +kernel
theorem dX4_readFigures_63 : decode cX4_readFigures 63 = .ok (.bipush 48, 2) := by decide +kernel
theorem dX4_readFigures_65 : decode cX4_readFigures 65 = .ok (.isub, 1) := by decide +kernel
theorem dX4_readFigures_66 : decode cX4_readFigures 66 = .ok (.putfield 114, 3) := by decide +kernel
theorem dX4_readFigures_69 : decode cX4_readFigures 69 = .ok (.aload_n 0, 1) := by decide +kernel
theorem dX4_readFigures_70 : decode cX4_readFigures 70 = .ok (.dup, 1) := by decide +kernel
theorem dX4_readFigures_71 : decode cX4_readFigures 71 = .ok (.getfield 38, 3) := by decide +kernel
theorem dX4_readFigures_74 : decode cX4_readFigures 74 = .ok (.iconst 1, 1) := by decide +kernel
theorem dX4_readFigures_75 : decode cX4_readFigures 75 = .ok (.iadd, 1) := by decide +kernel
theorem dX4_readFigures_76 : decode cX4_readFigures 76 = .ok (.putfield 38, 3) := by decide +kernel
theorem dX4_readFigures_79 : decode cX4_readFigures 79 = .ok (.goto (-72), 3) := by decide +kernel
theorem dX4_readFigures_82 : decode cX4_readFigures 82 = .ok (.aload_n 0, 1) := by decide +kernel
theorem dX4_readFigures_83 : decode cX4_readFigures 83 = .ok (.iload_n 1, 1) := by decide +kernel
theorem dX4_readFigures_84 : decode cX4_readFigures 84 = .ok (.iconst 2, 1) := by decide +kernel
theorem dX4_readFigures_85 : decode cX4_readFigures 85 = .ok (.if_icmp .le 8, 3) := by decide +kernel
theorem dX4_readFigures_88 : decode cX4_readFigures 88 = .ok (.bipush (-2), 2) := by decide +kernel
theorem dX4_readFigures_90 : decode cX4_readFigures 90 = .ok (.goto 5, 3) := by decide +kernel
theorem dX4_readFigures_93 : decode cX4_readFigures 93 = .ok (.bipush (-3), 2) := by decide +kernel
theorem dX4_readFigures_95 : decode cX4_readFigures 95 = .ok (.putfield 80, 3) := by decide +kernel
theorem dX4_readFigures_98 : decode cX4_readFigures 98 = .ok (.return_, 1) := by decide +kernel
theorem dX4_isFigure_0 : decode cX4_isFigure 0 = .ok (.iload_n 0, 1) := by decide +kernel
theorem dX4_isFigure_1 : decode cX4_isFigure 1 = .ok (.bipush 48, 2) := by decide +kernel
theorem dX4_isFigure_3 : decode cX4_isFigure 3 = .ok (.if_icmp .lt 13, 3) := by decide +kernel
theorem dX4_isFigure_6 : decode cX4_isFigure 6 = .ok (.iload_n 0, 1) := by decide +kernel
theorem dX4_isFigure_7 : decode cX4_isFigure 7 = .ok (.bipush 57, 2) := by decide +kernel
theorem dX4_isFigure_9 : decode cX4_isFigure 9 = .ok (.if_icmp .gt 7, 3) := by decide +kernel
theorem dX4_isFigure_12 : decode cX4_isFigure 12 = .ok (.iconst 1, 1) := by decide +kernel
theorem dX4_isFigure_13 : decode cX4_isFigure 13 = .ok (.goto 4, 3) := by decide +kernel
theorem dX4_isFigure_16 : decode cX4_isFigure 16 = .ok (.iconst 0, 1) := by decide +kernel
theorem dX4_isFigure_17 : decode cX4_isFigure 17 = .ok (.ireturn, 1) := by decide +kernel
theorem dX5_init_0 : decode cX5_init 0 = .ok (.aload_n 0, 1) := by decide +kernel
theorem dX5_init_1 : decode cX5_init 1 = .ok (.invokespecial 3, 3) := by decide +kernel
theorem dX5_init_4 : decode cX5_init 4 = .ok (.aload_n 0, 1) := by decide +kernel
theorem dX5_init_5 : decode cX5_init 5 = .ok (.bipush 40, 2) := by decide +kernel
theorem dX5_init_7 : decode cX5_init 7 = .ok (.newarray .int, 2) := by decide +kernel
theorem dX5_init_9 : decode cX5_init 9 = .ok (.putfield 9, 3) := by decide +kernel
theorem dX5_init_12 : decode cX5_init 12 = .ok (.return_, 1) := by decide +kernel
theorem dX5_begin_0 : decode cX5_begin 0 = .ok (.aload_n 0, 1) := by decide +kernel
theorem dX5_begin_1 : decode cX5_begin 1 = .ok (.iconst 1, 1) := by decide +kernel
theorem dX5_begin_2 : decode cX5_begin 2 = .ok (.putfield 15, 3) := by decide +kernel
theorem dX5_begin_5 : decode cX5_begin 5 = .ok (.aload_n 0, 1) := by decide +kernel
theorem dX5_begin_6 : decode cX5_begin 6 = .ok (.iload_n 1, 1) := by decide +kernel
theorem dX5_begin_7 : decode cX5_begin 7 = .ok (.putfield 19, 3) := by decide +kernel
theorem dX5_begin_10 : decode cX5_begin 10 = .ok (.aload_n 0, 1) := by decide +kernel
theorem dX5_begin_11 : decode cX5_begin 11 = .ok (.iload_n 2, 1) := by decide +kernel
theorem dX5_begin_12 : decode cX5_begin 12 = .ok (.putfield 23, 3) := by decide +kernel
theorem dX5_begin_15 : decode cX5_begin 15 = .ok (.iconst 0, 1) := by decide +kernel
theorem dX5_begin_16 : decode cX5_begin 16 = .ok (.istore_n 3, 1) := by decide +kernel
theorem dX5_begin_17 : decode cX5_begin 17 = .ok (.iload_n 3, 1) := by decide +kernel
theorem dX5_begin_18 : decode cX5_begin 18 = .ok (.bipush 40, 2) := by decide +kernel
theorem dX5_begin_20 : decode cX5_begin 20 = .ok (.if_icmp .ge 16, 3) := by decide +kernel
theorem dX5_begin_23 : decode cX5_begin 23 = .ok (.aload_n 0, 1) := by decide +kernel
theorem dX5_begin_24 : decode cX5_begin 24 = .ok (.getfield 9, 3) := by decide +kernel
theorem dX5_begin_27 : decode cX5_begin 27 = .ok (.iload_n 3, 1) := by decide +kernel
theorem dX5_begin_28 : decode cX5_begin 28 = .ok (.iconst 0, 1) := by decide +kernel
theorem dX5_begin_29 : decode cX5_begin 29 = .ok (.iastore, 1) := by decide +kernel
theorem dX5_begin_30 : decode cX5_begin 30 = .ok (.iinc 3 1, 3) := by decide +kernel
theorem dX5_begin_33 : decode cX5_begin 33 = .ok (.goto (-16), 3) := by decide +kernel
theorem dX5_begin_36 : decode cX5_begin 36 = .ok (.return_, 1) := by decide +kernel
theorem dX5_holds_0 : decode cX5_holds 0 = .ok (.iload_n 2, 1) := by decide +kernel
theorem dX5_holds_1 : decode cX5_holds 1 = .ok (.ifCond .lt 21, 3) := by decide +kernel
theorem dX5_holds_4 : decode cX5_holds 4 = .ok (.iload_n 1, 1) := by decide +kernel
theorem dX5_holds_5 : decode cX5_holds 5 = .ok (.ifCond .lt 17, 3) := by decide +kernel
theorem dX5_holds_8 : decode cX5_holds 8 = .ok (.iload_n 1, 1) := by decide +kernel
theorem dX5_holds_9 : decode cX5_holds 9 = .ok (.aload_n 0, 1) := by decide +kernel
theorem dX5_holds_10 : decode cX5_holds 10 = .ok (.getfield 23, 3) := by decide +kernel
theorem dX5_holds_13 : decode cX5_holds 13 = .ok (.iload_n 2, 1) := by decide +kernel
theorem dX5_holds_14 : decode cX5_holds 14 = .ok (.isub, 1) := by decide +kernel
theorem dX5_holds_15 : decode cX5_holds 15 = .ok (.if_icmp .gt 7, 3) := by decide +kernel
theorem dX5_holds_18 : decode cX5_holds 18 = .ok (.iconst 1, 1) := by decide +kernel
theorem dX5_holds_19 : decode cX5_holds 19 = .ok (.goto 4, 3) := by decide +kernel
theorem dX5_holds_22 : decode cX5_holds 22 = .ok (.iconst 0, 1) := by decide +kernel
theorem dX5_holds_23 : decode cX5_holds 23 = .ok (.ireturn, 1) := by decide +kernel
theorem dX5_put_0 : decode cX5_put 0 = .ok (.aload_n 0, 1) := by decide +kernel
theorem dX5_put_1 : decode cX5_put 1 = .ok (.getfield 9, 3) := by decide +kernel
theorem dX5_put_4 : decode cX5_put 4 = .ok (.iload_n 1, 1) := by decide +kernel
theorem dX5_put_5 : decode cX5_put 5 = .ok (.aload_n 0, 1) := by decide +kernel
theorem dX5_put_6 : decode cX5_put 6 = .ok (.getfield 19, 3) := by decide +kernel
theorem dX5_put_9 : decode cX5_put 9 = .ok (.ifCond .ne 8, 3) := by decide +kernel
theorem dX5_put_12 : decode cX5_put 12 = .ok (.iload_n 2, 1) := by decide +kernel
theorem dX5_put_13 : decode cX5_put 13 = .ok (.i2b, 1) := by decide +kernel
theorem dX5_put_14 : decode cX5_put 14 = .ok (.goto 17, 3) := by decide +kernel
theorem dX5_put_17 : decode cX5_put 17 = .ok (.aload_n 0, 1) := by decide +kernel
theorem dX5_put_18 : decode cX5_put 18 = .ok (.getfield 19, 3) := by decide +kernel
theorem dX5_put_21 : decode cX5_put 21 = .ok (.iconst 1, 1) := by decide +kernel
theorem dX5_put_22 : decode cX5_put 22 = .ok (.if_icmp .ne 8, 3) := by decide +kernel
theorem dX5_put_25 : decode cX5_put 25 = .ok (.iload_n 2, 1) := by decide +kernel
theorem dX5_put_26 : decode cX5_put 26 = .ok (.i2s, 1) := by decide +kernel
theorem dX5_put_27 : decode cX5_put 27 = .ok (.goto 4, 3) := by decide +kernel
theorem dX5_put_30 : decode cX5_put 30 = .ok (.iload_n 2, 1) := by decide +kernel
theorem dX5_put_31 : decode cX5_put 31 = .ok (.iastore, 1) := by decide +kernel
theorem dX5_put_32 : decode cX5_put 32 = .ok (.aload_n 0, 1) := by decide +kernel
theorem dX5_put_33 : decode cX5_put 33 = .ok (.getfield 9, 3) := by decide +kernel
theorem dX5_put_36 : decode cX5_put 36 = .ok (.iload_n 1, 1) := by decide +kernel
theorem dX5_put_37 : decode cX5_put 37 = .ok (.iaload, 1) := by decide +kernel
theorem dX5_put_38 : decode cX5_put 38 = .ok (.ireturn, 1) := by decide +kernel
theorem dX5_allWithin_0 : decode cX5_allWithin 0 = .ok (.iload_n 1, 1) := by decide +kernel
theorem dX5_allWithin_1 : decode cX5_allWithin 1 = .ok (.istore 5, 2) := by decide +kernel
theorem dX5_allWithin_3 : decode cX5_allWithin 3 = .ok (.iload 5, 2) := by decide +kernel
theorem dX5_allWithin_5 : decode cX5_allWithin 5 = .ok (.iload_n 1, 1) := by decide +kernel
theorem dX5_allWithin_6 : decode cX5_allWithin 6 = .ok (.iload_n 2, 1) := by decide +kernel
theorem dX5_allWithin_7 : decode cX5_allWithin 7 = .ok (.iadd, 1) := by decide +kernel
theorem dX5_allWithin_8 : decode cX5_allWithin 8 = .ok (.if_icmp .ge 34, 3) := by decide +kernel
theorem dX5_allWithin_11 : decode cX5_allWithin 11 = .ok (.aload_n 0, 1) := by decide +kernel
theorem dX5_allWithin_12 : decode cX5_allWithin 12 = .ok (.getfield 9, 3) := by decide +kernel
theorem dX5_allWithin_15 : decode cX5_allWithin 15 = .ok (.iload 5, 2) := by decide +kernel
theorem dX5_allWithin_17 : decode cX5_allWithin 17 = .ok (.iaload, 1) := by decide +kernel
theorem dX5_allWithin_18 : decode cX5_allWithin 18 = .ok (.iload_n 3, 1) := by decide +kernel
theorem dX5_allWithin_19 : decode cX5_allWithin 19 = .ok (.if_icmp .lt 15, 3) := by decide +kernel
theorem dX5_allWithin_22 : decode cX5_allWithin 22 = .ok (.aload_n 0, 1) := by decide +kernel
theorem dX5_allWithin_23 : decode cX5_allWithin 23 = .ok (.getfield 9, 3) := by decide +kernel
theorem dX5_allWithin_26 : decode cX5_allWithin 26 = .ok (.iload 5, 2) := by decide +kernel
theorem dX5_allWithin_28 : decode cX5_allWithin 28 = .ok (.iaload, 1) := by decide +kernel
theorem dX5_allWithin_29 : decode cX5_allWithin 29 = .ok (.iload 4, 2) := by decide +kernel
theorem dX5_allWithin_31 : decode cX5_allWithin 31 = .ok (.if_icmp .le 5, 3) := by decide +kernel
theorem dX5_allWithin_34 : decode cX5_allWithin 34 = .ok (.iconst 0, 1) := by decide +kernel
theorem dX5_allWithin_35 : decode cX5_allWithin 35 = .ok (.ireturn, 1) := by decide +kernel
theorem dX5_allWithin_36 : decode cX5_allWithin 36 = .ok (.iinc 5 1, 3) := by decide +kernel
theorem dX5_allWithin_39 : decode cX5_allWithin 39 = .ok (.goto (-36), 3) := by decide +kernel
theorem dX5_allWithin_42 : decode cX5_allWithin 42 = .ok (.iconst 1, 1) := by decide +kernel
theorem dX5_allWithin_43 : decode cX5_allWithin 43 = .ok (.ireturn, 1) := by decide +kernel
theorem dX6_init_0 : decode cX6_init 0 = .ok (.aload_n 0, 1) := by decide +kernel
theorem dX6_init_1 : decode cX6_init 1 = .ok (.invokespecial 3, 3) := by decide +kernel
theorem dX6_init_4 : decode cX6_init 4 = .ok (.aload_n 0, 1) := by decide +kernel
theorem dX6_init_5 : decode cX6_init 5 = .ok (.iconst 5, 1) := by decide +kernel
theorem dX6_init_6 : decode cX6_init 6 = .ok (.newarray .int, 2) := by decide +kernel
theorem dX6_init_8 : decode cX6_init 8 = .ok (.putfield 9, 3) := by decide +kernel
theorem dX6_init_11 : decode cX6_init 11 = .ok (.aload_n 0, 1) := by decide +kernel
theorem dX6_init_12 : decode cX6_init 12 = .ok (.iconst 5, 1) := by decide +kernel
theorem dX6_init_13 : decode cX6_init 13 = .ok (.newarray .int, 2) := by decide +kernel
theorem dX6_init_15 : decode cX6_init 15 = .ok (.putfield 15, 3) := by decide +kernel
theorem dX6_init_18 : decode cX6_init 18 = .ok (.aload_n 0, 1) := by decide +kernel
theorem dX6_init_19 : decode cX6_init 19 = .ok (.bipush 6, 2) := by decide +kernel
theorem dX6_init_21 : decode cX6_init 21 = .ok (.newarray .int, 2) := by decide +kernel
theorem dX6_init_23 : decode cX6_init 23 = .ok (.putfield 18, 3) := by decide +kernel
theorem dX6_init_26 : decode cX6_init 26 = .ok (.aload_n 0, 1) := by decide +kernel
theorem dX6_init_27 : decode cX6_init 27 = .ok (.aload_n 1, 1) := by decide +kernel
theorem dX6_init_28 : decode cX6_init 28 = .ok (.putfield 21, 3) := by decide +kernel
theorem dX6_init_31 : decode cX6_init 31 = .ok (.return_, 1) := by decide +kernel
theorem dX6_takeFrom_0 : decode cX6_takeFrom 0 = .ok (.aload_n 0, 1) := by decide +kernel
theorem dX6_takeFrom_1 : decode cX6_takeFrom 1 = .ok (.aload_n 1, 1) := by decide +kernel
theorem dX6_takeFrom_2 : decode cX6_takeFrom 2 = .ok (.getfield 25, 3) := by decide +kernel
theorem dX6_takeFrom_5 : decode cX6_takeFrom 5 = .ok (.putfield 25, 3) := by decide +kernel
theorem dX6_takeFrom_8 : decode cX6_takeFrom 8 = .ok (.aload_n 0, 1) := by decide +kernel
theorem dX6_takeFrom_9 : decode cX6_takeFrom 9 = .ok (.aload_n 1, 1) := by decide +kernel
theorem dX6_takeFrom_10 : decode cX6_takeFrom 10 = .ok (.getfield 29, 3) := by decide +kernel
theorem dX6_takeFrom_13 : decode cX6_takeFrom 13 = .ok (.putfield 29, 3) := by decide +kernel
theorem dX6_takeFrom_16 : decode cX6_takeFrom 16 = .ok (.aload_n 0, 1) := by decide +kernel
theorem dX6_takeFrom_17 : decode cX6_takeFrom 17 = .ok (.aload_n 1, 1) := by decide +kernel
theorem dX6_takeFrom_18 : decode cX6_takeFrom 18 = .ok (.getfield 32, 3) := by decide +kernel
theorem dX6_takeFrom_21 : decode cX6_takeFrom 21 = .ok (.putfield 32, 3) := by decide +kernel
theorem dX6_takeFrom_24 : decode cX6_takeFrom 24 = .ok (.aload_n 0, 1) := by decide +kernel
theorem dX6_takeFrom_25 : decode cX6_takeFrom 25 = .ok (.aload_n 1, 1) := by decide +kernel
theorem dX6_takeFrom_26 : decode cX6_takeFrom 26 = .ok (.getfield 35, 3) := by decide +kernel
theorem dX6_takeFrom_29 : decode cX6_takeFrom 29 = .ok (.putfield 35, 3) := by decide +kernel
theorem dX6_takeFrom_32 : decode cX6_takeFrom 32 = .ok (.aload_n 0, 1) := by decide +kernel
theorem dX6_takeFrom_33 : decode cX6_takeFrom 33 = .ok (.aload_n 1, 1) := by decide +kernel
theorem dX6_takeFrom_34 : decode cX6_takeFrom 34 = .ok (.getfield 38, 3) := by decide +kernel
theorem dX6_takeFrom_37 : decode cX6_takeFrom 37 = .ok (.putfield 38, 3) := by decide +kernel
theorem dX6_takeFrom_40 : decode cX6_takeFrom 40 = .ok (.aload_n 1, 1) := by decide +kernel
theorem dX6_takeFrom_41 : decode cX6_takeFrom 41 = .ok (.getfield 9, 3) := by decide +kernel
theorem dX6_takeFrom_44 : decode cX6_takeFrom 44 = .ok (.iconst 0, 1) := by decide +kernel
theorem dX6_takeFrom_45 : decode cX6_takeFrom 45 = .ok (.aload_n 0, 1) := by decide +kernel
theorem dX6_takeFrom_46 : decode cX6_takeFrom 46 = .ok (.getfield 9, 3) := by decide +kernel
theorem dX6_takeFrom_49 : decode cX6_takeFrom 49 = .ok (.iconst 0, 1) := by decide +kernel
theorem dX6_takeFrom_50 : decode cX6_takeFrom 50 = .ok (.iconst 5, 1) := by decide +kernel
theorem dX6_takeFrom_51 : decode cX6_takeFrom 51 = .ok (.invokestatic 41, 3) := by decide +kernel
theorem dX6_takeFrom_54 : decode cX6_takeFrom 54 = .ok (.aload_n 1, 1) := by decide +kernel
theorem dX6_takeFrom_55 : decode cX6_takeFrom 55 = .ok (.getfield 15, 3) := by decide +kernel
theorem dX6_takeFrom_58 : decode cX6_takeFrom 58 = .ok (.iconst 0, 1) := by decide +kernel
theorem dX6_takeFrom_59 : decode cX6_takeFrom 59 = .ok (.aload_n 0, 1) := by decide +kernel
theorem dX6_takeFrom_60 : decode cX6_takeFrom 60 = .ok (.getfield 15, 3) := by decide +kernel
theorem dX6_takeFrom_63 : decode cX6_takeFrom 63 = .ok (.iconst 0, 1) := by decide +kernel
theorem dX6_takeFrom_64 : decode cX6_takeFrom 64 = .ok (.iconst 5, 1) := by decide +kernel
theorem dX6_takeFrom_65 : decode cX6_takeFrom 65 = .ok (.invokestatic 41, 3) := by decide +kernel
theorem dX6_takeFrom_68 : decode cX6_takeFrom 68 = .ok (.aload_n 1, 1) := by decide +kernel
theorem dX6_takeFrom_69 : decode cX6_takeFrom 69 = .ok (.getfield 18, 3) := by decide +kernel
theorem dX6_takeFrom_72 : decode cX6_takeFrom 72 = .ok (.iconst 0, 1) := by decide +kernel
theorem dX6_takeFrom_73 : decode cX6_takeFrom 73 = .ok (.aload_n 0, 1) := by decide +kernel
theorem dX6_takeFrom_74 : decode cX6_takeFrom 74 = .ok (.getfield 18, 3) := by decide +kernel
theorem dX6_takeFrom_77 : decode cX6_takeFrom 77 = .ok (.iconst 0, 1) := by decide +kernel
theorem dX6_takeFrom_78 : decode cX6_takeFrom 78 = .ok (.bipush 6, 2) := by decide +kernel
theorem dX6_takeFrom_80 : decode cX6_takeFrom 80 = .ok (.invokestatic 41, 3) := by decide +kernel
theorem dX6_takeFrom_83 : decode cX6_takeFrom 83 = .ok (.return_, 1) := by decide +kernel
theorem dX6_isSaid_0 : decode cX6_isSaid 0 = .ok (.aload_n 0, 1) := by decide +kernel
theorem dX6_isSaid_1 : decode cX6_isSaid 1 = .ok (.getfield 38, 3) := by decide +kernel
theorem dX6_isSaid_4 : decode cX6_isSaid 4 = .ok (.iload_n 1, 1) := by decide +kernel
theorem dX6_isSaid_5 : decode cX6_isSaid 5 = .ok (.ishr, 1) := by decide +kernel
theorem dX6_isSaid_6 : decode cX6_isSaid 6 = .ok (.iconst 1, 1) := by decide +kernel
theorem dX6_isSaid_7 : decode cX6_isSaid 7 = .ok (.iand, 1) := by decide +kernel
theorem dX6_isSaid_8 : decode cX6_isSaid 8 = .ok (.iconst 1, 1) := by decide +kernel
theorem dX6_isSaid_9 : decode cX6_isSaid 9 = .ok (.if_icmp .ne 7, 3) := by decide +kernel
theorem dX6_isSaid_12 : decode cX6_isSaid 12 = .ok (.iconst 1, 1) := by decide +kernel
theorem dX6_isSaid_13 : decode cX6_isSaid 13 = .ok (.goto 4, 3) := by decide +kernel
theorem dX6_isSaid_16 : decode cX6_isSaid 16 = .ok (.iconst 0, 1) := by decide +kernel
theorem dX6_isSaid_17 : decode cX6_isSaid 17 = .ok (.ireturn, 1) := by decide +kernel
theorem dX6_wordsOfLeft_0 : decode cX6_wordsOfLeft 0 = .ok (.iconst 0, 1) := by decide +kernel
theorem dX6_wordsOfLeft_1 : decode cX6_wordsOfLeft 1 = .ok (.aload_n 0, 1) := by decide +kernel
theorem dX6_wordsOfLeft_2 : decode cX6_wordsOfLeft 2 = .ok (.getfield 21, 3) := by decide +kernel
theorem dX6_wordsOfLeft_5 : decode cX6_wordsOfLeft 5 = .ok (.iload_n 1, 1) := by decide +kernel
theorem dX6_wordsOfLeft_6 : decode cX6_wordsOfLeft 6 = .ok (.invokevirtual 47, 3) := by decide +kernel
theorem dX6_wordsOfLeft_9 : decode cX6_wordsOfLeft 9 = .ok (.aload_n 0, 1) := by decide +kernel
theorem dX6_wordsOfLeft_10 : decode cX6_wordsOfLeft 10 = .ok (.getfield 15, 3) := by decide +kernel
theorem dX6_wordsOfLeft_13 : decode cX6_wordsOfLeft 13 = .ok (.aload_n 0, 1) := by decide +kernel
theorem dX6_wordsOfLeft_14 : decode cX6_wordsOfLeft 14 = .ok (.getfield 21, 3) := by decide +kernel
theorem dX6_wordsOfLeft_17 : decode cX6_wordsOfLeft 17 = .ok (.getfield 53, 3) := by decide +kernel
theorem dX6_wordsOfLeft_20 : decode cX6_wordsOfLeft 20 = .ok (.iload_n 1, 1) := by decide +kernel
theorem dX6_wordsOfLeft_21 : decode cX6_wordsOfLeft 21 = .ok (.iaload, 1) := by decide +kernel
theorem dX6_wordsOfLeft_22 : decode cX6_wordsOfLeft 22 = .ok (.iaload, 1) := by decide +kernel
theorem dX6_wordsOfLeft_23 : decode cX6_wordsOfLeft 23 = .ok (.isub, 1) := by decide +kernel
theorem dX6_wordsOfLeft_24 : decode cX6_wordsOfLeft 24 = .ok (.invokestatic 56, 3) := by decide +kernel
theorem dX6_wordsOfLeft_27 : decode cX6_wordsOfLeft 27 = .ok (.ireturn, 1) := by decide +kernel
theorem dX6_crowns_0 : decode cX6_crowns 0 = .ok (.aload_n 0, 1) := by decide +kernel
theorem dX6_crowns_1 : decode cX6_crowns 1 = .ok (.getfield 21, 3) := by decide +kernel
theorem dX6_crowns_4 : decode cX6_crowns 4 = .ok (.getfield 62, 3) := by decide +kernel
theorem dX6_crowns_7 : decode cX6_crowns 7 = .ok (.iload_n 1, 1) := by decide +kernel
theorem dX6_crowns_8 : decode cX6_crowns 8 = .ok (.iaload, 1) := by decide +kernel
theorem dX6_crowns_9 : decode cX6_crowns 9 = .ok (.lookupswitch 41 #[(4, 27), (5, 29)], 27) := by decide +kernel
theorem dX6_crowns_36 : decode cX6_crowns 36 = .ok (.iconst 1, 1) := by decide +kernel
theorem dX6_crowns_37 : decode cX6_crowns 37 = .ok (.ireturn, 1) := by decide +kernel
theorem dX6_crowns_38 : decode cX6_crowns 38 = .ok (.iconst 1, 1) := by decide +kernel
theorem dX6_crowns_39 : decode cX6_crowns 39 = .ok (.aload_n 0, 1) := by decide +kernel
theorem dX6_crowns_40 : decode cX6_crowns 40 = .ok (.getfield 21, 3) := by decide +kernel
theorem dX6_crowns_43 : decode cX6_crowns 43 = .ok (.getfield 65, 3) := by decide +kernel
theorem dX6_crowns_46 : decode cX6_crowns 46 = .ok (.iload_n 1, 1) := by decide +kernel
theorem dX6_crowns_47 : decode cX6_crowns 47 = .ok (.iaload, 1) := by decide +kernel
theorem dX6_crowns_48 : decode cX6_crowns 48 = .ok (.iadd, 1) := by decide +kernel
theorem dX6_crowns_49 : decode cX6_crowns 49 = .ok (.ireturn, 1) := by decide +kernel
theorem dX6_crowns_50 : decode cX6_crowns 50 = .ok (.aload_n 0, 1) := by decide +kernel
theorem dX6_crowns_51 : decode cX6_crowns 51 = .ok (.iload_n 1, 1) := by decide +kernel
theorem dX6_crowns_52 : decode cX6_crowns 52 = .ok (.invokevirtual 68, 3) := by decide +kernel
theorem dX6_crowns_55 : decode cX6_crowns 55 = .ok (.aload_n 0, 1) := by decide +kernel
theorem dX6_crowns_56 : decode cX6_crowns 56 = .ok (.getfield 35, 3) := by decide +kernel
theorem dX6_crowns_59 : decode cX6_crowns 59 = .ok (.imul, 1) := by decide +kernel
theorem dX6_crowns_60 : decode cX6_crowns 60 = .ok (.ireturn, 1) := by decide +kernel
theorem dX6_canSay_0 : decode cX6_canSay 0 = .ok (.aload_n 0, 1) := by decide +kernel
theorem dX6_canSay_1 : decode cX6_canSay 1 = .ok (.iload_n 1, 1) := by decide +kernel
theorem dX6_canSay_2 : decode cX6_canSay 2 = .ok (.invokevirtual 71, 3) := by decide +kernel
theorem dX6_canSay_5 : decode cX6_canSay 5 = .ok (.ifCond .ne 41, 3) := by decide +kernel
theorem dX6_canSay_8 : decode cX6_canSay 8 = .ok (.aload_n 0, 1) := by decide +kernel
theorem dX6_canSay_9 : decode cX6_canSay 9 = .ok (.getfield 29, 3) := by decide +kernel
theorem dX6_canSay_12 : decode cX6_canSay 12 = .ok (.aload_n 0, 1) := by decide +kernel
theorem dX6_canSay_13 : decode cX6_canSay 13 = .ok (.iload_n 1, 1) := by decide +kernel
theorem dX6_canSay_14 : decode cX6_canSay 14 = .ok (.invokevirtual 68, 3) := by decide +kernel
theorem dX6_canSay_17 : decode cX6_canSay 17 = .ok (.if_icmp .lt 29, 3) := by decide +kernel
theorem dX6_canSay_20 : decode cX6_canSay 20 = .ok (.aload_n 0, 1) := by decide +kernel
theorem dX6_canSay_21 : decode cX6_canSay 21 = .ok (.getfield 9, 3) := by decide +kernel
theorem dX6_canSay_24 : decode cX6_canSay 24 = .ok (.aload_n 0, 1) := by decide +kernel
theorem dX6_canSay_25 : decode cX6_canSay 25 = .ok (.getfield 21, 3) := by decide +kernel
theorem dX6_canSay_28 : decode cX6_canSay 28 = .ok (.getfield 53, 3) := by decide +kernel
theorem dX6_canSay_31 : decode cX6_canSay 31 = .ok (.iload_n 1, 1) := by decide +kernel
theorem dX6_canSay_32 : decode cX6_canSay 32 = .ok (.iaload, 1) := by decide +kernel
theorem dX6_canSay_33 : decode cX6_canSay 33 = .ok (.iaload, 1) := by decide +kernel
theorem dX6_canSay_34 : decode cX6_canSay 34 = .ok (.aload_n 0, 1) := by decide +kernel
theorem dX6_canSay_35 : decode cX6_canSay 35 = .ok (.iload_n 1, 1) := by decide +kernel
theorem dX6_canSay_36 : decode cX6_canSay 36 = .ok (.invokevirtual 75, 3) := by decide +kernel
theorem dX6_canSay_39 : decode cX6_canSay 39 = .ok (.if_icmp .lt 7, 3) := by decide +kernel
theorem dX6_canSay_42 : decode cX6_canSay 42 = .ok (.iconst 1, 1) := by decide +kernel
theorem dX6_canSay_43 : decode cX6_canSay 43 = .ok (.goto 4, 3) := by decide +kernel
theorem dX6_canSay_46 : decode cX6_canSay 46 = .ok (.iconst 0, 1) := by decide +kernel
theorem dX6_canSay_47 : decode cX6_canSay 47 = .ok (.ireturn, 1) := by decide +kernel
theorem dX6_speak_0 : decode cX6_speak 0 = .ok (.aload_n 0, 1) := by decide +kernel
theorem dX6_speak_1 : decode cX6_speak 1 = .ok (.getfield 21, 3) := by decide +kernel
theorem dX6_speak_4 : decode cX6_speak 4 = .ok (.getfield 53, 3) := by decide +kernel
theorem dX6_speak_7 : decode cX6_speak 7 = .ok (.iload_n 1, 1) := by decide +kernel
theorem dX6_speak_8 : decode cX6_speak 8 = .ok (.iaload, 1) := by decide +kernel
theorem dX6_speak_9 : decode cX6_speak 9 = .ok (.istore_n 2, 1) := by decide +kernel
theorem dX6_speak_10 : decode cX6_speak 10 = .ok (.aload_n 0, 1) := by decide +kernel
theorem dX6_speak_11 : decode cX6_speak 11 = .ok (.iload_n 1, 1) := by decide +kernel
theorem dX6_speak_12 : decode cX6_speak 12 = .ok (.invokevirtual 68, 3) := by decide +kernel
theorem dX6_speak_15 : decode cX6_speak 15 = .ok (.istore_n 3, 1) := by decide +kernel
theorem dX6_speak_16 : decode cX6_speak 16 = .ok (.aload_n 0, 1) := by decide +kernel
theorem dX6_speak_17 : decode cX6_speak 17 = .ok (.getfield 9, 3) := by decide +kernel
theorem dX6_speak_20 : decode cX6_speak 20 = .ok (.iload_n 2, 1) := by decide +kernel
theorem dX6_speak_21 : decode cX6_speak 21 = .ok (.dup2, 1) := by decide +kernel
theorem dX6_speak_22 : decode cX6_speak 22 = .ok (.iaload, 1) := by decide +kernel
theorem dX6_speak_23 : decode cX6_speak 23 = .ok (.aload_n 0, 1) := by decide +kernel
theorem dX6_speak_24 : decode cX6_speak 24 = .ok (.iload_n 1, 1) := by decide +kernel
theorem dX6_speak_25 : decode cX6_speak 25 = .ok (.invokevirtual 75, 3) := by decide +kernel
theorem dX6_speak_28 : decode cX6_speak 28 = .ok (.isub, 1) := by decide +kernel
theorem dX6_speak_29 : decode cX6_speak 29 = .ok (.iastore, 1) := by decide +kernel
theorem dX6_speak_30 : decode cX6_speak 30 = .ok (.aload_n 0, 1) := by decide +kernel
theorem dX6_speak_31 : decode cX6_speak 31 = .ok (.getfield 15, 3) := by decide +kernel
theorem dX6_speak_34 : decode cX6_speak 34 = .ok (.iload_n 2, 1) := by decide +kernel
theorem dX6_speak_35 : decode cX6_speak 35 = .ok (.dup2, 1) := by decide +kernel
theorem dX6_speak_36 : decode cX6_speak 36 = .ok (.iaload, 1) := by decide +kernel
theorem dX6_speak_37 : decode cX6_speak 37 = .ok (.aload_n 0, 1) := by decide +kernel
theorem dX6_speak_38 : decode cX6_speak 38 = .ok (.getfield 21, 3) := by decide +kernel
theorem dX6_speak_41 : decode cX6_speak 41 = .ok (.iload_n 1, 1) := by decide +kernel
theorem dX6_speak_42 : decode cX6_speak 42 = .ok (.invokevirtual 47, 3) := by decide +kernel
theorem dX6_speak_45 : decode cX6_speak 45 = .ok (.iload_n 3, 1) := by decide +kernel
theorem dX6_speak_46 : decode cX6_speak 46 = .ok (.isub, 1) := by decide +kernel
theorem dX6_speak_47 : decode cX6_speak 47 = .ok (.isub, 1) := by decide +kernel
theorem dX6_speak_48 : decode cX6_speak 48 = .ok (.iastore, 1) := by decide +kernel
theorem dX6_speak_49 : decode cX6_speak 49 = .ok (.aload_n 0, 1) := by decide +kernel
theorem dX6_speak_50 : decode cX6_speak 50 = .ok (.dup, 1) := by decide +kernel
theorem dX6_speak_51 : decode cX6_speak 51 = .ok (.getfield 29, 3) := by decide +kernel
theorem dX6_speak_54 : decode cX6_speak 54 = .ok (.iload_n 3, 1) := by decide +kernel
theorem dX6_speak_55 : decode cX6_speak 55 = .ok (.isub, 1) := by decide +kernel
theorem dX6_speak_56 : decode cX6_speak 56 = .ok (.putfield 29, 3) := by decide +kernel
theorem dX6_speak_59 : decode cX6_speak 59 = .ok (.aload_n 0, 1) := by decide +kernel
theorem dX6_speak_60 : decode cX6_speak 60 = .ok (.dup, 1) := by decide +kernel
theorem dX6_speak_61 : decode cX6_speak 61 = .ok (.getfield 38, 3) := by decide +kernel
theorem dX6_speak_64 : decode cX6_speak 64 = .ok (.iconst 1, 1) := by decide +kernel
theorem dX6_speak_65 : decode cX6_speak 65 = .ok (.iload_n 1, 1) := by decide +kernel
theorem dX6_speak_66 : decode cX6_speak 66 = .ok (.ishl, 1) := by decide +kernel
theorem dX6_speak_67 : decode cX6_speak 67 = .ok (.ior, 1) := by decide +kernel
theorem dX6_speak_68 : decode cX6_speak 68 = .ok (.putfield 38, 3) := by decide +kernel
theorem dX6_speak_71 : decode cX6_speak 71 = .ok (.aload_n 0, 1) := by decide +kernel
theorem dX6_speak_72 : decode cX6_speak 72 = .ok (.getfield 18, 3) := by decide +kernel
theorem dX6_speak_75 : decode cX6_speak 75 = .ok (.iload_n 1, 1) := by decide +kernel
theorem dX6_speak_76 : decode cX6_speak 76 = .ok (.aload_n 0, 1) := by decide +kernel
theorem dX6_speak_77 : decode cX6_speak 77 = .ok (.getfield 21, 3) := by decide +kernel
theorem dX6_speak_80 : decode cX6_speak 80 = .ok (.aload_n 0, 1) := by decide +kernel
theorem dX6_speak_81 : decode cX6_speak 81 = .ok (.getfield 21, 3) := by decide +kernel
theorem dX6_speak_84 : decode cX6_speak 84 = .ok (.getfield 62, 3) := by decide +kernel
theorem dX6_speak_87 : decode cX6_speak 87 = .ok (.iload_n 1, 1) := by decide +kernel
theorem dX6_speak_88 : decode cX6_speak 88 = .ok (.iaload, 1) := by decide +kernel
theorem dX6_speak_89 : decode cX6_speak 89 = .ok (.iload_n 2, 1) := by decide +kernel
theorem dX6_speak_90 : decode cX6_speak 90 = .ok (.iconst 0, 1) := by decide +kernel
theorem dX6_speak_91 : decode cX6_speak 91 = .ok (.invokevirtual 78, 3) := by decide +kernel
theorem dX6_speak_94 : decode cX6_speak 94 = .ok (.iastore, 1) := by decide +kernel
theorem dX6_speak_95 : decode cX6_speak 95 = .ok (.iload_n 3, 1) := by decide +kernel
theorem dX6_speak_96 : decode cX6_speak 96 = .ok (.ireturn, 1) := by decide +kernel
theorem dX6_canBank_0 : decode cX6_canBank 0 = .ok (.iload_n 2, 1) := by decide +kernel
theorem dX6_canBank_1 : decode cX6_canBank 1 = .ok (.aload_n 0, 1) := by decide +kernel
theorem dX6_canBank_2 : decode cX6_canBank 2 = .ok (.getfield 29, 3) := by decide +kernel
theorem dX6_canBank_5 : decode cX6_canBank 5 = .ok (.if_icmp .gt 35, 3) := by decide +kernel
theorem dX6_canBank_8 : decode cX6_canBank 8 = .ok (.iload_n 2, 1) := by decide +kernel
theorem dX6_canBank_9 : decode cX6_canBank 9 = .ok (.aload_n 0, 1) := by decide +kernel
theorem dX6_canBank_10 : decode cX6_canBank 10 = .ok (.getfield 35, 3) := by decide +kernel
theorem dX6_canBank_13 : decode cX6_canBank 13 = .ok (.imul, 1) := by decide +kernel
theorem dX6_canBank_14 : decode cX6_canBank 14 = .ok (.aload_n 0, 1) := by decide +kernel
theorem dX6_canBank_15 : decode cX6_canBank 15 = .ok (.getfield 9, 3) := by decide +kernel
theorem dX6_canBank_18 : decode cX6_canBank 18 = .ok (.iload_n 1, 1) := by decide +kernel
theorem dX6_canBank_19 : decode cX6_canBank 19 = .ok (.iaload, 1) := by decide +kernel
theorem dX6_canBank_20 : decode cX6_canBank 20 = .ok (.if_icmp .gt 20, 3) := by decide +kernel
theorem dX6_canBank_23 : decode cX6_canBank 23 = .ok (.aload_n 0, 1) := by decide +kernel
theorem dX6_canBank_24 : decode cX6_canBank 24 = .ok (.getfield 15, 3) := by decide +kernel
theorem dX6_canBank_27 : decode cX6_canBank 27 = .ok (.iload_n 1, 1) := by decide +kernel
theorem dX6_canBank_28 : decode cX6_canBank 28 = .ok (.iaload, 1) := by decide +kernel
theorem dX6_canBank_29 : decode cX6_canBank 29 = .ok (.iload_n 2, 1) := by decide +kernel
theorem dX6_canBank_30 : decode cX6_canBank 30 = .ok (.iadd, 1) := by decide +kernel
theorem dX6_canBank_31 : decode cX6_canBank 31 = .ok (.bipush 99, 2) := by decide +kernel
theorem dX6_canBank_33 : decode cX6_canBank 33 = .ok (.if_icmp .gt 7, 3) := by decide +kernel
theorem dX6_canBank_36 : decode cX6_canBank 36 = .ok (.iconst 1, 1) := by decide +kernel
theorem dX6_canBank_37 : decode cX6_canBank 37 = .ok (.goto 4, 3) := by decide +kernel
theorem dX6_canBank_40 : decode cX6_canBank 40 = .ok (.iconst 0, 1) := by decide +kernel
theorem dX6_canBank_41 : decode cX6_canBank 41 = .ok (.ireturn, 1) := by decide +kernel
theorem dX6_bank_0 : decode cX6_bank 0 = .ok (.aload_n 0, 1) := by decide +kernel
theorem dX6_bank_1 : decode cX6_bank 1 = .ok (.dup, 1) := by decide +kernel
theorem dX6_bank_2 : decode cX6_bank 2 = .ok (.getfield 29, 3) := by decide +kernel
theorem dX6_bank_5 : decode cX6_bank 5 = .ok (.iload_n 2, 1) := by decide +kernel
theorem dX6_bank_6 : decode cX6_bank 6 = .ok (.isub, 1) := by decide +kernel
theorem dX6_bank_7 : decode cX6_bank 7 = .ok (.putfield 29, 3) := by decide +kernel
theorem dX6_bank_10 : decode cX6_bank 10 = .ok (.aload_n 0, 1) := by decide +kernel
theorem dX6_bank_11 : decode cX6_bank 11 = .ok (.getfield 9, 3) := by decide +kernel
theorem dX6_bank_14 : decode cX6_bank 14 = .ok (.iload_n 1, 1) := by decide +kernel
theorem dX6_bank_15 : decode cX6_bank 15 = .ok (.dup2, 1) := by decide +kernel
theorem dX6_bank_16 : decode cX6_bank 16 = .ok (.iaload, 1) := by decide +kernel
theorem dX6_bank_17 : decode cX6_bank 17 = .ok (.iload_n 2, 1) := by decide +kernel
theorem dX6_bank_18 : decode cX6_bank 18 = .ok (.aload_n 0, 1) := by decide +kernel
theorem dX6_bank_19 : decode cX6_bank 19 = .ok (.getfield 35, 3) := by decide +kernel
theorem dX6_bank_22 : decode cX6_bank 22 = .ok (.imul, 1) := by decide +kernel
theorem dX6_bank_23 : decode cX6_bank 23 = .ok (.isub, 1) := by decide +kernel
theorem dX6_bank_24 : decode cX6_bank 24 = .ok (.iastore, 1) := by decide +kernel
theorem dX6_bank_25 : decode cX6_bank 25 = .ok (.aload_n 0, 1) := by decide +kernel
theorem dX6_bank_26 : decode cX6_bank 26 = .ok (.getfield 15, 3) := by decide +kernel
theorem dX6_bank_29 : decode cX6_bank 29 = .ok (.iload_n 1, 1) := by decide +kernel
theorem dX6_bank_30 : decode cX6_bank 30 = .ok (.dup2, 1) := by decide +kernel
theorem dX6_bank_31 : decode cX6_bank 31 = .ok (.iaload, 1) := by decide +kernel
theorem dX6_bank_32 : decode cX6_bank 32 = .ok (.iload_n 2, 1) := by decide +kernel
theorem dX6_bank_33 : decode cX6_bank 33 = .ok (.iadd, 1) := by decide +kernel
theorem dX6_bank_34 : decode cX6_bank 34 = .ok (.iastore, 1) := by decide +kernel
theorem dX6_bank_35 : decode cX6_bank 35 = .ok (.aload_n 0, 1) := by decide +kernel
theorem dX6_bank_36 : decode cX6_bank 36 = .ok (.getfield 15, 3) := by decide +kernel
theorem dX6_bank_39 : decode cX6_bank 39 = .ok (.iload_n 1, 1) := by decide +kernel
theorem dX6_bank_40 : decode cX6_bank 40 = .ok (.iaload, 1) := by decide +kernel
theorem dX6_bank_41 : decode cX6_bank 41 = .ok (.ireturn, 1) := by decide +kernel
theorem dX6_purseAhead_0 : decode cX6_purseAhead 0 = .ok (.bipush 99, 2) := by decide +kernel
theorem dX6_purseAhead_2 : decode cX6_purseAhead 2 = .ok (.aload_n 0, 1) := by decide +kernel
theorem dX6_purseAhead_3 : decode cX6_purseAhead 3 = .ok (.getfield 9, 3) := by decide +kernel
theorem dX6_purseAhead_6 : decode cX6_purseAhead 6 = .ok (.iload_n 1, 1) := by decide +kernel
theorem dX6_purseAhead_7 : decode cX6_purseAhead 7 = .ok (.iaload, 1) := by decide +kernel
theorem dX6_purseAhead_8 : decode cX6_purseAhead 8 = .ok (.iload_n 2, 1) := by decide +kernel
theorem dX6_purseAhead_9 : decode cX6_purseAhead 9 = .ok (.aload_n 0, 1) := by decide +kernel
theorem dX6_purseAhead_10 : decode cX6_purseAhead 10 = .ok (.getfield 21, 3) := by decide +kernel
theorem dX6_purseAhead_13 : decode cX6_purseAhead 13 = .ok (.getfield 82, 3) := by decide +kernel
theorem dX6_purseAhead_16 : decode cX6_purseAhead 16 = .ok (.iload_n 1, 1) := by decide +kernel
theorem dX6_purseAhead_17 : decode cX6_purseAhead 17 = .ok (.iaload, 1) := by decide +kernel
theorem dX6_purseAhead_18 : decode cX6_purseAhead 18 = .ok (.imul, 1) := by decide +kernel
theorem dX6_purseAhead_19 : decode cX6_purseAhead 19 = .ok (.iadd, 1) := by decide +kernel
theorem dX6_purseAhead_20 : decode cX6_purseAhead 20 = .ok (.invokestatic 85, 3) := by decide +kernel
theorem dX6_purseAhead_23 : decode cX6_purseAhead 23 = .ok (.ireturn, 1) := by decide +kernel
theorem dX6_hillAhead_0 : decode cX6_hillAhead 0 = .ok (.iload_n 1, 1) := by decide +kernel
theorem dX6_hillAhead_1 : decode cX6_hillAhead 1 = .ok (.ifCond .ne 10, 3) := by decide +kernel
theorem dX6_hillAhead_4 : decode cX6_hillAhead 4 = .ok (.aload_n 0, 1) := by decide +kernel
theorem dX6_hillAhead_5 : decode cX6_hillAhead 5 = .ok (.getfield 32, 3) := by decide +kernel
theorem dX6_hillAhead_8 : decode cX6_hillAhead 8 = .ok (.goto 30, 3) := by decide +kernel
theorem dX6_hillAhead_11 : decode cX6_hillAhead 11 = .ok (.sipush 999, 3) := by decide +kernel
theorem dX6_hillAhead_14 : decode cX6_hillAhead 14 = .ok (.aload_n 0, 1) := by decide +kernel
theorem dX6_hillAhead_15 : decode cX6_hillAhead 15 = .ok (.getfield 32, 3) := by decide +kernel
theorem dX6_hillAhead_18 : decode cX6_hillAhead 18 = .ok (.aload_n 0, 1) := by decide +kernel
theorem dX6_hillAhead_19 : decode cX6_hillAhead 19 = .ok (.getfield 29, 3) := by decide +kernel
theorem dX6_hillAhead_22 : decode cX6_hillAhead 22 = .ok (.iadd, 1) := by decide +kernel
theorem dX6_hillAhead_23 : decode cX6_hillAhead 23 = .ok (.iload_n 1, 1) := by decide +kernel
theorem dX6_hillAhead_24 : decode cX6_hillAhead 24 = .ok (.iconst 1, 1) := by decide +kernel
theorem dX6_hillAhead_25 : decode cX6_hillAhead 25 = .ok (.isub, 1) := by decide +kernel
theorem dX6_hillAhead_26 : decode cX6_hillAhead 26 = .ok (.aload_n 0, 1) := by decide +kernel
theorem dX6_hillAhead_27 : decode cX6_hillAhead 27 = .ok (.getfield 21, 3) := by decide +kernel
theorem dX6_hillAhead_30 : decode cX6_hillAhead 30 = .ok (.getfield 88, 3) := by decide +kernel
theorem dX6_hillAhead_33 : decode cX6_hillAhead 33 = .ok (.imul, 1) := by decide +kernel
theorem dX6_hillAhead_34 : decode cX6_hillAhead 34 = .ok (.iadd, 1) := by decide +kernel
theorem dX6_hillAhead_35 : decode cX6_hillAhead 35 = .ok (.invokestatic 85, 3) := by decide +kernel
theorem dX6_hillAhead_38 : decode cX6_hillAhead 38 = .ok (.ireturn, 1) := by decide +kernel
theorem dX6_knownAhead_0 : decode cX6_knownAhead 0 = .ok (.aload_n 0, 1) := by decide +kernel
theorem dX6_knownAhead_1 : decode cX6_knownAhead 1 = .ok (.getfield 21, 3) := by decide +kernel
theorem dX6_knownAhead_4 : decode cX6_knownAhead 4 = .ok (.aload_n 0, 1) := by decide +kernel
theorem dX6_knownAhead_5 : decode cX6_knownAhead 5 = .ok (.getfield 21, 3) := by decide +kernel
theorem dX6_knownAhead_8 : decode cX6_knownAhead 8 = .ok (.getfield 62, 3) := by decide +kernel
theorem dX6_knownAhead_11 : decode cX6_knownAhead 11 = .ok (.iload_n 1, 1) := by decide +kernel
theorem dX6_knownAhead_12 : decode cX6_knownAhead 12 = .ok (.iaload, 1) := by decide +kernel
theorem dX6_knownAhead_13 : decode cX6_knownAhead 13 = .ok (.aload_n 0, 1) := by decide +kernel
theorem dX6_knownAhead_14 : decode cX6_knownAhead 14 = .ok (.getfield 18, 3) := by decide +kernel
theorem dX6_knownAhead_17 : decode cX6_knownAhead 17 = .ok (.iload_n 1, 1) := by decide +kernel
theorem dX6_knownAhead_18 : decode cX6_knownAhead 18 = .ok (.iaload, 1) := by decide +kernel
theorem dX6_knownAhead_19 : decode cX6_knownAhead 19 = .ok (.iconst 0, 1) := by decide +kernel
theorem dX6_knownAhead_20 : decode cX6_knownAhead 20 = .ok (.iload_n 2, 1) := by decide +kernel
theorem dX6_knownAhead_21 : decode cX6_knownAhead 21 = .ok (.invokevirtual 91, 3) := by decide +kernel
theorem dX6_knownAhead_24 : decode cX6_knownAhead 24 = .ok (.ireturn, 1) := by decide +kernel
theorem dX6_passWeeks_0 : decode cX6_passWeeks 0 = .ok (.iconst 0, 1) := by decide +kernel
theorem dX6_passWeeks_1 : decode cX6_passWeeks 1 = .ok (.istore_n 2, 1) := by decide +kernel
theorem dX6_passWeeks_2 : decode cX6_passWeeks 2 = .ok (.iload_n 2, 1) := by decide +kernel
theorem dX6_passWeeks_3 : decode cX6_passWeeks 3 = .ok (.aload_n 0, 1) := by decide +kernel
theorem dX6_passWeeks_4 : decode cX6_passWeeks 4 = .ok (.getfield 21, 3) := by decide +kernel
theorem dX6_passWeeks_7 : decode cX6_passWeeks 7 = .ok (.getfield 95, 3) := by decide +kernel
theorem dX6_passWeeks_10 : decode cX6_passWeeks 10 = .ok (.if_icmp .ge 39, 3) := by decide +kernel
theorem dX6_passWeeks_13 : decode cX6_passWeeks 13 = .ok (.aload_n 0, 1) := by decide +kernel
theorem dX6_passWeeks_14 : decode cX6_passWeeks 14 = .ok (.getfield 18, 3) := by decide +kernel
theorem dX6_passWeeks_17 : decode cX6_passWeeks 17 = .ok (.iload_n 2, 1) := by decide +kernel
theorem dX6_passWeeks_18 : decode cX6_passWeeks 18 = .ok (.aload_n 0, 1) := by decide +kernel
theorem dX6_passWeeks_19 : decode cX6_passWeeks 19 = .ok (.getfield 21, 3) := by decide +kernel
theorem dX6_passWeeks_22 : decode cX6_passWeeks 22 = .ok (.aload_n 0, 1) := by decide +kernel
theorem dX6_passWeeks_23 : decode cX6_passWeeks 23 = .ok (.getfield 21, 3) := by decide +kernel
theorem dX6_passWeeks_26 : decode cX6_passWeeks 26 = .ok (.getfield 62, 3) := by decide +kernel
theorem dX6_passWeeks_29 : decode cX6_passWeeks 29 = .ok (.iload_n 2, 1) := by decide +kernel
theorem dX6_passWeeks_30 : decode cX6_passWeeks 30 = .ok (.iaload, 1) := by decide +kernel
theorem dX6_passWeeks_31 : decode cX6_passWeeks 31 = .ok (.aload_n 0, 1) := by decide +kernel
theorem dX6_passWeeks_32 : decode cX6_passWeeks 32 = .ok (.getfield 18, 3) := by decide +kernel
theorem dX6_passWeeks_35 : decode cX6_passWeeks 35 = .ok (.iload_n 2, 1) := by decide +kernel
theorem dX6_passWeeks_36 : decode cX6_passWeeks 36 = .ok (.iaload, 1) := by decide +kernel
theorem dX6_passWeeks_37 : decode cX6_passWeeks 37 = .ok (.iconst 0, 1) := by decide +kernel
theorem dX6_passWeeks_38 : decode cX6_passWeeks 38 = .ok (.iload_n 1, 1) := by decide +kernel
theorem dX6_passWeeks_39 : decode cX6_passWeeks 39 = .ok (.invokevirtual 91, 3) := by decide +kernel
theorem dX6_passWeeks_42 : decode cX6_passWeeks 42 = .ok (.iastore, 1) := by decide +kernel
theorem dX6_passWeeks_43 : decode cX6_passWeeks 43 = .ok (.iinc 2 1, 3) := by decide +kernel
theorem dX6_passWeeks_46 : decode cX6_passWeeks 46 = .ok (.goto (-44), 3) := by decide +kernel
theorem dX6_passWeeks_49 : decode cX6_passWeeks 49 = .ok (.iconst 0, 1) := by decide +kernel
theorem dX6_passWeeks_50 : decode cX6_passWeeks 50 = .ok (.istore_n 2, 1) := by decide +kernel
theorem dX6_passWeeks_51 : decode cX6_passWeeks 51 = .ok (.iload_n 2, 1) := by decide +kernel
theorem dX6_passWeeks_52 : decode cX6_passWeeks 52 = .ok (.aload_n 0, 1) := by decide +kernel
theorem dX6_passWeeks_53 : decode cX6_passWeeks 53 = .ok (.getfield 21, 3) := by decide +kernel
theorem dX6_passWeeks_56 : decode cX6_passWeeks 56 = .ok (.getfield 98, 3) := by decide +kernel
theorem dX6_passWeeks_59 : decode cX6_passWeeks 59 = .ok (.if_icmp .ge 21, 3) := by decide +kernel
theorem dX6_passWeeks_62 : decode cX6_passWeeks 62 = .ok (.aload_n 0, 1) := by decide +kernel
theorem dX6_passWeeks_63 : decode cX6_passWeeks 63 = .ok (.getfield 9, 3) := by decide +kernel
theorem dX6_passWeeks_66 : decode cX6_passWeeks 66 = .ok (.iload_n 2, 1) := by decide +kernel
theorem dX6_passWeeks_67 : decode cX6_passWeeks 67 = .ok (.aload_n 0, 1) := by decide +kernel
theorem dX6_passWeeks_68 : decode cX6_passWeeks 68 = .ok (.iload_n 2, 1) := by decide +kernel
theorem dX6_passWeeks_69 : decode cX6_passWeeks 69 = .ok (.iload_n 1, 1) := by decide +kernel
theorem dX6_passWeeks_70 : decode cX6_passWeeks 70 = .ok (.invokevirtual 101, 3) := by decide +kernel
theorem dX6_passWeeks_73 : decode cX6_passWeeks 73 = .ok (.iastore, 1) := by decide +kernel
theorem dX6_passWeeks_74 : decode cX6_passWeeks 74 = .ok (.iinc 2 1, 3) := by decide +kernel
theorem dX6_passWeeks_77 : decode cX6_passWeeks 77 = .ok (.goto (-26), 3) := by decide +kernel
theorem dX6_passWeeks_80 : decode cX6_passWeeks 80 = .ok (.aload_n 0, 1) := by decide +kernel
theorem dX6_passWeeks_81 : decode cX6_passWeeks 81 = .ok (.aload_n 0, 1) := by decide +kernel
theorem dX6_passWeeks_82 : decode cX6_passWeeks 82 = .ok (.iload_n 1, 1) := by decide +kernel
theorem dX6_passWeeks_83 : decode cX6_passWeeks 83 = .ok (.invokevirtual 104, 3) := by decide +kernel
theorem dX6_passWeeks_86 : decode cX6_passWeeks 86 = .ok (.putfield 32, 3) := by decide +kernel
theorem dX6_passWeeks_89 : decode cX6_passWeeks 89 = .ok (.aload_n 0, 1) := by decide +kernel
theorem dX6_passWeeks_90 : decode cX6_passWeeks 90 = .ok (.iload_n 1, 1) := by decide +kernel
theorem dX6_passWeeks_91 : decode cX6_passWeeks 91 = .ok (.ifCond .ne 10, 3) := by decide +kernel
theorem dX6_passWeeks_94 : decode cX6_passWeeks 94 = .ok (.aload_n 0, 1) := by decide +kernel
theorem dX6_passWeeks_95 : decode cX6_passWeeks 95 = .ok (.getfield 29, 3) := by decide +kernel
theorem dX6_passWeeks_98 : decode cX6_passWeeks 98 = .ok (.goto 10, 3) := by decide +kernel
theorem dX6_passWeeks_101 : decode cX6_passWeeks 101 = .ok (.aload_n 0, 1) := by decide +kernel
theorem dX6_passWeeks_102 : decode cX6_passWeeks 102 = .ok (.getfield 21, 3) := by decide +kernel
theorem dX6_passWeeks_105 : decode cX6_passWeeks 105 = .ok (.getfield 88, 3) := by decide +kernel
theorem dX6_passWeeks_108 : decode cX6_passWeeks 108 = .ok (.putfield 29, 3) := by decide +kernel
theorem dX6_passWeeks_111 : decode cX6_passWeeks 111 = .ok (.aload_n 0, 1) := by decide +kernel
theorem dX6_passWeeks_112 : decode cX6_passWeeks 112 = .ok (.dup, 1) := by decide +kernel
theorem dX6_passWeeks_113 : decode cX6_passWeeks 113 = .ok (.getfield 25, 3) := by decide +kernel
theorem dX6_passWeeks_116 : decode cX6_passWeeks 116 = .ok (.iload_n 1, 1) := by decide +kernel
theorem dX6_passWeeks_117 : decode cX6_passWeeks 117 = .ok (.iadd, 1) := by decide +kernel
theorem dX6_passWeeks_118 : decode cX6_passWeeks 118 = .ok (.putfield 25, 3) := by decide +kernel
theorem dX6_passWeeks_121 : decode cX6_passWeeks 121 = .ok (.return_, 1) := by decide +kernel
theorem dX6_weeksTill_0 : decode cX6_weeksTill 0 = .ok (.aload_n 0, 1) := by decide +kernel
theorem dX6_weeksTill_1 : decode cX6_weeksTill 1 = .ok (.iload_n 1, 1) := by decide +kernel
theorem dX6_weeksTill_2 : decode cX6_weeksTill 2 = .ok (.invokevirtual 68, 3) := by decide +kernel
theorem dX6_weeksTill_5 : decode cX6_weeksTill 5 = .ok (.istore_n 3, 1) := by decide +kernel
theorem dX6_weeksTill_6 : decode cX6_weeksTill 6 = .ok (.aload_n 0, 1) := by decide +kernel
theorem dX6_weeksTill_7 : decode cX6_weeksTill 7 = .ok (.iload_n 1, 1) := by decide +kernel
theorem dX6_weeksTill_8 : decode cX6_weeksTill 8 = .ok (.invokevirtual 75, 3) := by decide +kernel
theorem dX6_weeksTill_11 : decode cX6_weeksTill 11 = .ok (.aload_n 0, 1) := by decide +kernel
theorem dX6_weeksTill_12 : decode cX6_weeksTill 12 = .ok (.getfield 9, 3) := by decide +kernel
theorem dX6_weeksTill_15 : decode cX6_weeksTill 15 = .ok (.aload_n 0, 1) := by decide +kernel
theorem dX6_weeksTill_16 : decode cX6_weeksTill 16 = .ok (.getfield 21, 3) := by decide +kernel
theorem dX6_weeksTill_19 : decode cX6_weeksTill 19 = .ok (.getfield 53, 3) := by decide +kernel
theorem dX6_weeksTill_22 : decode cX6_weeksTill 22 = .ok (.iload_n 1, 1) := by decide +kernel
theorem dX6_weeksTill_23 : decode cX6_weeksTill 23 = .ok (.iaload, 1) := by decide +kernel
theorem dX6_weeksTill_24 : decode cX6_weeksTill 24 = .ok (.iaload, 1) := by decide +kernel
theorem dX6_weeksTill_25 : decode cX6_weeksTill 25 = .ok (.isub, 1) := by decide +kernel
theorem dX6_weeksTill_26 : decode cX6_weeksTill 26 = .ok (.istore 4, 2) := by decide +kernel
theorem dX6_weeksTill_28 : decode cX6_weeksTill 28 = .ok (.aload_n 0, 1) := by decide +kernel
theorem dX6_weeksTill_29 : decode cX6_weeksTill 29 = .ok (.getfield 29, 3) := by decide +kernel
theorem dX6_weeksTill_32 : decode cX6_weeksTill 32 = .ok (.iload_n 3, 1) := by decide +kernel
theorem dX6_weeksTill_33 : decode cX6_weeksTill 33 = .ok (.if_icmp .lt 12, 3) := by decide +kernel
theorem dX6_weeksTill_36 : decode cX6_weeksTill 36 = .ok (.iload 4, 2) := by decide +kernel
theorem dX6_weeksTill_38 : decode cX6_weeksTill 38 = .ok (.ifCond .gt 7, 3) := by decide +kernel
theorem dX6_weeksTill_41 : decode cX6_weeksTill 41 = .ok (.iconst 0, 1) := by decide +kernel
theorem dX6_weeksTill_42 : decode cX6_weeksTill 42 = .ok (.goto 14, 3) := by decide +kernel
theorem dX6_weeksTill_45 : decode cX6_weeksTill 45 = .ok (.iconst 1, 1) := by decide +kernel
theorem dX6_weeksTill_46 : decode cX6_weeksTill 46 = .ok (.aload_n 0, 1) := by decide +kernel
theorem dX6_weeksTill_47 : decode cX6_weeksTill 47 = .ok (.iload_n 1, 1) := by decide +kernel
theorem dX6_weeksTill_48 : decode cX6_weeksTill 48 = .ok (.iload 4, 2) := by decide +kernel
theorem dX6_weeksTill_50 : decode cX6_weeksTill 50 = .ok (.invokevirtual 107, 3) := by decide +kernel
theorem dX6_weeksTill_53 : decode cX6_weeksTill 53 = .ok (.invokestatic 56, 3) := by decide +kernel
theorem dX6_weeksTill_56 : decode cX6_weeksTill 56 = .ok (.istore 5, 2) := by decide +kernel
theorem dX6_weeksTill_58 : decode cX6_weeksTill 58 = .ok (.iload 5, 2) := by decide +kernel
theorem dX6_weeksTill_60 : decode cX6_weeksTill 60 = .ok (.ifCond .eq 24, 3) := by decide +kernel
theorem dX6_weeksTill_63 : decode cX6_weeksTill 63 = .ok (.aload_n 0, 1) := by decide +kernel
theorem dX6_weeksTill_64 : decode cX6_weeksTill 64 = .ok (.getfield 21, 3) := by decide +kernel
theorem dX6_weeksTill_67 : decode cX6_weeksTill 67 = .ok (.getfield 88, 3) := by decide +kernel
theorem dX6_weeksTill_70 : decode cX6_weeksTill 70 = .ok (.iload_n 3, 1) := by decide +kernel
theorem dX6_weeksTill_71 : decode cX6_weeksTill 71 = .ok (.if_icmp .lt 17, 3) := by decide +kernel
theorem dX6_weeksTill_74 : decode cX6_weeksTill 74 = .ok (.aload_n 0, 1) := by decide +kernel
theorem dX6_weeksTill_75 : decode cX6_weeksTill 75 = .ok (.iload_n 1, 1) := by decide +kernel
theorem dX6_weeksTill_76 : decode cX6_weeksTill 76 = .ok (.invokevirtual 75, 3) := by decide +kernel
theorem dX6_weeksTill_79 : decode cX6_weeksTill 79 = .ok (.bipush 99, 2) := by decide +kernel
theorem dX6_weeksTill_81 : decode cX6_weeksTill 81 = .ok (.if_icmp .gt 7, 3) := by decide +kernel
theorem dX6_weeksTill_84 : decode cX6_weeksTill 84 = .ok (.iconst 1, 1) := by decide +kernel
theorem dX6_weeksTill_85 : decode cX6_weeksTill 85 = .ok (.goto 4, 3) := by decide +kernel
theorem dX6_weeksTill_88 : decode cX6_weeksTill 88 = .ok (.iconst 0, 1) := by decide +kernel
theorem dX6_weeksTill_89 : decode cX6_weeksTill 89 = .ok (.istore 6, 2) := by decide +kernel
theorem dX6_weeksTill_91 : decode cX6_weeksTill 91 = .ok (.iload 6, 2) := by decide +kernel
theorem dX6_weeksTill_93 : decode cX6_weeksTill 93 = .ok (.ifCond .eq 14, 3) := by decide +kernel
theorem dX6_weeksTill_96 : decode cX6_weeksTill 96 = .ok (.iload 5, 2) := by decide +kernel
theorem dX6_weeksTill_98 : decode cX6_weeksTill 98 = .ok (.iload_n 2, 1) := by decide +kernel
theorem dX6_weeksTill_99 : decode cX6_weeksTill 99 = .ok (.if_icmp .gt 8, 3) := by decide +kernel
theorem dX6_weeksTill_102 : decode cX6_weeksTill 102 = .ok (.iload 5, 2) := by decide +kernel
theorem dX6_weeksTill_104 : decode cX6_weeksTill 104 = .ok (.goto 5, 3) := by decide +kernel
theorem dX6_weeksTill_107 : decode cX6_weeksTill 107 = .ok (.ldc 110, 2) := by decide +kernel
theorem dX6_weeksTill_109 : decode cX6_weeksTill 109 = .ok (.ireturn, 1) := by decide +kernel
theorem dX6_weeksToEarn_0 : decode cX6_weeksToEarn 0 = .ok (.aload_n 0, 1) := by decide +kernel
theorem dX6_weeksToEarn_1 : decode cX6_weeksToEarn 1 = .ok (.getfield 21, 3) := by decide +kernel
theorem dX6_weeksToEarn_4 : decode cX6_weeksToEarn 4 = .ok (.getfield 82, 3) := by decide +kernel
theorem dX6_weeksToEarn_7 : decode cX6_weeksToEarn 7 = .ok (.aload_n 0, 1) := by decide +kernel
theorem dX6_weeksToEarn_8 : decode cX6_weeksToEarn 8 = .ok (.getfield 21, 3) := by decide +kernel
theorem dX6_weeksToEarn_11 : decode cX6_weeksToEarn 11 = .ok (.getfield 53, 3) := by decide +kernel
theorem dX6_weeksToEarn_14 : decode cX6_weeksToEarn 14 = .ok (.iload_n 1, 1) := by decide +kernel
theorem dX6_weeksToEarn_15 : decode cX6_weeksToEarn 15 = .ok (.iaload, 1) := by decide +kernel
theorem dX6_weeksToEarn_16 : decode cX6_weeksToEarn 16 = .ok (.iaload, 1) := by decide +kernel
theorem dX6_weeksToEarn_17 : decode cX6_weeksToEarn 17 = .ok (.istore_n 3, 1) := by decide +kernel
theorem dX6_weeksToEarn_18 : decode cX6_weeksToEarn 18 = .ok (.iload_n 2, 1) := by decide +kernel
theorem dX6_weeksToEarn_19 : decode cX6_weeksToEarn 19 = .ok (.ifCond .gt 5, 3) := by decide +kernel
theorem dX6_weeksToEarn_22 : decode cX6_weeksToEarn 22 = .ok (.iconst 0, 1) := by decide +kernel
theorem dX6_weeksToEarn_23 : decode cX6_weeksToEarn 23 = .ok (.ireturn, 1) := by decide +kernel
theorem dX6_weeksToEarn_24 : decode cX6_weeksToEarn 24 = .ok (.iload_n 3, 1) := by decide +kernel
theorem dX6_weeksToEarn_25 : decode cX6_weeksToEarn 25 = .ok (.ifCond .le 13, 3) := by decide +kernel
theorem dX6_weeksToEarn_28 : decode cX6_weeksToEarn 28 = .ok (.iload_n 2, 1) := by decide +kernel
theorem dX6_weeksToEarn_29 : decode cX6_weeksToEarn 29 = .ok (.iload_n 3, 1) := by decide +kernel
theorem dX6_weeksToEarn_30 : decode cX6_weeksToEarn 30 = .ok (.iadd, 1) := by decide +kernel
theorem dX6_weeksToEarn_31 : decode cX6_weeksToEarn 31 = .ok (.iconst 1, 1) := by decide +kernel
theorem dX6_weeksToEarn_32 : decode cX6_weeksToEarn 32 = .ok (.isub, 1) := by decide +kernel
theorem dX6_weeksToEarn_33 : decode cX6_weeksToEarn 33 = .ok (.iload_n 3, 1) := by decide +kernel
theorem dX6_weeksToEarn_34 : decode cX6_weeksToEarn 34 = .ok (.idiv, 1) := by decide +kernel
theorem dX6_weeksToEarn_35 : decode cX6_weeksToEarn 35 = .ok (.goto 5, 3) := by decide +kernel
theorem dX6_weeksToEarn_38 : decode cX6_weeksToEarn 38 = .ok (.ldc 111, 2) := by decide +kernel
theorem dX6_weeksToEarn_40 : decode cX6_weeksToEarn 40 = .ok (.ireturn, 1) := by decide +kernel
theorem dX6_understanders_0 : decode cX6_understanders 0 = .ok (.aload_n 0, 1) := by decide +kernel
theorem dX6_understanders_1 : decode cX6_understanders 1 = .ok (.getfield 21, 3) := by decide +kernel
theorem dX6_understanders_4 : decode cX6_understanders 4 = .ok (.getfield 112, 3) := by decide +kernel
theorem dX6_understanders_7 : decode cX6_understanders 7 = .ok (.iload_n 1, 1) := by decide +kernel
theorem dX6_understanders_8 : decode cX6_understanders 8 = .ok (.iaload, 1) := by decide +kernel
theorem dX6_understanders_9 : decode cX6_understanders 9 = .ok (.istore_n 2, 1) := by decide +kernel
theorem dX6_understanders_10 : decode cX6_understanders 10 = .ok (.iload_n 2, 1) := by decide +kernel
theorem dX6_understanders_11 : decode cX6_understanders 11 = .ok (.iload_n 1, 1) := by decide +kernel
theorem dX6_understanders_12 : decode cX6_understanders 12 = .ok (.if_icmp .ne 12, 3) := by decide +kernel
theorem dX6_understanders_15 : decode cX6_understanders 15 = .ok (.aload_n 0, 1) := by decide +kernel
theorem dX6_understanders_16 : decode cX6_understanders 16 = .ok (.getfield 18, 3) := by decide +kernel
theorem dX6_understanders_19 : decode cX6_understanders 19 = .ok (.iload_n 1, 1) := by decide +kernel
theorem dX6_understanders_20 : decode cX6_understanders 20 = .ok (.iaload, 1) := by decide +kernel
theorem dX6_understanders_21 : decode cX6_understanders 21 = .ok (.goto 16, 3) := by decide +kernel
theorem dX6_understanders_24 : decode cX6_understanders 24 = .ok (.aload_n 0, 1) := by decide +kernel
theorem dX6_understanders_25 : decode cX6_understanders 25 = .ok (.getfield 18, 3) := by decide +kernel
theorem dX6_understanders_28 : decode cX6_understanders 28 = .ok (.iload_n 1, 1) := by decide +kernel
theorem dX6_understanders_29 : decode cX6_understanders 29 = .ok (.iaload, 1) := by decide +kernel
theorem dX6_understanders_30 : decode cX6_understanders 30 = .ok (.aload_n 0, 1) := by decide +kernel
theorem dX6_understanders_31 : decode cX6_understanders 31 = .ok (.getfield 18, 3) := by decide +kernel
theorem dX6_understanders_34 : decode cX6_understanders 34 = .ok (.iload_n 2, 1) := by decide +kernel
theorem dX6_understanders_35 : decode cX6_understanders 35 = .ok (.iaload, 1) := by decide +kernel
theorem dX6_understanders_36 : decode cX6_understanders 36 = .ok (.iand, 1) := by decide +kernel
theorem dX6_understanders_37 : decode cX6_understanders 37 = .ok (.ireturn, 1) := by decide +kernel
theorem dX6_understandersOfAll_0 : decode cX6_understandersOfAll 0 = .ok (.aload_n 0, 1) := by decide +kernel
theorem dX6_understandersOfAll_1 : decode cX6_understandersOfAll 1 = .ok (.getfield 21, 3) := by decide +kernel
theorem dX6_understandersOfAll_4 : decode cX6_understandersOfAll 4 = .ok (.invokevirtual 115, 3) := by decide +kernel
theorem dX6_understandersOfAll_7 : decode cX6_understandersOfAll 7 = .ok (.istore_n 2, 1) := by decide +kernel
theorem dX6_understandersOfAll_8 : decode cX6_understandersOfAll 8 = .ok (.iconst 0, 1) := by decide +kernel
theorem dX6_understandersOfAll_9 : decode cX6_understandersOfAll 9 = .ok (.istore_n 3, 1) := by decide +kernel
theorem dX6_understandersOfAll_10 : decode cX6_understandersOfAll 10 = .ok (.iload_n 3, 1) := by decide +kernel
theorem dX6_understandersOfAll_11 : decode cX6_understandersOfAll 11 = .ok (.aload_n 0, 1) := by decide +kernel
theorem dX6_understandersOfAll_12 : decode cX6_understandersOfAll 12 = .ok (.getfield 21, 3) := by decide +kernel
theorem dX6_understandersOfAll_15 : decode cX6_understandersOfAll 15 = .ok (.getfield 95, 3) := by decide +kernel
theorem dX6_understandersOfAll_18 : decode cX6_understandersOfAll 18 = .ok (.if_icmp .ge 26, 3) := by decide +kernel
theorem dX6_understandersOfAll_21 : decode cX6_understandersOfAll 21 = .ok (.iload_n 1, 1) := by decide +kernel
theorem dX6_understandersOfAll_22 : decode cX6_understandersOfAll 22 = .ok (.iload_n 3, 1) := by decide +kernel
theorem dX6_understandersOfAll_23 : decode cX6_understandersOfAll 23 = .ok (.ishr, 1) := by decide +kernel
theorem dX6_understandersOfAll_24 : decode cX6_understandersOfAll 24 = .ok (.iconst 1, 1) := by decide +kernel
theorem dX6_understandersOfAll_25 : decode cX6_understandersOfAll 25 = .ok (.iand, 1) := by decide +kernel
theorem dX6_understandersOfAll_26 : decode cX6_understandersOfAll 26 = .ok (.iconst 1, 1) := by decide +kernel
theorem dX6_understandersOfAll_27 : decode cX6_understandersOfAll 27 = .ok (.if_icmp .ne 11, 3) := by decide +kernel
theorem dX6_understandersOfAll_30 : decode cX6_understandersOfAll 30 = .ok (.iload_n 2, 1) := by decide +kernel
theorem dX6_understandersOfAll_31 : decode cX6_understandersOfAll 31 = .ok (.aload_n 0, 1) := by decide +kernel
theorem dX6_understandersOfAll_32 : decode cX6_understandersOfAll 32 = .ok (.iload_n 3, 1) := by decide +kernel
theorem dX6_understandersOfAll_33 : decode cX6_understandersOfAll 33 = .ok (.invokevirtual 119, 3) := by decide +kernel
theorem dX6_understandersOfAll_36 : decode cX6_understandersOfAll 36 = .ok (.iand, 1) := by decide +kernel
theorem dX6_understandersOfAll_37 : decode cX6_understandersOfAll 37 = .ok (.istore_n 2, 1) := by decide +kernel
theorem dX6_understandersOfAll_38 : decode cX6_understandersOfAll 38 = .ok (.iinc 3 1, 3) := by decide +kernel
theorem dX6_understandersOfAll_41 : decode cX6_understandersOfAll 41 = .ok (.goto (-31), 3) := by decide +kernel
theorem dX6_understandersOfAll_44 : decode cX6_understandersOfAll 44 = .ok (.iload_n 2, 1) := by decide +kernel
theorem dX6_understandersOfAll_45 : decode cX6_understandersOfAll 45 = .ok (.ireturn, 1) := by decide +kernel
theorem dX6_knownTo_0 : decode cX6_knownTo 0 = .ok (.iconst 0, 1) := by decide +kernel
theorem dX6_knownTo_1 : decode cX6_knownTo 1 = .ok (.istore_n 2, 1) := by decide +kernel
theorem dX6_knownTo_2 : decode cX6_knownTo 2 = .ok (.iconst 0, 1) := by decide +kernel
theorem dX6_knownTo_3 : decode cX6_knownTo 3 = .ok (.istore_n 3, 1) := by decide +kernel
theorem dX6_knownTo_4 : decode cX6_knownTo 4 = .ok (.iload_n 3, 1) := by decide +kernel
theorem dX6_knownTo_5 : decode cX6_knownTo 5 = .ok (.aload_n 0, 1) := by decide +kernel
theorem dX6_knownTo_6 : decode cX6_knownTo 6 = .ok (.getfield 21, 3) := by decide +kernel
theorem dX6_knownTo_9 : decode cX6_knownTo 9 = .ok (.getfield 95, 3) := by decide +kernel
theorem dX6_knownTo_12 : decode cX6_knownTo 12 = .ok (.if_icmp .ge 24, 3) := by decide +kernel
theorem dX6_knownTo_15 : decode cX6_knownTo 15 = .ok (.iload_n 2, 1) := by decide +kernel
theorem dX6_knownTo_16 : decode cX6_knownTo 16 = .ok (.aload_n 0, 1) := by decide +kernel
theorem dX6_knownTo_17 : decode cX6_knownTo 17 = .ok (.getfield 18, 3) := by decide +kernel
theorem dX6_knownTo_20 : decode cX6_knownTo 20 = .ok (.iload_n 3, 1) := by decide +kernel
theorem dX6_knownTo_21 : decode cX6_knownTo 21 = .ok (.iaload, 1) := by decide +kernel
theorem dX6_knownTo_22 : decode cX6_knownTo 22 = .ok (.iload_n 1, 1) := by decide +kernel
theorem dX6_knownTo_23 : decode cX6_knownTo 23 = .ok (.ishr, 1) := by decide +kernel
theorem dX6_knownTo_24 : decode cX6_knownTo 24 = .ok (.iconst 1, 1) := by decide +kernel
theorem dX6_knownTo_25 : decode cX6_knownTo 25 = .ok (.iand, 1) := by decide +kernel
theorem dX6_knownTo_26 : decode cX6_knownTo 26 = .ok (.iload_n 3, 1) := by decide +kernel
theorem dX6_knownTo_27 : decode cX6_knownTo 27 = .ok (.ishl, 1) := by decide +kernel
theorem dX6_knownTo_28 : decode cX6_knownTo 28 = .ok (.ior, 1) := by decide +kernel
theorem dX6_knownTo_29 : decode cX6_knownTo 29 = .ok (.istore_n 2, 1) := by decide +kernel
theorem dX6_knownTo_30 : decode cX6_knownTo 30 = .ok (.iinc 3 1, 3) := by decide +kernel
theorem dX6_knownTo_33 : decode cX6_knownTo 33 = .ok (.goto (-29), 3) := by decide +kernel
theorem dX6_knownTo_36 : decode cX6_knownTo 36 = .ok (.iload_n 2, 1) := by decide +kernel
theorem dX6_knownTo_37 : decode cX6_knownTo 37 = .ok (.ireturn, 1) := by decide +kernel
theorem dX6_understoodBy_0 : decode cX6_understoodBy 0 = .ok (.iconst 0, 1) := by decide +kernel
theorem dX6_understoodBy_1 : decode cX6_understoodBy 1 = .ok (.istore_n 2, 1) := by decide +kernel
theorem dX6_understoodBy_2 : decode cX6_understoodBy 2 = .ok (.iconst 0, 1) := by decide +kernel
theorem dX6_understoodBy_3 : decode cX6_understoodBy 3 = .ok (.istore_n 3, 1) := by decide +kernel
theorem dX6_understoodBy_4 : decode cX6_understoodBy 4 = .ok (.iload_n 3, 1) := by decide +kernel
theorem dX6_understoodBy_5 : decode cX6_understoodBy 5 = .ok (.aload_n 0, 1) := by decide +kernel
theorem dX6_understoodBy_6 : decode cX6_understoodBy 6 = .ok (.getfield 21, 3) := by decide +kernel
theorem dX6_understoodBy_9 : decode cX6_understoodBy 9 = .ok (.getfield 95, 3) := by decide +kernel
theorem dX6_understoodBy_12 : decode cX6_understoodBy 12 = .ok (.if_icmp .ge 26, 3) := by decide +kernel
theorem dX6_understoodBy_15 : decode cX6_understoodBy 15 = .ok (.aload_n 0, 1) := by decide +kernel
theorem dX6_understoodBy_16 : decode cX6_understoodBy 16 = .ok (.iload_n 3, 1) := by decide +kernel
theorem dX6_understoodBy_17 : decode cX6_understoodBy 17 = .ok (.invokevirtual 119, 3) := by decide +kernel
theorem dX6_understoodBy_20 : decode cX6_understoodBy 20 = .ok (.iload_n 1, 1) := by decide +kernel
theorem dX6_understoodBy_21 : decode cX6_understoodBy 21 = .ok (.iand, 1) := by decide +kernel
theorem dX6_understoodBy_22 : decode cX6_understoodBy 22 = .ok (.iload_n 1, 1) := by decide +kernel
theorem dX6_understoodBy_23 : decode cX6_understoodBy 23 = .ok (.if_icmp .ne 9, 3) := by decide +kernel
theorem dX6_understoodBy_26 : decode cX6_understoodBy 26 = .ok (.iload_n 2, 1) := by decide +kernel
theorem dX6_understoodBy_27 : decode cX6_understoodBy 27 = .ok (.iconst 1, 1) := by decide +kernel
theorem dX6_understoodBy_28 : decode cX6_understoodBy 28 = .ok (.iload_n 3, 1) := by decide +kernel
theorem dX6_understoodBy_29 : decode cX6_understoodBy 29 = .ok (.ishl, 1) := by decide +kernel
theorem dX6_understoodBy_30 : decode cX6_understoodBy 30 = .ok (.ior, 1) := by decide +kernel
theorem dX6_understoodBy_31 : decode cX6_understoodBy 31 = .ok (.istore_n 2, 1) := by decide +kernel
theorem dX6_understoodBy_32 : decode cX6_understoodBy 32 = .ok (.iinc 3 1, 3) := by decide +kernel
theorem dX6_understoodBy_35 : decode cX6_understoodBy 35 = .ok (.goto (-31), 3) := by decide +kernel
theorem dX6_understoodBy_38 : decode cX6_understoodBy 38 = .ok (.iload_n 2, 1) := by decide +kernel
theorem dX6_understoodBy_39 : decode cX6_understoodBy 39 = .ok (.ireturn, 1) := by decide +kernel
theorem dX6_passedOn_0 : decode cX6_passedOn 0 = .ok (.aload_n 0, 1) := by decide +kernel
theorem dX6_passedOn_1 : decode cX6_passedOn 1 = .ok (.getfield 21, 3) := by decide +kernel
theorem dX6_passedOn_4 : decode cX6_passedOn 4 = .ok (.getfield 53, 3) := by decide +kernel
theorem dX6_passedOn_7 : decode cX6_passedOn 7 = .ok (.iload_n 1, 1) := by decide +kernel
theorem dX6_passedOn_8 : decode cX6_passedOn 8 = .ok (.iaload, 1) := by decide +kernel
theorem dX6_passedOn_9 : decode cX6_passedOn 9 = .ok (.istore 4, 2) := by decide +kernel
theorem dX6_passedOn_11 : decode cX6_passedOn 11 = .ok (.iload_n 2, 1) := by decide +kernel
theorem dX6_passedOn_12 : decode cX6_passedOn 12 = .ok (.iconst 1, 1) := by decide +kernel
theorem dX6_passedOn_13 : decode cX6_passedOn 13 = .ok (.iload 4, 2) := by decide +kernel
theorem dX6_passedOn_15 : decode cX6_passedOn 15 = .ok (.ishl, 1) := by decide +kernel
theorem dX6_passedOn_16 : decode cX6_passedOn 16 = .ok (.iconst (-1), 1) := by decide +kernel
theorem dX6_passedOn_17 : decode cX6_passedOn 17 = .ok (.ixor, 1) := by decide +kernel
theorem dX6_passedOn_18 : decode cX6_passedOn 18 = .ok (.iand, 1) := by decide +kernel
theorem dX6_passedOn_19 : decode cX6_passedOn 19 = .ok (.istore 5, 2) := by decide +kernel
theorem dX6_passedOn_21 : decode cX6_passedOn 21 = .ok (.aload_n 0, 1) := by decide +kernel
theorem dX6_passedOn_22 : decode cX6_passedOn 22 = .ok (.iload_n 1, 1) := by decide +kernel
theorem dX6_passedOn_23 : decode cX6_passedOn 23 = .ok (.invokevirtual 71, 3) := by decide +kernel
theorem dX6_passedOn_26 : decode cX6_passedOn 26 = .ok (.ifCond .eq 12, 3) := by decide +kernel
theorem dX6_passedOn_29 : decode cX6_passedOn 29 = .ok (.aload_n 0, 1) := by decide +kernel
theorem dX6_passedOn_30 : decode cX6_passedOn 30 = .ok (.getfield 18, 3) := by decide +kernel
theorem dX6_passedOn_33 : decode cX6_passedOn 33 = .ok (.iload_n 1, 1) := by decide +kernel
theorem dX6_passedOn_34 : decode cX6_passedOn 34 = .ok (.iaload, 1) := by decide +kernel
theorem dX6_passedOn_35 : decode cX6_passedOn 35 = .ok (.goto 23, 3) := by decide +kernel
theorem dX6_passedOn_38 : decode cX6_passedOn 38 = .ok (.aload_n 0, 1) := by decide +kernel
theorem dX6_passedOn_39 : decode cX6_passedOn 39 = .ok (.getfield 21, 3) := by decide +kernel
theorem dX6_passedOn_42 : decode cX6_passedOn 42 = .ok (.aload_n 0, 1) := by decide +kernel
theorem dX6_passedOn_43 : decode cX6_passedOn 43 = .ok (.getfield 21, 3) := by decide +kernel
theorem dX6_passedOn_46 : decode cX6_passedOn 46 = .ok (.getfield 62, 3) := by decide +kernel
theorem dX6_passedOn_49 : decode cX6_passedOn 49 = .ok (.iload_n 1, 1) := by decide +kernel
theorem dX6_passedOn_50 : decode cX6_passedOn 50 = .ok (.iaload, 1) := by decide +kernel
theorem dX6_passedOn_51 : decode cX6_passedOn 51 = .ok (.iload 4, 2) := by decide +kernel
theorem dX6_passedOn_53 : decode cX6_passedOn 53 = .ok (.iload 5, 2) := by decide +kernel
theorem dX6_passedOn_55 : decode cX6_passedOn 55 = .ok (.invokevirtual 78, 3) := by decide +kernel
theorem dX6_passedOn_58 : decode cX6_passedOn 58 = .ok (.istore 6, 2) := by decide +kernel
theorem dX6_passedOn_60 : decode cX6_passedOn 60 = .ok (.aload_n 0, 1) := by decide +kernel
theorem dX6_passedOn_61 : decode cX6_passedOn 61 = .ok (.getfield 21, 3) := by decide +kernel
theorem dX6_passedOn_64 : decode cX6_passedOn 64 = .ok (.aload_n 0, 1) := by decide +kernel
theorem dX6_passedOn_65 : decode cX6_passedOn 65 = .ok (.getfield 21, 3) := by decide +kernel
theorem dX6_passedOn_68 : decode cX6_passedOn 68 = .ok (.getfield 62, 3) := by decide +kernel
theorem dX6_passedOn_71 : decode cX6_passedOn 71 = .ok (.iload_n 1, 1) := by decide +kernel
theorem dX6_passedOn_72 : decode cX6_passedOn 72 = .ok (.iaload, 1) := by decide +kernel
theorem dX6_passedOn_73 : decode cX6_passedOn 73 = .ok (.iload 6, 2) := by decide +kernel
theorem dX6_passedOn_75 : decode cX6_passedOn 75 = .ok (.iload 5, 2) := by decide +kernel
theorem dX6_passedOn_77 : decode cX6_passedOn 77 = .ok (.iload_n 3, 1) := by decide +kernel
theorem dX6_passedOn_78 : decode cX6_passedOn 78 = .ok (.invokevirtual 91, 3) := by decide +kernel
theorem dX6_passedOn_81 : decode cX6_passedOn 81 = .ok (.ireturn, 1) := by decide +kernel
theorem dX6_claim_0 : decode cX6_claim 0 = .ok (.iconst 0, 1) := by decide +kernel
theorem dX6_claim_1 : decode cX6_claim 1 = .ok (.istore_n 2, 1) := by decide +kernel
theorem dX6_claim_2 : decode cX6_claim 2 = .ok (.iconst 0, 1) := by decide +kernel
theorem dX6_claim_3 : decode cX6_claim 3 = .ok (.istore_n 3, 1) := by decide +kernel
theorem dX6_claim_4 : decode cX6_claim 4 = .ok (.iload_n 3, 1) := by decide +kernel
theorem dX6_claim_5 : decode cX6_claim 5 = .ok (.aload_n 0, 1) := by decide +kernel
theorem dX6_claim_6 : decode cX6_claim 6 = .ok (.getfield 21, 3) := by decide +kernel
theorem dX6_claim_9 : decode cX6_claim 9 = .ok (.getfield 95, 3) := by decide +kernel
theorem dX6_claim_12 : decode cX6_claim 12 = .ok (.if_icmp .ge 41, 3) := by decide +kernel
theorem dX6_claim_15 : decode cX6_claim 15 = .ok (.aload_n 0, 1) := by decide +kernel
theorem dX6_claim_16 : decode cX6_claim 16 = .ok (.getfield 21, 3) := by decide +kernel
theorem dX6_claim_19 : decode cX6_claim 19 = .ok (.getfield 53, 3) := by decide +kernel
theorem dX6_claim_22 : decode cX6_claim 22 = .ok (.iload_n 3, 1) := by decide +kernel
theorem dX6_claim_23 : decode cX6_claim 23 = .ok (.iaload, 1) := by decide +kernel
theorem dX6_claim_24 : decode cX6_claim 24 = .ok (.iload_n 1, 1) := by decide +kernel
theorem dX6_claim_25 : decode cX6_claim 25 = .ok (.if_icmp .ne 22, 3) := by decide +kernel
theorem dX6_claim_28 : decode cX6_claim 28 = .ok (.aload_n 0, 1) := by decide +kernel
theorem dX6_claim_29 : decode cX6_claim 29 = .ok (.iload_n 3, 1) := by decide +kernel
theorem dX6_claim_30 : decode cX6_claim 30 = .ok (.invokevirtual 71, 3) := by decide +kernel
theorem dX6_claim_33 : decode cX6_claim 33 = .ok (.ifCond .ne 14, 3) := by decide +kernel
theorem dX6_claim_36 : decode cX6_claim 36 = .ok (.iload_n 2, 1) := by decide +kernel
theorem dX6_claim_37 : decode cX6_claim 37 = .ok (.aload_n 0, 1) := by decide +kernel
theorem dX6_claim_38 : decode cX6_claim 38 = .ok (.getfield 21, 3) := by decide +kernel
theorem dX6_claim_41 : decode cX6_claim 41 = .ok (.iload_n 3, 1) := by decide +kernel
theorem dX6_claim_42 : decode cX6_claim 42 = .ok (.invokevirtual 47, 3) := by decide +kernel
theorem dX6_claim_45 : decode cX6_claim 45 = .ok (.iadd, 1) := by decide +kernel
theorem dX6_claim_46 : decode cX6_claim 46 = .ok (.istore_n 2, 1) := by decide +kernel
theorem dX6_claim_47 : decode cX6_claim 47 = .ok (.iinc 3 1, 3) := by decide +kernel
theorem dX6_claim_50 : decode cX6_claim 50 = .ok (.goto (-46), 3) := by decide +kernel
theorem dX6_claim_53 : decode cX6_claim 53 = .ok (.iconst 0, 1) := by decide +kernel
theorem dX6_claim_54 : decode cX6_claim 54 = .ok (.iload_n 2, 1) := by decide +kernel
theorem dX6_claim_55 : decode cX6_claim 55 = .ok (.aload_n 0, 1) := by decide +kernel
theorem dX6_claim_56 : decode cX6_claim 56 = .ok (.getfield 15, 3) := by decide +kernel
theorem dX6_claim_59 : decode cX6_claim 59 = .ok (.iload_n 1, 1) := by decide +kernel
theorem dX6_claim_60 : decode cX6_claim 60 = .ok (.iaload, 1) := by decide +kernel
theorem dX6_claim_61 : decode cX6_claim 61 = .ok (.isub, 1) := by decide +kernel
theorem dX6_claim_62 : decode cX6_claim 62 = .ok (.invokestatic 56, 3) := by decide +kernel
theorem dX6_claim_65 : decode cX6_claim 65 = .ok (.ireturn, 1) := by decide +kernel
theorem dX6_shareOf_0 : decode cX6_shareOf 0 = .ok (.iconst 0, 1) := by decide +kernel
theorem dX6_shareOf_1 : decode cX6_shareOf 1 = .ok (.istore_n 3, 1) := by decide +kernel
theorem dX6_shareOf_2 : decode cX6_shareOf 2 = .ok (.iconst 0, 1) := by decide +kernel
theorem dX6_shareOf_3 : decode cX6_shareOf 3 = .ok (.istore 4, 2) := by decide +kernel
theorem dX6_shareOf_5 : decode cX6_shareOf 5 = .ok (.iload 4, 2) := by decide +kernel
theorem dX6_shareOf_7 : decode cX6_shareOf 7 = .ok (.aload_n 0, 1) := by decide +kernel
theorem dX6_shareOf_8 : decode cX6_shareOf 8 = .ok (.getfield 21, 3) := by decide +kernel
theorem dX6_shareOf_11 : decode cX6_shareOf 11 = .ok (.getfield 98, 3) := by decide +kernel
theorem dX6_shareOf_14 : decode cX6_shareOf 14 = .ok (.if_icmp .ge 18, 3) := by decide +kernel
theorem dX6_shareOf_17 : decode cX6_shareOf 17 = .ok (.iload_n 3, 1) := by decide +kernel
theorem dX6_shareOf_18 : decode cX6_shareOf 18 = .ok (.aload_n 0, 1) := by decide +kernel
theorem dX6_shareOf_19 : decode cX6_shareOf 19 = .ok (.iload 4, 2) := by decide +kernel
theorem dX6_shareOf_21 : decode cX6_shareOf 21 = .ok (.invokevirtual 122, 3) := by decide +kernel
theorem dX6_shareOf_24 : decode cX6_shareOf 24 = .ok (.iadd, 1) := by decide +kernel
theorem dX6_shareOf_25 : decode cX6_shareOf 25 = .ok (.istore_n 3, 1) := by decide +kernel
theorem dX6_shareOf_26 : decode cX6_shareOf 26 = .ok (.iinc 4 1, 3) := by decide +kernel
theorem dX6_shareOf_29 : decode cX6_shareOf 29 = .ok (.goto (-24), 3) := by decide +kernel
theorem dX6_shareOf_32 : decode cX6_shareOf 32 = .ok (.iload_n 3, 1) := by decide +kernel
theorem dX6_shareOf_33 : decode cX6_shareOf 33 = .ok (.ifCond .eq 11, 3) := by decide +kernel
theorem dX6_shareOf_36 : decode cX6_shareOf 36 = .ok (.aload_n 0, 1) := by decide +kernel
theorem dX6_shareOf_37 : decode cX6_shareOf 37 = .ok (.iload_n 1, 1) := by decide +kernel
theorem dX6_shareOf_38 : decode cX6_shareOf 38 = .ok (.invokevirtual 122, 3) := by decide +kernel
theorem dX6_shareOf_41 : decode cX6_shareOf 41 = .ok (.ifCond .ne 5, 3) := by decide +kernel
theorem dX6_shareOf_44 : decode cX6_shareOf 44 = .ok (.iconst 0, 1) := by decide +kernel
theorem dX6_shareOf_45 : decode cX6_shareOf 45 = .ok (.ireturn, 1) := by decide +kernel
theorem dX6_shareOf_46 : decode cX6_shareOf 46 = .ok (.iload_n 2, 1) := by decide +kernel
theorem dX6_shareOf_47 : decode cX6_shareOf 47 = .ok (.istore 4, 2) := by decide +kernel
theorem dX6_shareOf_49 : decode cX6_shareOf 49 = .ok (.iconst 0, 1) := by decide +kernel
theorem dX6_shareOf_50 : decode cX6_shareOf 50 = .ok (.istore 5, 2) := by decide +kernel
theorem dX6_shareOf_52 : decode cX6_shareOf 52 = .ok (.iconst 0, 1) := by decide +kernel
theorem dX6_shareOf_53 : decode cX6_shareOf 53 = .ok (.istore 6, 2) := by decide +kernel
theorem dX6_shareOf_55 : decode cX6_shareOf 55 = .ok (.iload 6, 2) := by decide +kernel
theorem dX6_shareOf_57 : decode cX6_shareOf 57 = .ok (.aload_n 0, 1) := by decide +kernel
theorem dX6_shareOf_58 : decode cX6_shareOf 58 = .ok (.getfield 21, 3) := by decide +kernel
theorem dX6_shareOf_61 : decode cX6_shareOf 61 = .ok (.getfield 98, 3) := by decide +kernel
theorem dX6_shareOf_64 : decode cX6_shareOf 64 = .ok (.if_icmp .ge 42, 3) := by decide +kernel
theorem dX6_shareOf_67 : decode cX6_shareOf 67 = .ok (.iload 4, 2) := by decide +kernel
theorem dX6_shareOf_69 : decode cX6_shareOf 69 = .ok (.iload_n 2, 1) := by decide +kernel
theorem dX6_shareOf_70 : decode cX6_shareOf 70 = .ok (.aload_n 0, 1) := by decide +kernel
theorem dX6_shareOf_71 : decode cX6_shareOf 71 = .ok (.iload 6, 2) := by decide +kernel
theorem dX6_shareOf_73 : decode cX6_shareOf 73 = .ok (.invokevirtual 122, 3) := by decide +kernel
theorem dX6_shareOf_76 : decode cX6_shareOf 76 = .ok (.imul, 1) := by decide +kernel
theorem dX6_shareOf_77 : decode cX6_shareOf 77 = .ok (.iload_n 3, 1) := by decide +kernel
theorem dX6_shareOf_78 : decode cX6_shareOf 78 = .ok (.idiv, 1) := by decide +kernel
theorem dX6_shareOf_79 : decode cX6_shareOf 79 = .ok (.isub, 1) := by decide +kernel
theorem dX6_shareOf_80 : decode cX6_shareOf 80 = .ok (.istore 4, 2) := by decide +kernel
theorem dX6_shareOf_82 : decode cX6_shareOf 82 = .ok (.iload 6, 2) := by decide +kernel
theorem dX6_shareOf_84 : decode cX6_shareOf 84 = .ok (.iload_n 1, 1) := by decide +kernel
theorem dX6_shareOf_85 : decode cX6_shareOf 85 = .ok (.if_icmp .ge 15, 3) := by decide +kernel
theorem dX6_shareOf_88 : decode cX6_shareOf 88 = .ok (.aload_n 0, 1) := by decide +kernel
theorem dX6_shareOf_89 : decode cX6_shareOf 89 = .ok (.iload 6, 2) := by decide +kernel
theorem dX6_shareOf_91 : decode cX6_shareOf 91 = .ok (.invokevirtual 122, 3) := by decide +kernel
theorem dX6_shareOf_94 : decode cX6_shareOf 94 = .ok (.ifCond .le 6, 3) := by decide +kernel
theorem dX6_shareOf_97 : decode cX6_shareOf 97 = .ok (.iinc 5 1, 3) := by decide +kernel
theorem dX6_shareOf_100 : decode cX6_shareOf 100 = .ok (.iinc 6 1, 3) := by decide +kernel
theorem dX6_shareOf_103 : decode cX6_shareOf 103 = .ok (.goto (-48), 3) := by decide +kernel
theorem dX6_shareOf_106 : decode cX6_shareOf 106 = .ok (.iload_n 2, 1) := by decide +kernel
theorem dX6_shareOf_107 : decode cX6_shareOf 107 = .ok (.aload_n 0, 1) := by decide +kernel
theorem dX6_shareOf_108 : decode cX6_shareOf 108 = .ok (.iload_n 1, 1) := by decide +kernel
theorem dX6_shareOf_109 : decode cX6_shareOf 109 = .ok (.invokevirtual 122, 3) := by decide +kernel
theorem dX6_shareOf_112 : decode cX6_shareOf 112 = .ok (.imul, 1) := by decide +kernel
theorem dX6_shareOf_113 : decode cX6_shareOf 113 = .ok (.iload_n 3, 1) := by decide +kernel
theorem dX6_shareOf_114 : decode cX6_shareOf 114 = .ok (.idiv, 1) := by decide +kernel
theorem dX6_shareOf_115 : decode cX6_shareOf 115 = .ok (.iload 5, 2) := by decide +kernel
theorem dX6_shareOf_117 : decode cX6_shareOf 117 = .ok (.iload 4, 2) := by decide +kernel
theorem dX6_shareOf_119 : decode cX6_shareOf 119 = .ok (.if_icmp .ge 7, 3) := by decide +kernel
theorem dX6_shareOf_122 : decode cX6_shareOf 122 = .ok (.iconst 1, 1) := by decide +kernel
theorem dX6_shareOf_123 : decode cX6_shareOf 123 = .ok (.goto 4, 3) := by decide +kernel
theorem dX6_shareOf_126 : decode cX6_shareOf 126 = .ok (.iconst 0, 1) := by decide +kernel
theorem dX6_shareOf_127 : decode cX6_shareOf 127 = .ok (.iadd, 1) := by decide +kernel
theorem dX6_shareOf_128 : decode cX6_shareOf 128 = .ok (.ireturn, 1) := by decide +kernel
theorem dX7_init_0 : decode cX7_init 0 = .ok (.aload_n 0, 1) := by decide +kernel
theorem dX7_init_1 : decode cX7_init 1 = .ok (.invokespecial 3, 3) := by decide +kernel
theorem dX7_init_4 : decode cX7_init 4 = .ok (.aload_n 0, 1) := by decide +kernel
theorem dX7_init_5 : decode cX7_init 5 = .ok (.bipush 61, 2) := by decide +kernel
theorem dX7_init_7 : decode cX7_init 7 = .ok (.newarray .int, 2) := by decide +kernel
theorem dX7_init_9 : decode cX7_init 9 = .ok (.putfield 9, 3) := by decide +kernel
theorem dX7_init_12 : decode cX7_init 12 = .ok (.return_, 1) := by decide +kernel
theorem dX7_begin_0 : decode cX7_begin 0 = .ok (.aload_n 0, 1) := by decide +kernel
theorem dX7_begin_1 : decode cX7_begin 1 = .ok (.iload_n 2, 1) := by decide +kernel
theorem dX7_begin_2 : decode cX7_begin 2 = .ok (.putfield 15, 3) := by decide +kernel
theorem dX7_begin_5 : decode cX7_begin 5 = .ok (.iconst 0, 1) := by decide +kernel
theorem dX7_begin_6 : decode cX7_begin 6 = .ok (.istore_n 3, 1) := by decide +kernel
theorem dX7_begin_7 : decode cX7_begin 7 = .ok (.iload_n 3, 1) := by decide +kernel
theorem dX7_begin_8 : decode cX7_begin 8 = .ok (.bipush 60, 2) := by decide +kernel
theorem dX7_begin_10 : decode cX7_begin 10 = .ok (.if_icmp .gt 17, 3) := by decide +kernel
theorem dX7_begin_13 : decode cX7_begin 13 = .ok (.aload_n 0, 1) := by decide +kernel
theorem dX7_begin_14 : decode cX7_begin 14 = .ok (.getfield 9, 3) := by decide +kernel
theorem dX7_begin_17 : decode cX7_begin 17 = .ok (.iload_n 3, 1) := by decide +kernel
theorem dX7_begin_18 : decode cX7_begin 18 = .ok (.ldc 19, 2) := by decide +kernel
theorem dX7_begin_20 : decode cX7_begin 20 = .ok (.iastore, 1) := by decide +kernel
theorem dX7_begin_21 : decode cX7_begin 21 = .ok (.iinc 3 1, 3) := by decide +kernel
theorem dX7_begin_24 : decode cX7_begin 24 = .ok (.goto (-17), 3) := by decide +kernel
theorem dX7_begin_27 : decode cX7_begin 27 = .ok (.aload_n 0, 1) := by decide +kernel
theorem dX7_begin_28 : decode cX7_begin 28 = .ok (.getfield 9, 3) := by decide +kernel
theorem dX7_begin_31 : decode cX7_begin 31 = .ok (.iconst 0, 1) := by decide +kernel
theorem dX7_begin_32 : decode cX7_begin 32 = .ok (.iload_n 1, 1) := by decide +kernel
theorem dX7_begin_33 : decode cX7_begin 33 = .ok (.iastore, 1) := by decide +kernel
theorem dX7_begin_34 : decode cX7_begin 34 = .ok (.return_, 1) := by decide +kernel
theorem dX7_passWeek_0 : decode cX7_passWeek 0 = .ok (.aload_n 0, 1) := by decide +kernel
theorem dX7_passWeek_1 : decode cX7_passWeek 1 = .ok (.getfield 15, 3) := by decide +kernel
theorem dX7_passWeek_4 : decode cX7_passWeek 4 = .ok (.istore 4, 2) := by decide +kernel
theorem dX7_passWeek_6 : decode cX7_passWeek 6 = .ok (.iload 4, 2) := by decide +kernel
theorem dX7_passWeek_8 : decode cX7_passWeek 8 = .ok (.ifCond .lt 105, 3) := by decide +kernel
theorem dX7_passWeek_11 : decode cX7_passWeek 11 = .ok (.ldc 19, 2) := by decide +kernel
theorem dX7_passWeek_13 : decode cX7_passWeek 13 = .ok (.istore 5, 2) := by decide +kernel
theorem dX7_passWeek_15 : decode cX7_passWeek 15 = .ok (.iconst 0, 1) := by decide +kernel
theorem dX7_passWeek_16 : decode cX7_passWeek 16 = .ok (.istore 6, 2) := by decide +kernel
theorem dX7_passWeek_18 : decode cX7_passWeek 18 = .ok (.iload 6, 2) := by decide +kernel
theorem dX7_passWeek_20 : decode cX7_passWeek 20 = .ok (.iload_n 2, 1) := by decide +kernel
theorem dX7_passWeek_21 : decode cX7_passWeek 21 = .ok (.if_icmp .gt 58, 3) := by decide +kernel
theorem dX7_passWeek_24 : decode cX7_passWeek 24 = .ok (.iload 6, 2) := by decide +kernel
theorem dX7_passWeek_26 : decode cX7_passWeek 26 = .ok (.iload 4, 2) := by decide +kernel
theorem dX7_passWeek_28 : decode cX7_passWeek 28 = .ok (.if_icmp .gt 51, 3) := by decide +kernel
theorem dX7_passWeek_31 : decode cX7_passWeek 31 = .ok (.aload_n 0, 1) := by decide +kernel
theorem dX7_passWeek_32 : decode cX7_passWeek 32 = .ok (.getfield 9, 3) := by decide +kernel
theorem dX7_passWeek_35 : decode cX7_passWeek 35 = .ok (.iload 4, 2) := by decide +kernel
theorem dX7_passWeek_37 : decode cX7_passWeek 37 = .ok (.iload 6, 2) := by decide +kernel
theorem dX7_passWeek_39 : decode cX7_passWeek 39 = .ok (.isub, 1) := by decide +kernel
theorem dX7_passWeek_40 : decode cX7_passWeek 40 = .ok (.iaload, 1) := by decide +kernel
theorem dX7_passWeek_41 : decode cX7_passWeek 41 = .ok (.istore 7, 2) := by decide +kernel
theorem dX7_passWeek_43 : decode cX7_passWeek 43 = .ok (.iload 7, 2) := by decide +kernel
theorem dX7_passWeek_45 : decode cX7_passWeek 45 = .ok (.ldc 19, 2) := by decide +kernel
theorem dX7_passWeek_47 : decode cX7_passWeek 47 = .ok (.if_icmp .eq 26, 3) := by decide +kernel
theorem dX7_passWeek_50 : decode cX7_passWeek 50 = .ok (.iload 7, 2) := by decide +kernel
theorem dX7_passWeek_52 : decode cX7_passWeek 52 = .ok (.iload 6, 2) := by decide +kernel
theorem dX7_passWeek_54 : decode cX7_passWeek 54 = .ok (.iload_n 1, 1) := by decide +kernel
theorem dX7_passWeek_55 : decode cX7_passWeek 55 = .ok (.imul, 1) := by decide +kernel
theorem dX7_passWeek_56 : decode cX7_passWeek 56 = .ok (.if_icmp .lt 17, 3) := by decide +kernel
theorem dX7_passWeek_59 : decode cX7_passWeek 59 = .ok (.iload 5, 2) := by decide +kernel
theorem dX7_passWeek_61 : decode cX7_passWeek 61 = .ok (.iload 7, 2) := by decide +kernel
theorem dX7_passWeek_63 : decode cX7_passWeek 63 = .ok (.iload 6, 2) := by decide +kernel
theorem dX7_passWeek_65 : decode cX7_passWeek 65 = .ok (.iload_n 1, 1) := by decide +kernel
theorem dX7_passWeek_66 : decode cX7_passWeek 66 = .ok (.imul, 1) := by decide +kernel
theorem dX7_passWeek_67 : decode cX7_passWeek 67 = .ok (.isub, 1) := by decide +kernel
theorem dX7_passWeek_68 : decode cX7_passWeek 68 = .ok (.invokestatic 20, 3) := by decide +kernel
theorem dX7_passWeek_71 : decode cX7_passWeek 71 = .ok (.istore 5, 2) := by decide +kernel
theorem dX7_passWeek_73 : decode cX7_passWeek 73 = .ok (.iinc 6 1, 3) := by decide +kernel
theorem dX7_passWeek_76 : decode cX7_passWeek 76 = .ok (.goto (-58), 3) := by decide +kernel
theorem dX7_passWeek_79 : decode cX7_passWeek 79 = .ok (.aload_n 0, 1) := by decide +kernel
theorem dX7_passWeek_80 : decode cX7_passWeek 80 = .ok (.getfield 9, 3) := by decide +kernel
theorem dX7_passWeek_83 : decode cX7_passWeek 83 = .ok (.iload 4, 2) := by decide +kernel
theorem dX7_passWeek_85 : decode cX7_passWeek 85 = .ok (.iload 5, 2) := by decide +kernel
theorem dX7_passWeek_87 : decode cX7_passWeek 87 = .ok (.ldc 19, 2) := by decide +kernel
theorem dX7_passWeek_89 : decode cX7_passWeek 89 = .ok (.if_icmp .ne 8, 3) := by decide +kernel
theorem dX7_passWeek_92 : decode cX7_passWeek 92 = .ok (.ldc 19, 2) := by decide +kernel
theorem dX7_passWeek_94 : decode cX7_passWeek 94 = .ok (.goto 12, 3) := by decide +kernel
theorem dX7_passWeek_97 : decode cX7_passWeek 97 = .ok (.bipush 99, 2) := by decide +kernel
theorem dX7_passWeek_99 : decode cX7_passWeek 99 = .ok (.iload 5, 2) := by decide +kernel
theorem dX7_passWeek_101 : decode cX7_passWeek 101 = .ok (.iload_n 3, 1) := by decide +kernel
theorem dX7_passWeek_102 : decode cX7_passWeek 102 = .ok (.iadd, 1) := by decide +kernel
theorem dX7_passWeek_103 : decode cX7_passWeek 103 = .ok (.invokestatic 26, 3) := by decide +kernel
theorem dX7_passWeek_106 : decode cX7_passWeek 106 = .ok (.iastore, 1) := by decide +kernel
theorem dX7_passWeek_107 : decode cX7_passWeek 107 = .ok (.iinc 4 (-1), 3) := by decide +kernel
theorem dX7_passWeek_110 : decode cX7_passWeek 110 = .ok (.goto (-104), 3) := by decide +kernel
theorem dX7_passWeek_113 : decode cX7_passWeek 113 = .ok (.return_, 1) := by decide +kernel
theorem dX7_mostLeft_0 : decode cX7_mostLeft 0 = .ok (.aload_n 0, 1) := by decide +kernel
theorem dX7_mostLeft_1 : decode cX7_mostLeft 1 = .ok (.getfield 9, 3) := by decide +kernel
theorem dX7_mostLeft_4 : decode cX7_mostLeft 4 = .ok (.aload_n 0, 1) := by decide +kernel
theorem dX7_mostLeft_5 : decode cX7_mostLeft 5 = .ok (.getfield 15, 3) := by decide +kernel
theorem dX7_mostLeft_8 : decode cX7_mostLeft 8 = .ok (.iaload, 1) := by decide +kernel
theorem dX7_mostLeft_9 : decode cX7_mostLeft 9 = .ok (.ireturn, 1) := by decide +kernel
theorem dX8_init_0 : decode cX8_init 0 = .ok (.aload_n 0, 1) := by decide +kernel
theorem dX8_init_1 : decode cX8_init 1 = .ok (.invokespecial 3, 3) := by decide +kernel
theorem dX8_init_4 : decode cX8_init 4 = .ok (.aload_n 0, 1) := by decide +kernel
theorem dX8_init_5 : decode cX8_init 5 = .ok (.iconst 5, 1) := by decide +kernel
theorem dX8_init_6 : decode cX8_init 6 = .ok (.newarray .int, 2) := by decide +kernel
theorem dX8_init_8 : decode cX8_init 8 = .ok (.putfield 9, 3) := by decide +kernel
theorem dX8_init_11 : decode cX8_init 11 = .ok (.aload_n 0, 1) := by decide +kernel
theorem dX8_init_12 : decode cX8_init 12 = .ok (.bipush 6, 2) := by decide +kernel
theorem dX8_init_14 : decode cX8_init 14 = .ok (.newarray .int, 2) := by decide +kernel
theorem dX8_init_16 : decode cX8_init 16 = .ok (.putfield 15, 3) := by decide +kernel
theorem dX8_init_19 : decode cX8_init 19 = .ok (.aload_n 0, 1) := by decide +kernel
theorem dX8_init_20 : decode cX8_init 20 = .ok (.bipush 6, 2) := by decide +kernel
theorem dX8_init_22 : decode cX8_init 22 = .ok (.newarray .int, 2) := by decide +kernel
theorem dX8_init_24 : decode cX8_init 24 = .ok (.putfield 18, 3) := by decide +kernel
theorem dX8_init_27 : decode cX8_init 27 = .ok (.aload_n 0, 1) := by decide +kernel
theorem dX8_init_28 : decode cX8_init 28 = .ok (.bipush 6, 2) := by decide +kernel
theorem dX8_init_30 : decode cX8_init 30 = .ok (.newarray .int, 2) := by decide +kernel
theorem dX8_init_32 : decode cX8_init 32 = .ok (.putfield 21, 3) := by decide +kernel
theorem dX8_init_35 : decode cX8_init 35 = .ok (.aload_n 0, 1) := by decide +kernel
theorem dX8_init_36 : decode cX8_init 36 = .ok (.bipush 6, 2) := by decide +kernel
theorem dX8_init_38 : decode cX8_init 38 = .ok (.newarray .int, 2) := by decide +kernel
theorem dX8_init_40 : decode cX8_init 40 = .ok (.putfield 24, 3) := by decide +kernel
theorem dX8_init_43 : decode cX8_init 43 = .ok (.return_, 1) := by decide +kernel
theorem dX8_takeFrom_0 : decode cX8_takeFrom 0 = .ok (.aload_n 0, 1) := by decide +kernel
theorem dX8_takeFrom_1 : decode cX8_takeFrom 1 = .ok (.aload_n 1, 1) := by decide +kernel
theorem dX8_takeFrom_2 : decode cX8_takeFrom 2 = .ok (.getfield 27, 3) := by decide +kernel
theorem dX8_takeFrom_5 : decode cX8_takeFrom 5 = .ok (.putfield 27, 3) := by decide +kernel
theorem dX8_takeFrom_8 : decode cX8_takeFrom 8 = .ok (.aload_n 0, 1) := by decide +kernel
theorem dX8_takeFrom_9 : decode cX8_takeFrom 9 = .ok (.aload_n 1, 1) := by decide +kernel
theorem dX8_takeFrom_10 : decode cX8_takeFrom 10 = .ok (.getfield 31, 3) := by decide +kernel
theorem dX8_takeFrom_13 : decode cX8_takeFrom 13 = .ok (.putfield 31, 3) := by decide +kernel
theorem dX8_takeFrom_16 : decode cX8_takeFrom 16 = .ok (.aload_n 0, 1) := by decide +kernel
theorem dX8_takeFrom_17 : decode cX8_takeFrom 17 = .ok (.aload_n 1, 1) := by decide +kernel
theorem dX8_takeFrom_18 : decode cX8_takeFrom 18 = .ok (.getfield 34, 3) := by decide +kernel
theorem dX8_takeFrom_21 : decode cX8_takeFrom 21 = .ok (.putfield 34, 3) := by decide +kernel
theorem dX8_takeFrom_24 : decode cX8_takeFrom 24 = .ok (.aload_n 1, 1) := by decide +kernel
theorem dX8_takeFrom_25 : decode cX8_takeFrom 25 = .ok (.getfield 9, 3) := by decide +kernel
theorem dX8_takeFrom_28 : decode cX8_takeFrom 28 = .ok (.iconst 0, 1) := by decide +kernel
theorem dX8_takeFrom_29 : decode cX8_takeFrom 29 = .ok (.aload_n 0, 1) := by decide +kernel
theorem dX8_takeFrom_30 : decode cX8_takeFrom 30 = .ok (.getfield 9, 3) := by decide +kernel
theorem dX8_takeFrom_33 : decode cX8_takeFrom 33 = .ok (.iconst 0, 1) := by decide +kernel
theorem dX8_takeFrom_34 : decode cX8_takeFrom 34 = .ok (.iconst 5, 1) := by decide +kernel
theorem dX8_takeFrom_35 : decode cX8_takeFrom 35 = .ok (.invokestatic 37, 3) := by decide +kernel
theorem dX8_takeFrom_38 : decode cX8_takeFrom 38 = .ok (.aload_n 1, 1) := by decide +kernel
theorem dX8_takeFrom_39 : decode cX8_takeFrom 39 = .ok (.getfield 15, 3) := by decide +kernel
theorem dX8_takeFrom_42 : decode cX8_takeFrom 42 = .ok (.iconst 0, 1) := by decide +kernel
theorem dX8_takeFrom_43 : decode cX8_takeFrom 43 = .ok (.aload_n 0, 1) := by decide +kernel
theorem dX8_takeFrom_44 : decode cX8_takeFrom 44 = .ok (.getfield 15, 3) := by decide +kernel
theorem dX8_takeFrom_47 : decode cX8_takeFrom 47 = .ok (.iconst 0, 1) := by decide +kernel
theorem dX8_takeFrom_48 : decode cX8_takeFrom 48 = .ok (.bipush 6, 2) := by decide +kernel
theorem dX8_takeFrom_50 : decode cX8_takeFrom 50 = .ok (.invokestatic 37, 3) := by decide +kernel
theorem dX8_takeFrom_53 : decode cX8_takeFrom 53 = .ok (.aload_n 1, 1) := by decide +kernel
theorem dX8_takeFrom_54 : decode cX8_takeFrom 54 = .ok (.getfield 18, 3) := by decide +kernel
theorem dX8_takeFrom_57 : decode cX8_takeFrom 57 = .ok (.iconst 0, 1) := by decide +kernel
theorem dX8_takeFrom_58 : decode cX8_takeFrom 58 = .ok (.aload_n 0, 1) := by decide +kernel
theorem dX8_takeFrom_59 : decode cX8_takeFrom 59 = .ok (.getfield 18, 3) := by decide +kernel
theorem dX8_takeFrom_62 : decode cX8_takeFrom 62 = .ok (.iconst 0, 1) := by decide +kernel
theorem dX8_takeFrom_63 : decode cX8_takeFrom 63 = .ok (.bipush 6, 2) := by decide +kernel
theorem dX8_takeFrom_65 : decode cX8_takeFrom 65 = .ok (.invokestatic 37, 3) := by decide +kernel
theorem dX8_takeFrom_68 : decode cX8_takeFrom 68 = .ok (.aload_n 1, 1) := by decide +kernel
theorem dX8_takeFrom_69 : decode cX8_takeFrom 69 = .ok (.getfield 21, 3) := by decide +kernel
theorem dX8_takeFrom_72 : decode cX8_takeFrom 72 = .ok (.iconst 0, 1) := by decide +kernel
theorem dX8_takeFrom_73 : decode cX8_takeFrom 73 = .ok (.aload_n 0, 1) := by decide +kernel
theorem dX8_takeFrom_74 : decode cX8_takeFrom 74 = .ok (.getfield 21, 3) := by decide +kernel
theorem dX8_takeFrom_77 : decode cX8_takeFrom 77 = .ok (.iconst 0, 1) := by decide +kernel
theorem dX8_takeFrom_78 : decode cX8_takeFrom 78 = .ok (.bipush 6, 2) := by decide +kernel
theorem dX8_takeFrom_80 : decode cX8_takeFrom 80 = .ok (.invokestatic 37, 3) := by decide +kernel
theorem dX8_takeFrom_83 : decode cX8_takeFrom 83 = .ok (.aload_n 1, 1) := by decide +kernel
theorem dX8_takeFrom_84 : decode cX8_takeFrom 84 = .ok (.getfield 24, 3) := by decide +kernel
theorem dX8_takeFrom_87 : decode cX8_takeFrom 87 = .ok (.iconst 0, 1) := by decide +kernel
theorem dX8_takeFrom_88 : decode cX8_takeFrom 88 = .ok (.aload_n 0, 1) := by decide +kernel
theorem dX8_takeFrom_89 : decode cX8_takeFrom 89 = .ok (.getfield 24, 3) := by decide +kernel
theorem dX8_takeFrom_92 : decode cX8_takeFrom 92 = .ok (.iconst 0, 1) := by decide +kernel
theorem dX8_takeFrom_93 : decode cX8_takeFrom 93 = .ok (.bipush 6, 2) := by decide +kernel
theorem dX8_takeFrom_95 : decode cX8_takeFrom 95 = .ok (.invokestatic 37, 3) := by decide +kernel
theorem dX8_takeFrom_98 : decode cX8_takeFrom 98 = .ok (.return_, 1) := by decide +kernel
theorem dX8_hasPerson_0 : decode cX8_hasPerson 0 = .ok (.iload_n 1, 1) := by decide +kernel
theorem dX8_hasPerson_1 : decode cX8_hasPerson 1 = .ok (.ifCond .lt 15, 3) := by decide +kernel
theorem dX8_hasPerson_4 : decode cX8_hasPerson 4 = .ok (.iload_n 1, 1) := by decide +kernel
theorem dX8_hasPerson_5 : decode cX8_hasPerson 5 = .ok (.aload_n 0, 1) := by decide +kernel
theorem dX8_hasPerson_6 : decode cX8_hasPerson 6 = .ok (.getfield 31, 3) := by decide +kernel
theorem dX8_hasPerson_9 : decode cX8_hasPerson 9 = .ok (.if_icmp .ge 7, 3) := by decide +kernel
theorem dX8_hasPerson_12 : decode cX8_hasPerson 12 = .ok (.iconst 1, 1) := by decide +kernel
theorem dX8_hasPerson_13 : decode cX8_hasPerson 13 = .ok (.goto 4, 3) := by decide +kernel
theorem dX8_hasPerson_16 : decode cX8_hasPerson 16 = .ok (.iconst 0, 1) := by decide +kernel
theorem dX8_hasPerson_17 : decode cX8_hasPerson 17 = .ok (.ireturn, 1) := by decide +kernel
theorem dX8_hasSpeech_0 : decode cX8_hasSpeech 0 = .ok (.iload_n 1, 1) := by decide +kernel
theorem dX8_hasSpeech_1 : decode cX8_hasSpeech 1 = .ok (.ifCond .lt 15, 3) := by decide +kernel
theorem dX8_hasSpeech_4 : decode cX8_hasSpeech 4 = .ok (.iload_n 1, 1) := by decide +kernel
theorem dX8_hasSpeech_5 : decode cX8_hasSpeech 5 = .ok (.aload_n 0, 1) := by decide +kernel
theorem dX8_hasSpeech_6 : decode cX8_hasSpeech 6 = .ok (.getfield 34, 3) := by decide +kernel
theorem dX8_hasSpeech_9 : decode cX8_hasSpeech 9 = .ok (.if_icmp .ge 7, 3) := by decide +kernel
theorem dX8_hasSpeech_12 : decode cX8_hasSpeech 12 = .ok (.iconst 1, 1) := by decide +kernel
theorem dX8_hasSpeech_13 : decode cX8_hasSpeech 13 = .ok (.goto 4, 3) := by decide +kernel
theorem dX8_hasSpeech_16 : decode cX8_hasSpeech 16 = .ok (.iconst 0, 1) := by decide +kernel
theorem dX8_hasSpeech_17 : decode cX8_hasSpeech 17 = .ok (.ireturn, 1) := by decide +kernel
theorem dX8_everyone_0 : decode cX8_everyone 0 = .ok (.iconst 1, 1) := by decide +kernel
theorem dX8_everyone_1 : decode cX8_everyone 1 = .ok (.aload_n 0, 1) := by decide +kernel
theorem dX8_everyone_2 : decode cX8_everyone 2 = .ok (.getfield 31, 3) := by decide +kernel
theorem dX8_everyone_5 : decode cX8_everyone 5 = .ok (.ishl, 1) := by decide +kernel
theorem dX8_everyone_6 : decode cX8_everyone 6 = .ok (.iconst 1, 1) := by decide +kernel
theorem dX8_everyone_7 : decode cX8_everyone 7 = .ok (.isub, 1) := by decide +kernel
theorem dX8_everyone_8 : decode cX8_everyone 8 = .ok (.ireturn, 1) := by decide +kernel
theorem dX8_words_0 : decode cX8_words 0 = .ok (.aload_n 0, 1) := by decide +kernel
theorem dX8_words_1 : decode cX8_words 1 = .ok (.getfield 15, 3) := by decide +kernel
theorem dX8_words_4 : decode cX8_words 4 = .ok (.iload_n 1, 1) := by decide +kernel
theorem dX8_words_5 : decode cX8_words 5 = .ok (.iaload, 1) := by decide +kernel
theorem dX8_words_6 : decode cX8_words 6 = .ok (.tableswitch 53 1 3 #[26, 33, 44], 26) := by decide +kernel
theorem dX8_words_32 : decode cX8_words 32 = .ok (.aload_n 0, 1) := by decide +kernel
theorem dX8_words_33 : decode cX8_words 33 = .ok (.getfield 21, 3) := by decide +kernel
theorem dX8_words_36 : decode cX8_words 36 = .ok (.iload_n 1, 1) := by decide +kernel
theorem dX8_words_37 : decode cX8_words 37 = .ok (.iaload, 1) := by decide +kernel
theorem dX8_words_38 : decode cX8_words 38 = .ok (.ireturn, 1) := by decide +kernel
theorem dX8_words_39 : decode cX8_words 39 = .ok (.aload_n 0, 1) := by decide +kernel
theorem dX8_words_40 : decode cX8_words 40 = .ok (.getfield 21, 3) := by decide +kernel
theorem dX8_words_43 : decode cX8_words 43 = .ok (.iload_n 1, 1) := by decide +kernel
theorem dX8_words_44 : decode cX8_words 44 = .ok (.iaload, 1) := by decide +kernel
theorem dX8_words_45 : decode cX8_words 45 = .ok (.iconst 1, 1) := by decide +kernel
theorem dX8_words_46 : decode cX8_words 46 = .ok (.iadd, 1) := by decide +kernel
theorem dX8_words_47 : decode cX8_words 47 = .ok (.iconst 2, 1) := by decide +kernel
theorem dX8_words_48 : decode cX8_words 48 = .ok (.idiv, 1) := by decide +kernel
theorem dX8_words_49 : decode cX8_words 49 = .ok (.ireturn, 1) := by decide +kernel
theorem dX8_words_50 : decode cX8_words 50 = .ok (.iconst 2, 1) := by decide +kernel
theorem dX8_words_51 : decode cX8_words 51 = .ok (.aload_n 0, 1) := by decide +kernel
theorem dX8_words_52 : decode cX8_words 52 = .ok (.getfield 21, 3) := by decide +kernel
theorem dX8_words_55 : decode cX8_words 55 = .ok (.iload_n 1, 1) := by decide +kernel
theorem dX8_words_56 : decode cX8_words 56 = .ok (.iaload, 1) := by decide +kernel
theorem dX8_words_57 : decode cX8_words 57 = .ok (.imul, 1) := by decide +kernel
theorem dX8_words_58 : decode cX8_words 58 = .ok (.ireturn, 1) := by decide +kernel
theorem dX8_words_59 : decode cX8_words 59 = .ok (.iconst 0, 1) := by decide +kernel
theorem dX8_words_60 : decode cX8_words 60 = .ok (.ireturn, 1) := by decide +kernel
theorem dX8_withBeside_0 : decode cX8_withBeside 0 = .ok (.iload_n 1, 1) := by decide +kernel
theorem dX8_withBeside_1 : decode cX8_withBeside 1 = .ok (.iconst 1, 1) := by decide +kernel
theorem dX8_withBeside_2 : decode cX8_withBeside 2 = .ok (.ishl, 1) := by decide +kernel
theorem dX8_withBeside_3 : decode cX8_withBeside 3 = .ok (.iload_n 1, 1) := by decide +kernel
theorem dX8_withBeside_4 : decode cX8_withBeside 4 = .ok (.aload_n 0, 1) := by decide +kernel
theorem dX8_withBeside_5 : decode cX8_withBeside 5 = .ok (.getfield 31, 3) := by decide +kernel
theorem dX8_withBeside_8 : decode cX8_withBeside 8 = .ok (.iconst 1, 1) := by decide +kernel
theorem dX8_withBeside_9 : decode cX8_withBeside 9 = .ok (.isub, 1) := by decide +kernel
theorem dX8_withBeside_10 : decode cX8_withBeside 10 = .ok (.ishr, 1) := by decide +kernel
theorem dX8_withBeside_11 : decode cX8_withBeside 11 = .ok (.ior, 1) := by decide +kernel
theorem dX8_withBeside_12 : decode cX8_withBeside 12 = .ok (.istore_n 2, 1) := by decide +kernel
theorem dX8_withBeside_13 : decode cX8_withBeside 13 = .ok (.iload_n 1, 1) := by decide +kernel
theorem dX8_withBeside_14 : decode cX8_withBeside 14 = .ok (.iconst 1, 1) := by decide +kernel
theorem dX8_withBeside_15 : decode cX8_withBeside 15 = .ok (.ishr, 1) := by decide +kernel
theorem dX8_withBeside_16 : decode cX8_withBeside 16 = .ok (.iload_n 1, 1) := by decide +kernel
theorem dX8_withBeside_17 : decode cX8_withBeside 17 = .ok (.aload_n 0, 1) := by decide +kernel
theorem dX8_withBeside_18 : decode cX8_withBeside 18 = .ok (.getfield 31, 3) := by decide +kernel
theorem dX8_withBeside_21 : decode cX8_withBeside 21 = .ok (.iconst 1, 1) := by decide +kernel
theorem dX8_withBeside_22 : decode cX8_withBeside 22 = .ok (.isub, 1) := by decide +kernel
theorem dX8_withBeside_23 : decode cX8_withBeside 23 = .ok (.ishl, 1) := by decide +kernel
theorem dX8_withBeside_24 : decode cX8_withBeside 24 = .ok (.ior, 1) := by decide +kernel
theorem dX8_withBeside_25 : decode cX8_withBeside 25 = .ok (.istore_n 3, 1) := by decide +kernel
theorem dX8_withBeside_26 : decode cX8_withBeside 26 = .ok (.iload_n 1, 1) := by decide +kernel
theorem dX8_withBeside_27 : decode cX8_withBeside 27 = .ok (.iload_n 2, 1) := by decide +kernel
theorem dX8_withBeside_28 : decode cX8_withBeside 28 = .ok (.ior, 1) := by decide +kernel
theorem dX8_withBeside_29 : decode cX8_withBeside 29 = .ok (.iload_n 3, 1) := by decide +kernel
theorem dX8_withBeside_30 : decode cX8_withBeside 30 = .ok (.ior, 1) := by decide +kernel
theorem dX8_withBeside_31 : decode cX8_withBeside 31 = .ok (.aload_n 0, 1) := by decide +kernel
theorem dX8_withBeside_32 : decode cX8_withBeside 32 = .ok (.invokevirtual 43, 3) := by decide +kernel
theorem dX8_withBeside_35 : decode cX8_withBeside 35 = .ok (.iand, 1) := by decide +kernel
theorem dX8_withBeside_36 : decode cX8_withBeside 36 = .ok (.ireturn, 1) := by decide +kernel
theorem dX8_reachedBySaying_0 : decode cX8_reachedBySaying 0 = .ok (.iload_n 1, 1) := by decide +kernel
theorem dX8_reachedBySaying_1 : decode cX8_reachedBySaying 1 = .ok (.iconst 4, 1) := by decide +kernel
theorem dX8_reachedBySaying_2 : decode cX8_reachedBySaying 2 = .ok (.if_icmp .eq 13, 3) := by decide +kernel
theorem dX8_reachedBySaying_5 : decode cX8_reachedBySaying 5 = .ok (.iload_n 1, 1) := by decide +kernel
theorem dX8_reachedBySaying_6 : decode cX8_reachedBySaying 6 = .ok (.iconst 5, 1) := by decide +kernel
theorem dX8_reachedBySaying_7 : decode cX8_reachedBySaying 7 = .ok (.if_icmp .eq 8, 3) := by decide +kernel
theorem dX8_reachedBySaying_10 : decode cX8_reachedBySaying 10 = .ok (.aload_n 0, 1) := by decide +kernel
theorem dX8_reachedBySaying_11 : decode cX8_reachedBySaying 11 = .ok (.invokevirtual 43, 3) := by decide +kernel
theorem dX8_reachedBySaying_14 : decode cX8_reachedBySaying 14 = .ok (.ireturn, 1) := by decide +kernel
theorem dX8_reachedBySaying_15 : decode cX8_reachedBySaying 15 = .ok (.iconst 1, 1) := by decide +kernel
theorem dX8_reachedBySaying_16 : decode cX8_reachedBySaying 16 = .ok (.iload_n 2, 1) := by decide +kernel
theorem dX8_reachedBySaying_17 : decode cX8_reachedBySaying 17 = .ok (.ishl, 1) := by decide +kernel
theorem dX8_reachedBySaying_18 : decode cX8_reachedBySaying 18 = .ok (.istore 4, 2) := by decide +kernel
theorem dX8_reachedBySaying_20 : decode cX8_reachedBySaying 20 = .ok (.iload 4, 2) := by decide +kernel
theorem dX8_reachedBySaying_22 : decode cX8_reachedBySaying 22 = .ok (.aload_n 0, 1) := by decide +kernel
theorem dX8_reachedBySaying_23 : decode cX8_reachedBySaying 23 = .ok (.iload 4, 2) := by decide +kernel
theorem dX8_reachedBySaying_25 : decode cX8_reachedBySaying 25 = .ok (.invokevirtual 47, 3) := by decide +kernel
theorem dX8_reachedBySaying_28 : decode cX8_reachedBySaying 28 = .ok (.iload_n 3, 1) := by decide +kernel
theorem dX8_reachedBySaying_29 : decode cX8_reachedBySaying 29 = .ok (.iconst (-1), 1) := by decide +kernel
theorem dX8_reachedBySaying_30 : decode cX8_reachedBySaying 30 = .ok (.ixor, 1) := by decide +kernel
theorem dX8_reachedBySaying_31 : decode cX8_reachedBySaying 31 = .ok (.iand, 1) := by decide +kernel
theorem dX8_reachedBySaying_32 : decode cX8_reachedBySaying 32 = .ok (.ior, 1) := by decide +kernel
theorem dX8_reachedBySaying_33 : decode cX8_reachedBySaying 33 = .ok (.ireturn, 1) := by decide +kernel
theorem dX8_onward_0 : decode cX8_onward 0 = .ok (.iload_n 1, 1) := by decide +kernel
theorem dX8_onward_1 : decode cX8_onward 1 = .ok (.iconst 4, 1) := by decide +kernel
theorem dX8_onward_2 : decode cX8_onward 2 = .ok (.if_icmp .ne 7, 3) := by decide +kernel
theorem dX8_onward_5 : decode cX8_onward 5 = .ok (.iconst 1, 1) := by decide +kernel
theorem dX8_onward_6 : decode cX8_onward 6 = .ok (.goto 13, 3) := by decide +kernel
theorem dX8_onward_9 : decode cX8_onward 9 = .ok (.iload_n 1, 1) := by decide +kernel
theorem dX8_onward_10 : decode cX8_onward 10 = .ok (.iconst 5, 1) := by decide +kernel
theorem dX8_onward_11 : decode cX8_onward 11 = .ok (.if_icmp .ne 7, 3) := by decide +kernel
theorem dX8_onward_14 : decode cX8_onward 14 = .ok (.iconst 2, 1) := by decide +kernel
theorem dX8_onward_15 : decode cX8_onward 15 = .ok (.goto 4, 3) := by decide +kernel
theorem dX8_onward_18 : decode cX8_onward 18 = .ok (.iconst 0, 1) := by decide +kernel
theorem dX8_onward_19 : decode cX8_onward 19 = .ok (.istore 5, 2) := by decide +kernel
theorem dX8_onward_21 : decode cX8_onward 21 = .ok (.iconst 5, 1) := by decide +kernel
theorem dX8_onward_22 : decode cX8_onward 22 = .ok (.iload 4, 2) := by decide +kernel
theorem dX8_onward_24 : decode cX8_onward 24 = .ok (.iload 5, 2) := by decide +kernel
theorem dX8_onward_26 : decode cX8_onward 26 = .ok (.imul, 1) := by decide +kernel
theorem dX8_onward_27 : decode cX8_onward 27 = .ok (.invokestatic 51, 3) := by decide +kernel
theorem dX8_onward_30 : decode cX8_onward 30 = .ok (.istore 6, 2) := by decide +kernel
theorem dX8_onward_32 : decode cX8_onward 32 = .ok (.iload_n 2, 1) := by decide +kernel
theorem dX8_onward_33 : decode cX8_onward 33 = .ok (.istore 7, 2) := by decide +kernel
theorem dX8_onward_35 : decode cX8_onward 35 = .ok (.iconst 0, 1) := by decide +kernel
theorem dX8_onward_36 : decode cX8_onward 36 = .ok (.istore 8, 2) := by decide +kernel
theorem dX8_onward_38 : decode cX8_onward 38 = .ok (.iload 8, 2) := by decide +kernel
theorem dX8_onward_40 : decode cX8_onward 40 = .ok (.iload 6, 2) := by decide +kernel
theorem dX8_onward_42 : decode cX8_onward 42 = .ok (.if_icmp .ge 24, 3) := by decide +kernel
theorem dX8_onward_45 : decode cX8_onward 45 = .ok (.iload 7, 2) := by decide +kernel
theorem dX8_onward_47 : decode cX8_onward 47 = .ok (.aload_n 0, 1) := by decide +kernel
theorem dX8_onward_48 : decode cX8_onward 48 = .ok (.iload 7, 2) := by decide +kernel
theorem dX8_onward_50 : decode cX8_onward 50 = .ok (.invokevirtual 47, 3) := by decide +kernel
theorem dX8_onward_53 : decode cX8_onward 53 = .ok (.iload_n 3, 1) := by decide +kernel
theorem dX8_onward_54 : decode cX8_onward 54 = .ok (.iconst (-1), 1) := by decide +kernel
theorem dX8_onward_55 : decode cX8_onward 55 = .ok (.ixor, 1) := by decide +kernel
theorem dX8_onward_56 : decode cX8_onward 56 = .ok (.iand, 1) := by decide +kernel
theorem dX8_onward_57 : decode cX8_onward 57 = .ok (.ior, 1) := by decide +kernel
theorem dX8_onward_58 : decode cX8_onward 58 = .ok (.istore 7, 2) := by decide +kernel
theorem dX8_onward_60 : decode cX8_onward 60 = .ok (.iinc 8 1, 3) := by decide +kernel
theorem dX8_onward_63 : decode cX8_onward 63 = .ok (.goto (-25), 3) := by decide +kernel
theorem dX8_onward_66 : decode cX8_onward 66 = .ok (.iload 7, 2) := by decide +kernel
theorem dX8_onward_68 : decode cX8_onward 68 = .ok (.ireturn, 1) := by decide +kernel
theorem dX9_init_0 : decode cX9_init 0 = .ok (.aload_n 0, 1) := by decide +kernel
theorem dX9_init_1 : decode cX9_init 1 = .ok (.invokespecial 1, 3) := by decide +kernel
theorem dX9_init_4 : decode cX9_init 4 = .ok (.aload_n 0, 1) := by decide +kernel
theorem dX9_init_5 : decode cX9_init 5 = .ok (.bipush 8, 2) := by decide +kernel
theorem dX9_init_7 : decode cX9_init 7 = .ok (.anewarray 9, 3) := by decide +kernel
theorem dX9_init_10 : decode cX9_init 10 = .ok (.putfield 11, 3) := by decide +kernel
theorem dX9_init_13 : decode cX9_init 13 = .ok (.aload_n 0, 1) := by decide +kernel
theorem dX9_init_14 : decode cX9_init 14 = .ok (.iconst 2, 1) := by decide +kernel
theorem dX9_init_15 : decode cX9_init 15 = .ok (.anewarray 15, 3) := by decide +kernel
theorem dX9_init_18 : decode cX9_init 18 = .ok (.putfield 17, 3) := by decide +kernel
theorem dX9_init_21 : decode cX9_init 21 = .ok (.aload_n 0, 1) := by decide +kernel
theorem dX9_init_22 : decode cX9_init 22 = .ok (.new 21, 3) := by decide +kernel
theorem dX9_init_25 : decode cX9_init 25 = .ok (.dup, 1) := by decide +kernel
theorem dX9_init_26 : decode cX9_init 26 = .ok (.invokespecial 23, 3) := by decide +kernel
theorem dX9_init_29 : decode cX9_init 29 = .ok (.putfield 24, 3) := by decide +kernel
theorem dX9_init_32 : decode cX9_init 32 = .ok (.aload_n 0, 1) := by decide +kernel
theorem dX9_init_33 : decode cX9_init 33 = .ok (.new 28, 3) := by decide +kernel
theorem dX9_init_36 : decode cX9_init 36 = .ok (.dup, 1) := by decide +kernel
theorem dX9_init_37 : decode cX9_init 37 = .ok (.aload_n 0, 1) := by decide +kernel
theorem dX9_init_38 : decode cX9_init 38 = .ok (.getfield 24, 3) := by decide +kernel
theorem dX9_init_41 : decode cX9_init 41 = .ok (.invokespecial 30, 3) := by decide +kernel
theorem dX9_init_44 : decode cX9_init 44 = .ok (.putfield 33, 3) := by decide +kernel
theorem dX9_init_47 : decode cX9_init 47 = .ok (.aload_n 0, 1) := by decide +kernel
theorem dX9_init_48 : decode cX9_init 48 = .ok (.new 28, 3) := by decide +kernel
theorem dX9_init_51 : decode cX9_init 51 = .ok (.dup, 1) := by decide +kernel
theorem dX9_init_52 : decode cX9_init 52 = .ok (.aload_n 0, 1) := by decide +kernel
theorem dX9_init_53 : decode cX9_init 53 = .ok (.getfield 24, 3) := by decide +kernel
theorem dX9_init_56 : decode cX9_init 56 = .ok (.invokespecial 30, 3) := by decide +kernel
theorem dX9_init_59 : decode cX9_init 59 = .ok (.putfield 37, 3) := by decide +kernel
theorem dX9_init_62 : decode cX9_init 62 = .ok (.aload_n 0, 1) := by decide +kernel
theorem dX9_init_63 : decode cX9_init 63 = .ok (.new 40, 3) := by decide +kernel
theorem dX9_init_66 : decode cX9_init 66 = .ok (.dup, 1) := by decide +kernel
theorem dX9_init_67 : decode cX9_init 67 = .ok (.aload_n 0, 1) := by decide +kernel
theorem dX9_init_68 : decode cX9_init 68 = .ok (.getfield 24, 3) := by decide +kernel
theorem dX9_init_71 : decode cX9_init 71 = .ok (.invokespecial 42, 3) := by decide +kernel
theorem dX9_init_74 : decode cX9_init 74 = .ok (.putfield 43, 3) := by decide +kernel
theorem dX9_init_77 : decode cX9_init 77 = .ok (.aload_n 0, 1) := by decide +kernel
theorem dX9_init_78 : decode cX9_init 78 = .ok (.new 47, 3) := by decide +kernel
theorem dX9_init_81 : decode cX9_init 81 = .ok (.dup, 1) := by decide +kernel
theorem dX9_init_82 : decode cX9_init 82 = .ok (.aload_n 0, 1) := by decide +kernel
theorem dX9_init_83 : decode cX9_init 83 = .ok (.getfield 24, 3) := by decide +kernel
theorem dX9_init_86 : decode cX9_init 86 = .ok (.invokespecial 49, 3) := by decide +kernel
theorem dX9_init_89 : decode cX9_init 89 = .ok (.putfield 50, 3) := by decide +kernel
theorem dX9_init_92 : decode cX9_init 92 = .ok (.aload_n 0, 1) := by decide +kernel
theorem dX9_init_93 : decode cX9_init 93 = .ok (.new 54, 3) := by decide +kernel
theorem dX9_init_96 : decode cX9_init 96 = .ok (.dup, 1) := by decide +kernel
theorem dX9_init_97 : decode cX9_init 97 = .ok (.invokespecial 56, 3) := by decide +kernel
theorem dX9_init_100 : decode cX9_init 100 = .ok (.putfield 57, 3) := by decide +kernel
theorem dX9_init_103 : decode cX9_init 103 = .ok (.aload_n 0, 1) := by decide +kernel
theorem dX9_init_104 : decode cX9_init 104 = .ok (.new 61, 3) := by decide +kernel
theorem dX9_init_107 : decode cX9_init 107 = .ok (.dup, 1) := by decide +kernel
theorem dX9_init_108 : decode cX9_init 108 = .ok (.invokespecial 63, 3) := by decide +kernel
theorem dX9_init_111 : decode cX9_init 111 = .ok (.putfield 64, 3) := by decide +kernel
theorem dX9_init_114 : decode cX9_init 114 = .ok (.aload_n 0, 1) := by decide +kernel
theorem dX9_init_115 : decode cX9_init 115 = .ok (.new 68, 3) := by decide +kernel
theorem dX9_init_118 : decode cX9_init 118 = .ok (.dup, 1) := by decide +kernel
theorem dX9_init_119 : decode cX9_init 119 = .ok (.aload_n 0, 1) := by decide +kernel
theorem dX9_init_120 : decode cX9_init 120 = .ok (.getfield 24, 3) := by decide +kernel
theorem dX9_init_123 : decode cX9_init 123 = .ok (.aload_n 0, 1) := by decide +kernel
theorem dX9_init_124 : decode cX9_init 124 = .ok (.getfield 33, 3) := by decide +kernel
theorem dX9_init_127 : decode cX9_init 127 = .ok (.invokespecial 70, 3) := by decide +kernel
theorem dX9_init_130 : decode cX9_init 130 = .ok (.putfield 73, 3) := by decide +kernel
theorem dX9_init_133 : decode cX9_init 133 = .ok (.iconst 0, 1) := by decide +kernel
theorem dX9_init_134 : decode cX9_init 134 = .ok (.istore_n 1, 1) := by decide +kernel
theorem dX9_init_135 : decode cX9_init 135 = .ok (.iload_n 1, 1) := by decide +kernel
theorem dX9_init_136 : decode cX9_init 136 = .ok (.bipush 8, 2) := by decide +kernel
theorem dX9_init_138 : decode cX9_init 138 = .ok (.if_icmp .ge 22, 3) := by decide +kernel
theorem dX9_init_141 : decode cX9_init 141 = .ok (.aload_n 0, 1) := by decide +kernel
theorem dX9_init_142 : decode cX9_init 142 = .ok (.getfield 11, 3) := by decide +kernel
theorem dX9_init_145 : decode cX9_init 145 = .ok (.iload_n 1, 1) := by decide +kernel
theorem dX9_init_146 : decode cX9_init 146 = .ok (.new 9, 3) := by decide +kernel
theorem dX9_init_149 : decode cX9_init 149 = .ok (.dup, 1) := by decide +kernel
theorem dX9_init_150 : decode cX9_init 150 = .ok (.invokespecial 77, 3) := by decide +kernel
theorem dX9_init_153 : decode cX9_init 153 = .ok (.aastore, 1) := by decide +kernel
theorem dX9_init_154 : decode cX9_init 154 = .ok (.iinc 1 1, 3) := by decide +kernel
theorem dX9_init_157 : decode cX9_init 157 = .ok (.goto (-22), 3) := by decide +kernel
theorem dX9_init_160 : decode cX9_init 160 = .ok (.iconst 0, 1) := by decide +kernel
theorem dX9_init_161 : decode cX9_init 161 = .ok (.istore_n 1, 1) := by decide +kernel
theorem dX9_init_162 : decode cX9_init 162 = .ok (.iload_n 1, 1) := by decide +kernel
theorem dX9_init_163 : decode cX9_init 163 = .ok (.iconst 2, 1) := by decide +kernel
theorem dX9_init_164 : decode cX9_init 164 = .ok (.if_icmp .ge 22, 3) := by decide +kernel
theorem dX9_init_167 : decode cX9_init 167 = .ok (.aload_n 0, 1) := by decide +kernel
theorem dX9_init_168 : decode cX9_init 168 = .ok (.getfield 17, 3) := by decide +kernel
theorem dX9_init_171 : decode cX9_init 171 = .ok (.iload_n 1, 1) := by decide +kernel
theorem dX9_init_172 : decode cX9_init 172 = .ok (.new 15, 3) := by decide +kernel
theorem dX9_init_175 : decode cX9_init 175 = .ok (.dup, 1) := by decide +kernel
theorem dX9_init_176 : decode cX9_init 176 = .ok (.invokespecial 78, 3) := by decide +kernel
theorem dX9_init_179 : decode cX9_init 179 = .ok (.aastore, 1) := by decide +kernel
theorem dX9_init_180 : decode cX9_init 180 = .ok (.iinc 1 1, 3) := by decide +kernel
theorem dX9_init_183 : decode cX9_init 183 = .ok (.goto (-21), 3) := by decide +kernel
theorem dX9_init_186 : decode cX9_init 186 = .ok (.return_, 1) := by decide +kernel
theorem dX9_row_0 : decode cX9_row 0 = .ok (.iload_n 1, 1) := by decide +kernel
theorem dX9_row_1 : decode cX9_row 1 = .ok (.invokestatic 79, 3) := by decide +kernel
theorem dX9_row_4 : decode cX9_row 4 = .ok (.ifCond .eq 18, 3) := by decide +kernel
theorem dX9_row_7 : decode cX9_row 7 = .ok (.iload_n 2, 1) := by decide +kernel
theorem dX9_row_8 : decode cX9_row 8 = .ok (.iconst 0, 1) := by decide +kernel
theorem dX9_row_9 : decode cX9_row 9 = .ok (.iconst 2, 1) := by decide +kernel
theorem dX9_row_10 : decode cX9_row 10 = .ok (.invokestatic 83, 3) := by decide +kernel
theorem dX9_row_13 : decode cX9_row 13 = .ok (.ifCond .eq 9, 3) := by decide +kernel
theorem dX9_row_16 : decode cX9_row 16 = .ok (.iload_n 3, 1) := by decide +kernel
theorem dX9_row_17 : decode cX9_row 17 = .ok (.bipush 40, 2) := by decide +kernel
theorem dX9_row_19 : decode cX9_row 19 = .ok (.if_icmp .le 6, 3) := by decide +kernel
theorem dX9_row_22 : decode cX9_row 22 = .ok (.ldc 87, 2) := by decide +kernel
theorem dX9_row_24 : decode cX9_row 24 = .ok (.ireturn, 1) := by decide +kernel
theorem dX9_row_25 : decode cX9_row 25 = .ok (.iload_n 3, 1) := by decide +kernel
theorem dX9_row_26 : decode cX9_row 26 = .ok (.ifCond .ge 9, 3) := by decide +kernel
theorem dX9_row_29 : decode cX9_row 29 = .ok (.aload_n 0, 1) := by decide +kernel
theorem dX9_row_30 : decode cX9_row 30 = .ok (.iconst 4, 1) := by decide +kernel
theorem dX9_row_31 : decode cX9_row 31 = .ok (.invokevirtual 88, 3) := by decide +kernel
theorem dX9_row_34 : decode cX9_row 34 = .ok (.ireturn, 1) := by decide +kernel
theorem dX9_row_35 : decode cX9_row 35 = .ok (.aload_n 0, 1) := by decide +kernel
theorem dX9_row_36 : decode cX9_row 36 = .ok (.getfield 11, 3) := by decide +kernel
theorem dX9_row_39 : decode cX9_row 39 = .ok (.iload_n 1, 1) := by decide +kernel
theorem dX9_row_40 : decode cX9_row 40 = .ok (.aaload, 1) := by decide +kernel
theorem dX9_row_41 : decode cX9_row 41 = .ok (.iload_n 2, 1) := by decide +kernel
theorem dX9_row_42 : decode cX9_row 42 = .ok (.iload_n 3, 1) := by decide +kernel
theorem dX9_row_43 : decode cX9_row 43 = .ok (.invokevirtual 92, 3) := by decide +kernel
theorem dX9_row_46 : decode cX9_row 46 = .ok (.aload_n 0, 1) := by decide +kernel
theorem dX9_row_47 : decode cX9_row 47 = .ok (.iload_n 3, 1) := by decide +kernel
theorem dX9_row_48 : decode cX9_row 48 = .ok (.invokevirtual 96, 3) := by decide +kernel
theorem dX9_row_51 : decode cX9_row 51 = .ok (.ireturn, 1) := by decide +kernel
theorem dX9_set_0 : decode cX9_set 0 = .ok (.iload_n 1, 1) := by decide +kernel
theorem dX9_set_1 : decode cX9_set 1 = .ok (.invokestatic 79, 3) := by decide +kernel
theorem dX9_set_4 : decode cX9_set 4 = .ok (.ifCond .ne 6, 3) := by decide +kernel
theorem dX9_set_7 : decode cX9_set 7 = .ok (.ldc 87, 2) := by decide +kernel
theorem dX9_set_9 : decode cX9_set 9 = .ok (.ireturn, 1) := by decide +kernel
theorem dX9_set_10 : decode cX9_set 10 = .ok (.aload_n 0, 1) := by decide +kernel
theorem dX9_set_11 : decode cX9_set 11 = .ok (.iload_n 1, 1) := by decide +kernel
theorem dX9_set_12 : decode cX9_set 12 = .ok (.iload_n 2, 1) := by decide +kernel
theorem dX9_set_13 : decode cX9_set 13 = .ok (.iconst 1, 1) := by decide +kernel
theorem dX9_set_14 : decode cX9_set 14 = .ok (.invokevirtual 99, 3) := by decide +kernel
theorem dX9_set_17 : decode cX9_set 17 = .ok (.istore 4, 2) := by decide +kernel
theorem dX9_set_19 : decode cX9_set 19 = .ok (.iload 4, 2) := by decide +kernel
theorem dX9_set_21 : decode cX9_set 21 = .ok (.ifCond .eq 10, 3) := by decide +kernel
theorem dX9_set_24 : decode cX9_set 24 = .ok (.aload_n 0, 1) := by decide +kernel
theorem dX9_set_25 : decode cX9_set 25 = .ok (.iload 4, 2) := by decide +kernel
theorem dX9_set_27 : decode cX9_set 27 = .ok (.invokevirtual 88, 3) := by decide +kernel
theorem dX9_set_30 : decode cX9_set 30 = .ok (.ireturn, 1) := by decide +kernel
theorem dX9_set_31 : decode cX9_set 31 = .ok (.aload_n 0, 1) := by decide +kernel
theorem dX9_set_32 : decode cX9_set 32 = .ok (.aload_n 0, 1) := by decide +kernel
theorem dX9_set_33 : decode cX9_set 33 = .ok (.getfield 11, 3) := by decide +kernel
theorem dX9_set_36 : decode cX9_set 36 = .ok (.iload_n 1, 1) := by decide +kernel
theorem dX9_set_37 : decode cX9_set 37 = .ok (.aaload, 1) := by decide +kernel
theorem dX9_set_38 : decode cX9_set 38 = .ok (.iload_n 2, 1) := by decide +kernel
theorem dX9_set_39 : decode cX9_set 39 = .ok (.iload_n 3, 1) := by decide +kernel
theorem dX9_set_40 : decode cX9_set 40 = .ok (.invokevirtual 103, 3) := by decide +kernel
theorem dX9_set_43 : decode cX9_set 43 = .ok (.invokevirtual 96, 3) := by decide +kernel
theorem dX9_set_46 : decode cX9_set 46 = .ok (.ireturn, 1) := by decide +kernel
theorem dX9_copy_0 : decode cX9_copy 0 = .ok (.iload_n 1, 1) := by decide +kernel
theorem dX9_copy_1 : decode cX9_copy 1 = .ok (.invokestatic 79, 3) := by decide +kernel
theorem dX9_copy_4 : decode cX9_copy 4 = .ok (.ifCond .eq 10, 3) := by decide +kernel
theorem dX9_copy_7 : decode cX9_copy 7 = .ok (.iload_n 3, 1) := by decide +kernel
theorem dX9_copy_8 : decode cX9_copy 8 = .ok (.invokestatic 79, 3) := by decide +kernel
theorem dX9_copy_11 : decode cX9_copy 11 = .ok (.ifCond .ne 6, 3) := by decide +kernel
theorem dX9_copy_14 : decode cX9_copy 14 = .ok (.ldc 87, 2) := by decide +kernel
theorem dX9_copy_16 : decode cX9_copy 16 = .ok (.ireturn, 1) := by decide +kernel
theorem dX9_copy_17 : decode cX9_copy 17 = .ok (.aload_n 0, 1) := by decide +kernel
theorem dX9_copy_18 : decode cX9_copy 18 = .ok (.getfield 11, 3) := by decide +kernel
theorem dX9_copy_21 : decode cX9_copy 21 = .ok (.iload_n 1, 1) := by decide +kernel
theorem dX9_copy_22 : decode cX9_copy 22 = .ok (.aaload, 1) := by decide +kernel
theorem dX9_copy_23 : decode cX9_copy 23 = .ok (.astore 6, 2) := by decide +kernel
theorem dX9_copy_25 : decode cX9_copy 25 = .ok (.aload_n 0, 1) := by decide +kernel
theorem dX9_copy_26 : decode cX9_copy 26 = .ok (.getfield 11, 3) := by decide +kernel
theorem dX9_copy_29 : decode cX9_copy 29 = .ok (.iload_n 3, 1) := by decide +kernel
theorem dX9_copy_30 : decode cX9_copy 30 = .ok (.aaload, 1) := by decide +kernel
theorem dX9_copy_31 : decode cX9_copy 31 = .ok (.astore 7, 2) := by decide +kernel
theorem dX9_copy_33 : decode cX9_copy 33 = .ok (.aload 6, 2) := by decide +kernel
theorem dX9_copy_35 : decode cX9_copy 35 = .ok (.getfield 107, 3) := by decide +kernel
theorem dX9_copy_38 : decode cX9_copy 38 = .ok (.ifCond .eq 11, 3) := by decide +kernel
theorem dX9_copy_41 : decode cX9_copy 41 = .ok (.aload 7, 2) := by decide +kernel
theorem dX9_copy_43 : decode cX9_copy 43 = .ok (.getfield 107, 3) := by decide +kernel
theorem dX9_copy_46 : decode cX9_copy 46 = .ok (.ifCond .ne 9, 3) := by decide +kernel
theorem dX9_copy_49 : decode cX9_copy 49 = .ok (.aload_n 0, 1) := by decide +kernel
theorem dX9_copy_50 : decode cX9_copy 50 = .ok (.iconst 1, 1) := by decide +kernel
theorem dX9_copy_51 : decode cX9_copy 51 = .ok (.invokevirtual 88, 3) := by decide +kernel
theorem dX9_copy_54 : decode cX9_copy 54 = .ok (.ireturn, 1) := by decide +kernel
theorem dX9_copy_55 : decode cX9_copy 55 = .ok (.aload 6, 2) := by decide +kernel
theorem dX9_copy_57 : decode cX9_copy 57 = .ok (.getfield 111, 3) := by decide +kernel
theorem dX9_copy_60 : decode cX9_copy 60 = .ok (.aload 7, 2) := by decide +kernel
theorem dX9_copy_62 : decode cX9_copy 62 = .ok (.getfield 111, 3) := by decide +kernel
theorem dX9_copy_65 : decode cX9_copy 65 = .ok (.if_icmp .eq 9, 3) := by decide +kernel
theorem dX9_copy_68 : decode cX9_copy 68 = .ok (.aload_n 0, 1) := by decide +kernel
theorem dX9_copy_69 : decode cX9_copy 69 = .ok (.iconst 5, 1) := by decide +kernel
theorem dX9_copy_70 : decode cX9_copy 70 = .ok (.invokevirtual 88, 3) := by decide +kernel
theorem dX9_copy_73 : decode cX9_copy 73 = .ok (.ireturn, 1) := by decide +kernel
theorem dX9_copy_74 : decode cX9_copy 74 = .ok (.aload 6, 2) := by decide +kernel
theorem dX9_copy_76 : decode cX9_copy 76 = .ok (.iload_n 2, 1) := by decide +kernel
theorem dX9_copy_77 : decode cX9_copy 77 = .ok (.iload 5, 2) := by decide +kernel
theorem dX9_copy_79 : decode cX9_copy 79 = .ok (.invokevirtual 115, 3) := by decide +kernel
theorem dX9_copy_82 : decode cX9_copy 82 = .ok (.ifCond .eq 15, 3) := by decide +kernel
theorem dX9_copy_85 : decode cX9_copy 85 = .ok (.aload 7, 2) := by decide +kernel
theorem dX9_copy_87 : decode cX9_copy 87 = .ok (.iload 4, 2) := by decide +kernel
theorem dX9_copy_89 : decode cX9_copy 89 = .ok (.iload 5, 2) := by decide +kernel
theorem dX9_copy_91 : decode cX9_copy 91 = .ok (.invokevirtual 115, 3) := by decide +kernel
theorem dX9_copy_94 : decode cX9_copy 94 = .ok (.ifCond .ne 9, 3) := by decide +kernel
theorem dX9_copy_97 : decode cX9_copy 97 = .ok (.aload_n 0, 1) := by decide +kernel
theorem dX9_copy_98 : decode cX9_copy 98 = .ok (.iconst 2, 1) := by decide +kernel
theorem dX9_copy_99 : decode cX9_copy 99 = .ok (.invokevirtual 88, 3) := by decide +kernel
theorem dX9_copy_102 : decode cX9_copy 102 = .ok (.ireturn, 1) := by decide +kernel
theorem dX9_copy_103 : decode cX9_copy 103 = .ok (.aload 6, 2) := by decide +kernel
theorem dX9_copy_105 : decode cX9_copy 105 = .ok (.getfield 119, 3) := by decide +kernel
theorem dX9_copy_108 : decode cX9_copy 108 = .ok (.iload_n 2, 1) := by decide +kernel
theorem dX9_copy_109 : decode cX9_copy 109 = .ok (.aload 7, 2) := by decide +kernel
theorem dX9_copy_111 : decode cX9_copy 111 = .ok (.getfield 119, 3) := by decide +kernel
theorem dX9_copy_114 : decode cX9_copy 114 = .ok (.iload 4, 2) := by decide +kernel
theorem dX9_copy_116 : decode cX9_copy 116 = .ok (.iload 5, 2) := by decide +kernel
theorem dX9_copy_118 : decode cX9_copy 118 = .ok (.invokestatic 123, 3) := by decide +kernel
theorem dX9_copy_121 : decode cX9_copy 121 = .ok (.aload_n 0, 1) := by decide +kernel
theorem dX9_copy_122 : decode cX9_copy 122 = .ok (.iload 5, 2) := by decide +kernel
theorem dX9_copy_124 : decode cX9_copy 124 = .ok (.invokevirtual 96, 3) := by decide +kernel
theorem dX9_copy_127 : decode cX9_copy 127 = .ok (.ireturn, 1) := by decide +kernel
theorem dX9_drop_0 : decode cX9_drop 0 = .ok (.iload_n 1, 1) := by decide +kernel
theorem dX9_drop_1 : decode cX9_drop 1 = .ok (.invokestatic 79, 3) := by decide +kernel
theorem dX9_drop_4 : decode cX9_drop 4 = .ok (.ifCond .ne 6, 3) := by decide +kernel
theorem dX9_drop_7 : decode cX9_drop 7 = .ok (.ldc 87, 2) := by decide +kernel
theorem dX9_drop_9 : decode cX9_drop 9 = .ok (.ireturn, 1) := by decide +kernel
theorem dX9_drop_10 : decode cX9_drop 10 = .ok (.aload_n 0, 1) := by decide +kernel
theorem dX9_drop_11 : decode cX9_drop 11 = .ok (.getfield 11, 3) := by decide +kernel
theorem dX9_drop_14 : decode cX9_drop 14 = .ok (.iload_n 1, 1) := by decide +kernel
theorem dX9_drop_15 : decode cX9_drop 15 = .ok (.aaload, 1) := by decide +kernel
theorem dX9_drop_16 : decode cX9_drop 16 = .ok (.getfield 107, 3) := by decide +kernel
theorem dX9_drop_19 : decode cX9_drop 19 = .ok (.ifCond .ne 9, 3) := by decide +kernel
theorem dX9_drop_22 : decode cX9_drop 22 = .ok (.aload_n 0, 1) := by decide +kernel
theorem dX9_drop_23 : decode cX9_drop 23 = .ok (.iconst 1, 1) := by decide +kernel
theorem dX9_drop_24 : decode cX9_drop 24 = .ok (.invokevirtual 88, 3) := by decide +kernel
theorem dX9_drop_27 : decode cX9_drop 27 = .ok (.ireturn, 1) := by decide +kernel
theorem dX9_drop_28 : decode cX9_drop 28 = .ok (.aload_n 0, 1) := by decide +kernel
theorem dX9_drop_29 : decode cX9_drop 29 = .ok (.getfield 11, 3) := by decide +kernel
theorem dX9_drop_32 : decode cX9_drop 32 = .ok (.iload_n 1, 1) := by decide +kernel
theorem dX9_drop_33 : decode cX9_drop 33 = .ok (.aaload, 1) := by decide +kernel
theorem dX9_drop_34 : decode cX9_drop 34 = .ok (.iconst 0, 1) := by decide +kernel
theorem dX9_drop_35 : decode cX9_drop 35 = .ok (.putfield 107, 3) := by decide +kernel
theorem dX9_drop_38 : decode cX9_drop 38 = .ok (.aload_n 0, 1) := by decide +kernel
theorem dX9_drop_39 : decode cX9_drop 39 = .ok (.aload_n 0, 1) := by decide +kernel
theorem dX9_drop_40 : decode cX9_drop 40 = .ok (.getfield 11, 3) := by decide +kernel
theorem dX9_drop_43 : decode cX9_drop 43 = .ok (.iload_n 1, 1) := by decide +kernel
theorem dX9_drop_44 : decode cX9_drop 44 = .ok (.aaload, 1) := by decide +kernel
theorem dX9_drop_45 : decode cX9_drop 45 = .ok (.getfield 129, 3) := by decide +kernel
theorem dX9_drop_48 : decode cX9_drop 48 = .ok (.invokevirtual 96, 3) := by decide +kernel
theorem dX9_drop_51 : decode cX9_drop 51 = .ok (.ireturn, 1) := by decide +kernel
theorem dX9_feed_0 : decode cX9_feed 0 = .ok (.iload_n 1, 1) := by decide +kernel
theorem dX9_feed_1 : decode cX9_feed 1 = .ok (.iconst 0, 1) := by decide +kernel
theorem dX9_feed_2 : decode cX9_feed 2 = .ok (.sipush 255, 3) := by decide +kernel
theorem dX9_feed_5 : decode cX9_feed 5 = .ok (.invokestatic 83, 3) := by decide +kernel
theorem dX9_feed_8 : decode cX9_feed 8 = .ok (.ifCond .ne 6, 3) := by decide +kernel
theorem dX9_feed_11 : decode cX9_feed 11 = .ok (.ldc 87, 2) := by decide +kernel
theorem dX9_feed_13 : decode cX9_feed 13 = .ok (.ireturn, 1) := by decide +kernel
theorem dX9_feed_14 : decode cX9_feed 14 = .ok (.aload_n 0, 1) := by decide +kernel
theorem dX9_feed_15 : decode cX9_feed 15 = .ok (.getfield 64, 3) := by decide +kernel
theorem dX9_feed_18 : decode cX9_feed 18 = .ok (.iload_n 1, 1) := by decide +kernel
theorem dX9_feed_19 : decode cX9_feed 19 = .ok (.invokevirtual 132, 3) := by decide +kernel
theorem dX9_feed_22 : decode cX9_feed 22 = .ok (.ifCond .eq 13, 3) := by decide +kernel
theorem dX9_feed_25 : decode cX9_feed 25 = .ok (.aload_n 0, 1) := by decide +kernel
theorem dX9_feed_26 : decode cX9_feed 26 = .ok (.getfield 64, 3) := by decide +kernel
theorem dX9_feed_29 : decode cX9_feed 29 = .ok (.getfield 135, 3) := by decide +kernel
theorem dX9_feed_32 : decode cX9_feed 32 = .ok (.goto 5, 3) := by decide +kernel
theorem dX9_feed_35 : decode cX9_feed 35 = .ok (.ldc 138, 2) := by decide +kernel
theorem dX9_feed_37 : decode cX9_feed 37 = .ok (.ireturn, 1) := by decide +kernel
theorem dX9_duchy_0 : decode cX9_duchy 0 = .ok (.aload_n 0, 1) := by decide +kernel
theorem dX9_duchy_1 : decode cX9_duchy 1 = .ok (.getfield 64, 3) := by decide +kernel
theorem dX9_duchy_4 : decode cX9_duchy 4 = .ok (.invokevirtual 139, 3) := by decide +kernel
theorem dX9_duchy_7 : decode cX9_duchy 7 = .ok (.ifCond .ne 14, 3) := by decide +kernel
theorem dX9_duchy_10 : decode cX9_duchy 10 = .ok (.ldc 143, 2) := by decide +kernel
theorem dX9_duchy_12 : decode cX9_duchy 12 = .ok (.aload_n 0, 1) := by decide +kernel
theorem dX9_duchy_13 : decode cX9_duchy 13 = .ok (.getfield 64, 3) := by decide +kernel
theorem dX9_duchy_16 : decode cX9_duchy 16 = .ok (.getfield 144, 3) := by decide +kernel
theorem dX9_duchy_19 : decode cX9_duchy 19 = .ok (.isub, 1) := by decide +kernel
theorem dX9_duchy_20 : decode cX9_duchy 20 = .ok (.ireturn, 1) := by decide +kernel
theorem dX9_duchy_21 : decode cX9_duchy 21 = .ok (.aload_n 0, 1) := by decide +kernel
theorem dX9_duchy_22 : decode cX9_duchy 22 = .ok (.getfield 24, 3) := by decide +kernel
theorem dX9_duchy_25 : decode cX9_duchy 25 = .ok (.aload_n 0, 1) := by decide +kernel
theorem dX9_duchy_26 : decode cX9_duchy 26 = .ok (.getfield 64, 3) := by decide +kernel
theorem dX9_duchy_29 : decode cX9_duchy 29 = .ok (.getfield 147, 3) := by decide +kernel
theorem dX9_duchy_32 : decode cX9_duchy 32 = .ok (.invokevirtual 148, 3) := by decide +kernel
theorem dX9_duchy_35 : decode cX9_duchy 35 = .ok (.aload_n 0, 1) := by decide +kernel
theorem dX9_duchy_36 : decode cX9_duchy 36 = .ok (.getfield 33, 3) := by decide +kernel
theorem dX9_duchy_39 : decode cX9_duchy 39 = .ok (.aload_n 0, 1) := by decide +kernel
theorem dX9_duchy_40 : decode cX9_duchy 40 = .ok (.getfield 64, 3) := by decide +kernel
theorem dX9_duchy_43 : decode cX9_duchy 43 = .ok (.getfield 151, 3) := by decide +kernel
theorem dX9_duchy_46 : decode cX9_duchy 46 = .ok (.invokevirtual 152, 3) := by decide +kernel
theorem dX9_duchy_49 : decode cX9_duchy 49 = .ok (.aload_n 0, 1) := by decide +kernel
theorem dX9_duchy_50 : decode cX9_duchy 50 = .ok (.getfield 43, 3) := by decide +kernel
theorem dX9_duchy_53 : decode cX9_duchy 53 = .ok (.invokevirtual 155, 3) := by decide +kernel
theorem dX9_duchy_56 : decode cX9_duchy 56 = .ok (.aload_n 0, 1) := by decide +kernel
theorem dX9_duchy_57 : decode cX9_duchy 57 = .ok (.getfield 24, 3) := by decide +kernel
theorem dX9_duchy_60 : decode cX9_duchy 60 = .ok (.getfield 158, 3) := by decide +kernel
theorem dX9_duchy_63 : decode cX9_duchy 63 = .ok (.ireturn, 1) := by decide +kernel
theorem dX9_fault_0 : decode cX9_fault 0 = .ok (.aload_n 0, 1) := by decide +kernel
theorem dX9_fault_1 : decode cX9_fault 1 = .ok (.getfield 64, 3) := by decide +kernel
theorem dX9_fault_4 : decode cX9_fault 4 = .ok (.getfield 161, 3) := by decide +kernel
theorem dX9_fault_7 : decode cX9_fault 7 = .ok (.ireturn, 1) := by decide +kernel
theorem dX9_undo_0 : decode cX9_undo 0 = .ok (.aload_n 0, 1) := by decide +kernel
theorem dX9_undo_1 : decode cX9_undo 1 = .ok (.getfield 43, 3) := by decide +kernel
theorem dX9_undo_4 : decode cX9_undo 4 = .ok (.aload_n 0, 1) := by decide +kernel
theorem dX9_undo_5 : decode cX9_undo 5 = .ok (.getfield 33, 3) := by decide +kernel
theorem dX9_undo_8 : decode cX9_undo 8 = .ok (.invokevirtual 164, 3) := by decide +kernel
theorem dX9_undo_11 : decode cX9_undo 11 = .ok (.ifCond .eq 13, 3) := by decide +kernel
theorem dX9_undo_14 : decode cX9_undo 14 = .ok (.aload_n 0, 1) := by decide +kernel
theorem dX9_undo_15 : decode cX9_undo 15 = .ok (.getfield 43, 3) := by decide +kernel
theorem dX9_undo_18 : decode cX9_undo 18 = .ok (.getfield 168, 3) := by decide +kernel
theorem dX9_undo_21 : decode cX9_undo 21 = .ok (.goto 5, 3) := by decide +kernel
theorem dX9_undo_24 : decode cX9_undo 24 = .ok (.ldc 171, 2) := by decide +kernel
theorem dX9_undo_26 : decode cX9_undo 26 = .ok (.ireturn, 1) := by decide +kernel
theorem dX9_weeks_0 : decode cX9_weeks 0 = .ok (.aload_n 0, 1) := by decide +kernel
theorem dX9_weeks_1 : decode cX9_weeks 1 = .ok (.invokevirtual 172, 3) := by decide +kernel
theorem dX9_weeks_4 : decode cX9_weeks 4 = .ok (.ifCond .eq 6, 3) := by decide +kernel
theorem dX9_weeks_7 : decode cX9_weeks 7 = .ok (.ldc 171, 2) := by decide +kernel
theorem dX9_weeks_9 : decode cX9_weeks 9 = .ok (.ireturn, 1) := by decide +kernel
theorem dX9_weeks_10 : decode cX9_weeks 10 = .ok (.iload_n 1, 1) := by decide +kernel
theorem dX9_weeks_11 : decode cX9_weeks 11 = .ok (.iconst 1, 1) := by decide +kernel
theorem dX9_weeks_12 : decode cX9_weeks 12 = .ok (.bipush 24, 2) := by decide +kernel
theorem dX9_weeks_14 : decode cX9_weeks 14 = .ok (.invokestatic 83, 3) := by decide +kernel
theorem dX9_weeks_17 : decode cX9_weeks 17 = .ok (.ifCond .ne 6, 3) := by decide +kernel
theorem dX9_weeks_20 : decode cX9_weeks 20 = .ok (.ldc 87, 2) := by decide +kernel
theorem dX9_weeks_22 : decode cX9_weeks 22 = .ok (.ireturn, 1) := by decide +kernel
theorem dX9_weeks_23 : decode cX9_weeks 23 = .ok (.aload_n 0, 1) := by decide +kernel
theorem dX9_weeks_24 : decode cX9_weeks 24 = .ok (.getfield 33, 3) := by decide +kernel
theorem dX9_weeks_27 : decode cX9_weeks 27 = .ok (.getfield 175, 3) := by decide +kernel
theorem dX9_weeks_30 : decode cX9_weeks 30 = .ok (.iload_n 1, 1) := by decide +kernel
theorem dX9_weeks_31 : decode cX9_weeks 31 = .ok (.iadd, 1) := by decide +kernel
theorem dX9_weeks_32 : decode cX9_weeks 32 = .ok (.sipush 999, 3) := by decide +kernel
theorem dX9_weeks_35 : decode cX9_weeks 35 = .ok (.if_icmp .le 6, 3) := by decide +kernel
theorem dX9_weeks_38 : decode cX9_weeks 38 = .ok (.ldc 138, 2) := by decide +kernel
theorem dX9_weeks_40 : decode cX9_weeks 40 = .ok (.ireturn, 1) := by decide +kernel
theorem dX9_weeks_41 : decode cX9_weeks 41 = .ok (.iconst 0, 1) := by decide +kernel
theorem dX9_weeks_42 : decode cX9_weeks 42 = .ok (.istore_n 2, 1) := by decide +kernel
theorem dX9_weeks_43 : decode cX9_weeks 43 = .ok (.iload_n 2, 1) := by decide +kernel
theorem dX9_weeks_44 : decode cX9_weeks 44 = .ok (.iload_n 1, 1) := by decide +kernel
theorem dX9_weeks_45 : decode cX9_weeks 45 = .ok (.if_icmp .ge 28, 3) := by decide +kernel
theorem dX9_weeks_48 : decode cX9_weeks 48 = .ok (.aload_n 0, 1) := by decide +kernel
theorem dX9_weeks_49 : decode cX9_weeks 49 = .ok (.getfield 43, 3) := by decide +kernel
theorem dX9_weeks_52 : decode cX9_weeks 52 = .ok (.aload_n 0, 1) := by decide +kernel
theorem dX9_weeks_53 : decode cX9_weeks 53 = .ok (.getfield 33, 3) := by decide +kernel
theorem dX9_weeks_56 : decode cX9_weeks 56 = .ok (.invokevirtual 178, 3) := by decide +kernel
theorem dX9_weeks_59 : decode cX9_weeks 59 = .ok (.aload_n 0, 1) := by decide +kernel
theorem dX9_weeks_60 : decode cX9_weeks 60 = .ok (.getfield 33, 3) := by decide +kernel
theorem dX9_weeks_63 : decode cX9_weeks 63 = .ok (.iconst 1, 1) := by decide +kernel
theorem dX9_weeks_64 : decode cX9_weeks 64 = .ok (.invokevirtual 181, 3) := by decide +kernel
theorem dX9_weeks_67 : decode cX9_weeks 67 = .ok (.iinc 2 1, 3) := by decide +kernel
theorem dX9_weeks_70 : decode cX9_weeks 70 = .ok (.goto (-27), 3) := by decide +kernel
theorem dX9_weeks_73 : decode cX9_weeks 73 = .ok (.aload_n 0, 1) := by decide +kernel
theorem dX9_weeks_74 : decode cX9_weeks 74 = .ok (.getfield 33, 3) := by decide +kernel
theorem dX9_weeks_77 : decode cX9_weeks 77 = .ok (.getfield 185, 3) := by decide +kernel
theorem dX9_weeks_80 : decode cX9_weeks 80 = .ok (.ireturn, 1) := by decide +kernel
theorem dX9_say_0 : decode cX9_say 0 = .ok (.aload_n 0, 1) := by decide +kernel
theorem dX9_say_1 : decode cX9_say 1 = .ok (.getfield 24, 3) := by decide +kernel
theorem dX9_say_4 : decode cX9_say 4 = .ok (.iload_n 1, 1) := by decide +kernel
theorem dX9_say_5 : decode cX9_say 5 = .ok (.invokevirtual 188, 3) := by decide +kernel
theorem dX9_say_8 : decode cX9_say 8 = .ok (.ifCond .ne 6, 3) := by decide +kernel
theorem dX9_say_11 : decode cX9_say 11 = .ok (.ldc 87, 2) := by decide +kernel
theorem dX9_say_13 : decode cX9_say 13 = .ok (.ireturn, 1) := by decide +kernel
theorem dX9_say_14 : decode cX9_say 14 = .ok (.aload_n 0, 1) := by decide +kernel
theorem dX9_say_15 : decode cX9_say 15 = .ok (.getfield 33, 3) := by decide +kernel
theorem dX9_say_18 : decode cX9_say 18 = .ok (.iload_n 1, 1) := by decide +kernel
theorem dX9_say_19 : decode cX9_say 19 = .ok (.invokevirtual 191, 3) := by decide +kernel
theorem dX9_say_22 : decode cX9_say 22 = .ok (.ifCond .ne 6, 3) := by decide +kernel
theorem dX9_say_25 : decode cX9_say 25 = .ok (.ldc 171, 2) := by decide +kernel
theorem dX9_say_27 : decode cX9_say 27 = .ok (.ireturn, 1) := by decide +kernel
theorem dX9_say_28 : decode cX9_say 28 = .ok (.aload_n 0, 1) := by decide +kernel
theorem dX9_say_29 : decode cX9_say 29 = .ok (.getfield 43, 3) := by decide +kernel
theorem dX9_say_32 : decode cX9_say 32 = .ok (.aload_n 0, 1) := by decide +kernel
theorem dX9_say_33 : decode cX9_say 33 = .ok (.getfield 33, 3) := by decide +kernel
theorem dX9_say_36 : decode cX9_say 36 = .ok (.invokevirtual 178, 3) := by decide +kernel
theorem dX9_say_39 : decode cX9_say 39 = .ok (.aload_n 0, 1) := by decide +kernel
theorem dX9_say_40 : decode cX9_say 40 = .ok (.getfield 33, 3) := by decide +kernel
theorem dX9_say_43 : decode cX9_say 43 = .ok (.iload_n 1, 1) := by decide +kernel
theorem dX9_say_44 : decode cX9_say 44 = .ok (.invokevirtual 194, 3) := by decide +kernel
theorem dX9_say_47 : decode cX9_say 47 = .ok (.ireturn, 1) := by decide +kernel
theorem dX9_buy_0 : decode cX9_buy 0 = .ok (.aload_n 0, 1) := by decide +kernel
theorem dX9_buy_1 : decode cX9_buy 1 = .ok (.getfield 24, 3) := by decide +kernel
theorem dX9_buy_4 : decode cX9_buy 4 = .ok (.iload_n 1, 1) := by decide +kernel
theorem dX9_buy_5 : decode cX9_buy 5 = .ok (.invokevirtual 197, 3) := by decide +kernel
theorem dX9_buy_8 : decode cX9_buy 8 = .ok (.ifCond .eq 13, 3) := by decide +kernel
theorem dX9_buy_11 : decode cX9_buy 11 = .ok (.iload_n 2, 1) := by decide +kernel
theorem dX9_buy_12 : decode cX9_buy 12 = .ok (.iconst 1, 1) := by decide +kernel
theorem dX9_buy_13 : decode cX9_buy 13 = .ok (.bipush 60, 2) := by decide +kernel
theorem dX9_buy_15 : decode cX9_buy 15 = .ok (.invokestatic 83, 3) := by decide +kernel
theorem dX9_buy_18 : decode cX9_buy 18 = .ok (.ifCond .ne 6, 3) := by decide +kernel
theorem dX9_buy_21 : decode cX9_buy 21 = .ok (.ldc 87, 2) := by decide +kernel
theorem dX9_buy_23 : decode cX9_buy 23 = .ok (.ireturn, 1) := by decide +kernel
theorem dX9_buy_24 : decode cX9_buy 24 = .ok (.aload_n 0, 1) := by decide +kernel
theorem dX9_buy_25 : decode cX9_buy 25 = .ok (.getfield 33, 3) := by decide +kernel
theorem dX9_buy_28 : decode cX9_buy 28 = .ok (.iload_n 1, 1) := by decide +kernel
theorem dX9_buy_29 : decode cX9_buy 29 = .ok (.iload_n 2, 1) := by decide +kernel
theorem dX9_buy_30 : decode cX9_buy 30 = .ok (.invokevirtual 200, 3) := by decide +kernel
theorem dX9_buy_33 : decode cX9_buy 33 = .ok (.ifCond .ne 6, 3) := by decide +kernel
theorem dX9_buy_36 : decode cX9_buy 36 = .ok (.ldc 171, 2) := by decide +kernel
theorem dX9_buy_38 : decode cX9_buy 38 = .ok (.ireturn, 1) := by decide +kernel
theorem dX9_buy_39 : decode cX9_buy 39 = .ok (.aload_n 0, 1) := by decide +kernel
theorem dX9_buy_40 : decode cX9_buy 40 = .ok (.getfield 43, 3) := by decide +kernel
theorem dX9_buy_43 : decode cX9_buy 43 = .ok (.aload_n 0, 1) := by decide +kernel
theorem dX9_buy_44 : decode cX9_buy 44 = .ok (.getfield 33, 3) := by decide +kernel
theorem dX9_buy_47 : decode cX9_buy 47 = .ok (.invokevirtual 178, 3) := by decide +kernel
theorem dX9_buy_50 : decode cX9_buy 50 = .ok (.aload_n 0, 1) := by decide +kernel
theorem dX9_buy_51 : decode cX9_buy 51 = .ok (.getfield 33, 3) := by decide +kernel
theorem dX9_buy_54 : decode cX9_buy 54 = .ok (.iload_n 1, 1) := by decide +kernel
theorem dX9_buy_55 : decode cX9_buy 55 = .ok (.iload_n 2, 1) := by decide +kernel
theorem dX9_buy_56 : decode cX9_buy 56 = .ok (.invokevirtual 203, 3) := by decide +kernel
theorem dX9_buy_59 : decode cX9_buy 59 = .ok (.ireturn, 1) := by decide +kernel
theorem dX9_letOut_0 : decode cX9_letOut 0 = .ok (.aload_n 0, 1) := by decide +kernel
theorem dX9_letOut_1 : decode cX9_letOut 1 = .ok (.invokevirtual 172, 3) := by decide +kernel
theorem dX9_letOut_4 : decode cX9_letOut 4 = .ok (.ifCond .eq 6, 3) := by decide +kernel
theorem dX9_letOut_7 : decode cX9_letOut 7 = .ok (.ldc 171, 2) := by decide +kernel
theorem dX9_letOut_9 : decode cX9_letOut 9 = .ok (.ireturn, 1) := by decide +kernel
theorem dX9_letOut_10 : decode cX9_letOut 10 = .ok (.iload_n 1, 1) := by decide +kernel
theorem dX9_letOut_11 : decode cX9_letOut 11 = .ok (.iconst 1, 1) := by decide +kernel
theorem dX9_letOut_12 : decode cX9_letOut 12 = .ok (.bipush 99, 2) := by decide +kernel
theorem dX9_letOut_14 : decode cX9_letOut 14 = .ok (.invokestatic 83, 3) := by decide +kernel
theorem dX9_letOut_17 : decode cX9_letOut 17 = .ok (.ifCond .ne 6, 3) := by decide +kernel
theorem dX9_letOut_20 : decode cX9_letOut 20 = .ok (.ldc 87, 2) := by decide +kernel
theorem dX9_letOut_22 : decode cX9_letOut 22 = .ok (.ireturn, 1) := by decide +kernel
theorem dX9_letOut_23 : decode cX9_letOut 23 = .ok (.iload_n 1, 1) := by decide +kernel
theorem dX9_letOut_24 : decode cX9_letOut 24 = .ok (.aload_n 0, 1) := by decide +kernel
theorem dX9_letOut_25 : decode cX9_letOut 25 = .ok (.getfield 33, 3) := by decide +kernel
theorem dX9_letOut_28 : decode cX9_letOut 28 = .ok (.getfield 185, 3) := by decide +kernel
theorem dX9_letOut_31 : decode cX9_letOut 31 = .ok (.if_icmp .gt 17, 3) := by decide +kernel
theorem dX9_letOut_34 : decode cX9_letOut 34 = .ok (.aload_n 0, 1) := by decide +kernel
theorem dX9_letOut_35 : decode cX9_letOut 35 = .ok (.getfield 33, 3) := by decide +kernel
theorem dX9_letOut_38 : decode cX9_letOut 38 = .ok (.getfield 206, 3) := by decide +kernel
theorem dX9_letOut_41 : decode cX9_letOut 41 = .ok (.iload_n 1, 1) := by decide +kernel
theorem dX9_letOut_42 : decode cX9_letOut 42 = .ok (.iadd, 1) := by decide +kernel
theorem dX9_letOut_43 : decode cX9_letOut 43 = .ok (.bipush 99, 2) := by decide +kernel
theorem dX9_letOut_45 : decode cX9_letOut 45 = .ok (.if_icmp .le 6, 3) := by decide +kernel
theorem dX9_letOut_48 : decode cX9_letOut 48 = .ok (.ldc 171, 2) := by decide +kernel
theorem dX9_letOut_50 : decode cX9_letOut 50 = .ok (.ireturn, 1) := by decide +kernel
theorem dX9_letOut_51 : decode cX9_letOut 51 = .ok (.aload_n 0, 1) := by decide +kernel
theorem dX9_letOut_52 : decode cX9_letOut 52 = .ok (.getfield 43, 3) := by decide +kernel
theorem dX9_letOut_55 : decode cX9_letOut 55 = .ok (.aload_n 0, 1) := by decide +kernel
theorem dX9_letOut_56 : decode cX9_letOut 56 = .ok (.getfield 33, 3) := by decide +kernel
theorem dX9_letOut_59 : decode cX9_letOut 59 = .ok (.invokevirtual 178, 3) := by decide +kernel
theorem dX9_letOut_62 : decode cX9_letOut 62 = .ok (.aload_n 0, 1) := by decide +kernel
theorem dX9_letOut_63 : decode cX9_letOut 63 = .ok (.getfield 33, 3) := by decide +kernel
theorem dX9_letOut_66 : decode cX9_letOut 66 = .ok (.dup, 1) := by decide +kernel
theorem dX9_letOut_67 : decode cX9_letOut 67 = .ok (.getfield 185, 3) := by decide +kernel
theorem dX9_letOut_70 : decode cX9_letOut 70 = .ok (.iload_n 1, 1) := by decide +kernel
theorem dX9_letOut_71 : decode cX9_letOut 71 = .ok (.isub, 1) := by decide +kernel
theorem dX9_letOut_72 : decode cX9_letOut 72 = .ok (.putfield 185, 3) := by decide +kernel
theorem dX9_letOut_75 : decode cX9_letOut 75 = .ok (.aload_n 0, 1) := by decide +kernel
theorem dX9_letOut_76 : decode cX9_letOut 76 = .ok (.getfield 33, 3) := by decide +kernel
theorem dX9_letOut_79 : decode cX9_letOut 79 = .ok (.dup, 1) := by decide +kernel
theorem dX9_letOut_80 : decode cX9_letOut 80 = .ok (.getfield 206, 3) := by decide +kernel
theorem dX9_letOut_83 : decode cX9_letOut 83 = .ok (.iload_n 1, 1) := by decide +kernel
theorem dX9_letOut_84 : decode cX9_letOut 84 = .ok (.iadd, 1) := by decide +kernel
theorem dX9_letOut_85 : decode cX9_letOut 85 = .ok (.putfield 206, 3) := by decide +kernel
theorem dX9_letOut_88 : decode cX9_letOut 88 = .ok (.aload_n 0, 1) := by decide +kernel
theorem dX9_letOut_89 : decode cX9_letOut 89 = .ok (.getfield 33, 3) := by decide +kernel
theorem dX9_letOut_92 : decode cX9_letOut 92 = .ok (.getfield 206, 3) := by decide +kernel
theorem dX9_letOut_95 : decode cX9_letOut 95 = .ok (.ireturn, 1) := by decide +kernel
theorem dX9_price_0 : decode cX9_price 0 = .ok (.aload_n 0, 1) := by decide +kernel
theorem dX9_price_1 : decode cX9_price 1 = .ok (.invokevirtual 172, 3) := by decide +kernel
theorem dX9_price_4 : decode cX9_price 4 = .ok (.ifCond .eq 6, 3) := by decide +kernel
theorem dX9_price_7 : decode cX9_price 7 = .ok (.ldc 171, 2) := by decide +kernel
theorem dX9_price_9 : decode cX9_price 9 = .ok (.ireturn, 1) := by decide +kernel
theorem dX9_price_10 : decode cX9_price 10 = .ok (.iload_n 1, 1) := by decide +kernel
theorem dX9_price_11 : decode cX9_price 11 = .ok (.iconst 1, 1) := by decide +kernel
theorem dX9_price_12 : decode cX9_price 12 = .ok (.bipush 9, 2) := by decide +kernel
theorem dX9_price_14 : decode cX9_price 14 = .ok (.invokestatic 83, 3) := by decide +kernel
theorem dX9_price_17 : decode cX9_price 17 = .ok (.ifCond .ne 6, 3) := by decide +kernel
theorem dX9_price_20 : decode cX9_price 20 = .ok (.ldc 87, 2) := by decide +kernel
theorem dX9_price_22 : decode cX9_price 22 = .ok (.ireturn, 1) := by decide +kernel
theorem dX9_price_23 : decode cX9_price 23 = .ok (.aload_n 0, 1) := by decide +kernel
theorem dX9_price_24 : decode cX9_price 24 = .ok (.getfield 43, 3) := by decide +kernel
theorem dX9_price_27 : decode cX9_price 27 = .ok (.aload_n 0, 1) := by decide +kernel
theorem dX9_price_28 : decode cX9_price 28 = .ok (.getfield 33, 3) := by decide +kernel
theorem dX9_price_31 : decode cX9_price 31 = .ok (.invokevirtual 178, 3) := by decide +kernel
theorem dX9_price_34 : decode cX9_price 34 = .ok (.aload_n 0, 1) := by decide +kernel
theorem dX9_price_35 : decode cX9_price 35 = .ok (.getfield 33, 3) := by decide +kernel
theorem dX9_price_38 : decode cX9_price 38 = .ok (.getfield 209, 3) := by decide +kernel
theorem dX9_price_41 : decode cX9_price 41 = .ok (.istore_n 2, 1) := by decide +kernel
theorem dX9_price_42 : decode cX9_price 42 = .ok (.aload_n 0, 1) := by decide +kernel
theorem dX9_price_43 : decode cX9_price 43 = .ok (.getfield 33, 3) := by decide +kernel
theorem dX9_price_46 : decode cX9_price 46 = .ok (.iload_n 1, 1) := by decide +kernel
theorem dX9_price_47 : decode cX9_price 47 = .ok (.putfield 209, 3) := by decide +kernel
theorem dX9_price_50 : decode cX9_price 50 = .ok (.iload_n 2, 1) := by decide +kernel
theorem dX9_price_51 : decode cX9_price 51 = .ok (.ireturn, 1) := by decide +kernel
theorem dX9_speech_0 : decode cX9_speech 0 = .ok (.aload_n 0, 1) := by decide +kernel
theorem dX9_speech_1 : decode cX9_speech 1 = .ok (.getfield 24, 3) := by decide +kernel
theorem dX9_speech_4 : decode cX9_speech 4 = .ok (.iload_n 1, 1) := by decide +kernel
theorem dX9_speech_5 : decode cX9_speech 5 = .ok (.invokevirtual 188, 3) := by decide +kernel
theorem dX9_speech_8 : decode cX9_speech 8 = .ok (.ifCond .ne 6, 3) := by decide +kernel
theorem dX9_speech_11 : decode cX9_speech 11 = .ok (.ldc 87, 2) := by decide +kernel
theorem dX9_speech_13 : decode cX9_speech 13 = .ok (.ireturn, 1) := by decide +kernel
theorem dX9_speech_14 : decode cX9_speech 14 = .ok (.iload_n 2, 1) := by decide +kernel
theorem dX9_speech_15 : decode cX9_speech 15 = .ok (.tableswitch 168 0 8 #[49, 59, 69, 97, 106, 115, 132, 142, 151], 49) := by decide +kernel
theorem dX9_speech_64 : decode cX9_speech 64 = .ok (.aload_n 0, 1) := by decide +kernel
theorem dX9_speech_65 : decode cX9_speech 65 = .ok (.getfield 24, 3) := by decide +kernel
theorem dX9_speech_68 : decode cX9_speech 68 = .ok (.getfield 212, 3) := by decide +kernel
theorem dX9_speech_71 : decode cX9_speech 71 = .ok (.iload_n 1, 1) := by decide +kernel
theorem dX9_speech_72 : decode cX9_speech 72 = .ok (.iaload, 1) := by decide +kernel
theorem dX9_speech_73 : decode cX9_speech 73 = .ok (.ireturn, 1) := by decide +kernel
theorem dX9_speech_74 : decode cX9_speech 74 = .ok (.aload_n 0, 1) := by decide +kernel
theorem dX9_speech_75 : decode cX9_speech 75 = .ok (.getfield 24, 3) := by decide +kernel
theorem dX9_speech_78 : decode cX9_speech 78 = .ok (.getfield 215, 3) := by decide +kernel
theorem dX9_speech_81 : decode cX9_speech 81 = .ok (.iload_n 1, 1) := by decide +kernel
theorem dX9_speech_82 : decode cX9_speech 82 = .ok (.iaload, 1) := by decide +kernel
theorem dX9_speech_83 : decode cX9_speech 83 = .ok (.ireturn, 1) := by decide +kernel
theorem dX9_speech_84 : decode cX9_speech 84 = .ok (.aload_n 0, 1) := by decide +kernel
theorem dX9_speech_85 : decode cX9_speech 85 = .ok (.getfield 24, 3) := by decide +kernel
theorem dX9_speech_88 : decode cX9_speech 88 = .ok (.getfield 218, 3) := by decide +kernel
theorem dX9_speech_91 : decode cX9_speech 91 = .ok (.iload_n 1, 1) := by decide +kernel
theorem dX9_speech_92 : decode cX9_speech 92 = .ok (.iaload, 1) := by decide +kernel
theorem dX9_speech_93 : decode cX9_speech 93 = .ok (.iload_n 1, 1) := by decide +kernel
theorem dX9_speech_94 : decode cX9_speech 94 = .ok (.if_icmp .ne 8, 3) := by decide +kernel
theorem dX9_speech_97 : decode cX9_speech 97 = .ok (.ldc 221, 2) := by decide +kernel
theorem dX9_speech_99 : decode cX9_speech 99 = .ok (.goto 12, 3) := by decide +kernel
theorem dX9_speech_102 : decode cX9_speech 102 = .ok (.aload_n 0, 1) := by decide +kernel
theorem dX9_speech_103 : decode cX9_speech 103 = .ok (.getfield 24, 3) := by decide +kernel
theorem dX9_speech_106 : decode cX9_speech 106 = .ok (.getfield 218, 3) := by decide +kernel
theorem dX9_speech_109 : decode cX9_speech 109 = .ok (.iload_n 1, 1) := by decide +kernel
theorem dX9_speech_110 : decode cX9_speech 110 = .ok (.iaload, 1) := by decide +kernel
theorem dX9_speech_111 : decode cX9_speech 111 = .ok (.ireturn, 1) := by decide +kernel
theorem dX9_speech_112 : decode cX9_speech 112 = .ok (.aload_n 0, 1) := by decide +kernel
theorem dX9_speech_113 : decode cX9_speech 113 = .ok (.getfield 24, 3) := by decide +kernel
theorem dX9_speech_116 : decode cX9_speech 116 = .ok (.iload_n 1, 1) := by decide +kernel
theorem dX9_speech_117 : decode cX9_speech 117 = .ok (.invokevirtual 222, 3) := by decide +kernel
theorem dX9_speech_120 : decode cX9_speech 120 = .ok (.ireturn, 1) := by decide +kernel
theorem dX9_speech_121 : decode cX9_speech 121 = .ok (.aload_n 0, 1) := by decide +kernel
theorem dX9_speech_122 : decode cX9_speech 122 = .ok (.getfield 33, 3) := by decide +kernel
theorem dX9_speech_125 : decode cX9_speech 125 = .ok (.iload_n 1, 1) := by decide +kernel
theorem dX9_speech_126 : decode cX9_speech 126 = .ok (.invokevirtual 225, 3) := by decide +kernel
theorem dX9_speech_129 : decode cX9_speech 129 = .ok (.ireturn, 1) := by decide +kernel
theorem dX9_speech_130 : decode cX9_speech 130 = .ok (.aload_n 0, 1) := by decide +kernel
theorem dX9_speech_131 : decode cX9_speech 131 = .ok (.getfield 33, 3) := by decide +kernel
theorem dX9_speech_134 : decode cX9_speech 134 = .ok (.iload_n 1, 1) := by decide +kernel
theorem dX9_speech_135 : decode cX9_speech 135 = .ok (.invokevirtual 191, 3) := by decide +kernel
theorem dX9_speech_138 : decode cX9_speech 138 = .ok (.ifCond .eq 7, 3) := by decide +kernel
theorem dX9_speech_141 : decode cX9_speech 141 = .ok (.iconst 1, 1) := by decide +kernel
theorem dX9_speech_142 : decode cX9_speech 142 = .ok (.goto 4, 3) := by decide +kernel
theorem dX9_speech_145 : decode cX9_speech 145 = .ok (.iconst 0, 1) := by decide +kernel
theorem dX9_speech_146 : decode cX9_speech 146 = .ok (.ireturn, 1) := by decide +kernel
theorem dX9_speech_147 : decode cX9_speech 147 = .ok (.aload_n 0, 1) := by decide +kernel
theorem dX9_speech_148 : decode cX9_speech 148 = .ok (.getfield 33, 3) := by decide +kernel
theorem dX9_speech_151 : decode cX9_speech 151 = .ok (.getfield 228, 3) := by decide +kernel
theorem dX9_speech_154 : decode cX9_speech 154 = .ok (.iload_n 1, 1) := by decide +kernel
theorem dX9_speech_155 : decode cX9_speech 155 = .ok (.iaload, 1) := by decide +kernel
theorem dX9_speech_156 : decode cX9_speech 156 = .ok (.ireturn, 1) := by decide +kernel
theorem dX9_speech_157 : decode cX9_speech 157 = .ok (.aload_n 0, 1) := by decide +kernel
theorem dX9_speech_158 : decode cX9_speech 158 = .ok (.getfield 33, 3) := by decide +kernel
theorem dX9_speech_161 : decode cX9_speech 161 = .ok (.iload_n 1, 1) := by decide +kernel
theorem dX9_speech_162 : decode cX9_speech 162 = .ok (.invokevirtual 231, 3) := by decide +kernel
theorem dX9_speech_165 : decode cX9_speech 165 = .ok (.ireturn, 1) := by decide +kernel
theorem dX9_speech_166 : decode cX9_speech 166 = .ok (.aload_n 0, 1) := by decide +kernel
theorem dX9_speech_167 : decode cX9_speech 167 = .ok (.getfield 33, 3) := by decide +kernel
theorem dX9_speech_170 : decode cX9_speech 170 = .ok (.iload_n 1, 1) := by decide +kernel
theorem dX9_speech_171 : decode cX9_speech 171 = .ok (.invokevirtual 234, 3) := by decide +kernel
theorem dX9_speech_174 : decode cX9_speech 174 = .ok (.ifCond .eq 7, 3) := by decide +kernel
theorem dX9_speech_177 : decode cX9_speech 177 = .ok (.iconst 1, 1) := by decide +kernel
theorem dX9_speech_178 : decode cX9_speech 178 = .ok (.goto 4, 3) := by decide +kernel
theorem dX9_speech_181 : decode cX9_speech 181 = .ok (.iconst 0, 1) := by decide +kernel
theorem dX9_speech_182 : decode cX9_speech 182 = .ok (.ireturn, 1) := by decide +kernel
theorem dX9_speech_183 : decode cX9_speech 183 = .ok (.ldc 87, 2) := by decide +kernel
theorem dX9_speech_185 : decode cX9_speech 185 = .ok (.ireturn, 1) := by decide +kernel
theorem dX9_person_0 : decode cX9_person 0 = .ok (.aload_n 0, 1) := by decide +kernel
theorem dX9_person_1 : decode cX9_person 1 = .ok (.getfield 24, 3) := by decide +kernel
theorem dX9_person_4 : decode cX9_person 4 = .ok (.iload_n 1, 1) := by decide +kernel
theorem dX9_person_5 : decode cX9_person 5 = .ok (.invokevirtual 197, 3) := by decide +kernel
theorem dX9_person_8 : decode cX9_person 8 = .ok (.ifCond .ne 6, 3) := by decide +kernel
theorem dX9_person_11 : decode cX9_person 11 = .ok (.ldc 87, 2) := by decide +kernel
theorem dX9_person_13 : decode cX9_person 13 = .ok (.ireturn, 1) := by decide +kernel
theorem dX9_person_14 : decode cX9_person 14 = .ok (.iload_n 2, 1) := by decide +kernel
theorem dX9_person_15 : decode cX9_person 15 = .ok (.tableswitch 83 0 4 #[33, 43, 53, 63, 72], 33) := by decide +kernel
theorem dX9_person_48 : decode cX9_person 48 = .ok (.aload_n 0, 1) := by decide +kernel
theorem dX9_person_49 : decode cX9_person 49 = .ok (.getfield 33, 3) := by decide +kernel
theorem dX9_person_52 : decode cX9_person 52 = .ok (.getfield 237, 3) := by decide +kernel
theorem dX9_person_55 : decode cX9_person 55 = .ok (.iload_n 1, 1) := by decide +kernel
theorem dX9_person_56 : decode cX9_person 56 = .ok (.iaload, 1) := by decide +kernel
theorem dX9_person_57 : decode cX9_person 57 = .ok (.ireturn, 1) := by decide +kernel
theorem dX9_person_58 : decode cX9_person 58 = .ok (.aload_n 0, 1) := by decide +kernel
theorem dX9_person_59 : decode cX9_person 59 = .ok (.getfield 24, 3) := by decide +kernel
theorem dX9_person_62 : decode cX9_person 62 = .ok (.getfield 240, 3) := by decide +kernel
theorem dX9_person_65 : decode cX9_person 65 = .ok (.iload_n 1, 1) := by decide +kernel
theorem dX9_person_66 : decode cX9_person 66 = .ok (.iaload, 1) := by decide +kernel
theorem dX9_person_67 : decode cX9_person 67 = .ok (.ireturn, 1) := by decide +kernel
theorem dX9_person_68 : decode cX9_person 68 = .ok (.aload_n 0, 1) := by decide +kernel
theorem dX9_person_69 : decode cX9_person 69 = .ok (.getfield 33, 3) := by decide +kernel
theorem dX9_person_72 : decode cX9_person 72 = .ok (.getfield 243, 3) := by decide +kernel
theorem dX9_person_75 : decode cX9_person 75 = .ok (.iload_n 1, 1) := by decide +kernel
theorem dX9_person_76 : decode cX9_person 76 = .ok (.iaload, 1) := by decide +kernel
theorem dX9_person_77 : decode cX9_person 77 = .ok (.ireturn, 1) := by decide +kernel
theorem dX9_person_78 : decode cX9_person 78 = .ok (.aload_n 0, 1) := by decide +kernel
theorem dX9_person_79 : decode cX9_person 79 = .ok (.getfield 33, 3) := by decide +kernel
theorem dX9_person_82 : decode cX9_person 82 = .ok (.iload_n 1, 1) := by decide +kernel
theorem dX9_person_83 : decode cX9_person 83 = .ok (.invokevirtual 246, 3) := by decide +kernel
theorem dX9_person_86 : decode cX9_person 86 = .ok (.ireturn, 1) := by decide +kernel
theorem dX9_person_87 : decode cX9_person 87 = .ok (.aload_n 0, 1) := by decide +kernel
theorem dX9_person_88 : decode cX9_person 88 = .ok (.getfield 33, 3) := by decide +kernel
theorem dX9_person_91 : decode cX9_person 91 = .ok (.iconst 1, 1) := by decide +kernel
theorem dX9_person_92 : decode cX9_person 92 = .ok (.iload_n 1, 1) := by decide +kernel
theorem dX9_person_93 : decode cX9_person 93 = .ok (.ishl, 1) := by decide +kernel
theorem dX9_person_94 : decode cX9_person 94 = .ok (.invokevirtual 249, 3) := by decide +kernel
theorem dX9_person_97 : decode cX9_person 97 = .ok (.ireturn, 1) := by decide +kernel
theorem dX9_person_98 : decode cX9_person 98 = .ok (.ldc 87, 2) := by decide +kernel
theorem dX9_person_100 : decode cX9_person 100 = .ok (.ireturn, 1) := by decide +kernel
theorem dX9_stand_0 : decode cX9_stand 0 = .ok (.aload_n 0, 1) := by decide +kernel
theorem dX9_stand_1 : decode cX9_stand 1 = .ok (.invokevirtual 172, 3) := by decide +kernel
theorem dX9_stand_4 : decode cX9_stand 4 = .ok (.ifCond .eq 6, 3) := by decide +kernel
theorem dX9_stand_7 : decode cX9_stand 7 = .ok (.ldc 171, 2) := by decide +kernel
theorem dX9_stand_9 : decode cX9_stand 9 = .ok (.ireturn, 1) := by decide +kernel
theorem dX9_stand_10 : decode cX9_stand 10 = .ok (.iload_n 1, 1) := by decide +kernel
theorem dX9_stand_11 : decode cX9_stand 11 = .ok (.tableswitch 73 0 4 #[33, 41, 49, 57, 65], 33) := by decide +kernel
theorem dX9_stand_44 : decode cX9_stand 44 = .ok (.aload_n 0, 1) := by decide +kernel
theorem dX9_stand_45 : decode cX9_stand 45 = .ok (.getfield 33, 3) := by decide +kernel
theorem dX9_stand_48 : decode cX9_stand 48 = .ok (.getfield 206, 3) := by decide +kernel
theorem dX9_stand_51 : decode cX9_stand 51 = .ok (.ireturn, 1) := by decide +kernel
theorem dX9_stand_52 : decode cX9_stand 52 = .ok (.aload_n 0, 1) := by decide +kernel
theorem dX9_stand_53 : decode cX9_stand 53 = .ok (.getfield 33, 3) := by decide +kernel
theorem dX9_stand_56 : decode cX9_stand 56 = .ok (.getfield 185, 3) := by decide +kernel
theorem dX9_stand_59 : decode cX9_stand 59 = .ok (.ireturn, 1) := by decide +kernel
theorem dX9_stand_60 : decode cX9_stand 60 = .ok (.aload_n 0, 1) := by decide +kernel
theorem dX9_stand_61 : decode cX9_stand 61 = .ok (.getfield 33, 3) := by decide +kernel
theorem dX9_stand_64 : decode cX9_stand 64 = .ok (.getfield 209, 3) := by decide +kernel
theorem dX9_stand_67 : decode cX9_stand 67 = .ok (.ireturn, 1) := by decide +kernel
theorem dX9_stand_68 : decode cX9_stand 68 = .ok (.aload_n 0, 1) := by decide +kernel
theorem dX9_stand_69 : decode cX9_stand 69 = .ok (.getfield 24, 3) := by decide +kernel
theorem dX9_stand_72 : decode cX9_stand 72 = .ok (.getfield 252, 3) := by decide +kernel
theorem dX9_stand_75 : decode cX9_stand 75 = .ok (.ireturn, 1) := by decide +kernel
theorem dX9_stand_76 : decode cX9_stand 76 = .ok (.aload_n 0, 1) := by decide +kernel
theorem dX9_stand_77 : decode cX9_stand 77 = .ok (.getfield 33, 3) := by decide +kernel
theorem dX9_stand_80 : decode cX9_stand 80 = .ok (.getfield 255, 3) := by decide +kernel
theorem dX9_stand_83 : decode cX9_stand 83 = .ok (.ireturn, 1) := by decide +kernel
theorem dX9_stand_84 : decode cX9_stand 84 = .ok (.ldc 87, 2) := by decide +kernel
theorem dX9_stand_86 : decode cX9_stand 86 = .ok (.ireturn, 1) := by decide +kernel
theorem dX9_purse_0 : decode cX9_purse 0 = .ok (.aload_n 0, 1) := by decide +kernel
theorem dX9_purse_1 : decode cX9_purse 1 = .ok (.getfield 24, 3) := by decide +kernel
theorem dX9_purse_4 : decode cX9_purse 4 = .ok (.iload_n 1, 1) := by decide +kernel
theorem dX9_purse_5 : decode cX9_purse 5 = .ok (.invokevirtual 197, 3) := by decide +kernel
theorem dX9_purse_8 : decode cX9_purse 8 = .ok (.ifCond .eq 13, 3) := by decide +kernel
theorem dX9_purse_11 : decode cX9_purse 11 = .ok (.iload_n 2, 1) := by decide +kernel
theorem dX9_purse_12 : decode cX9_purse 12 = .ok (.iconst 0, 1) := by decide +kernel
theorem dX9_purse_13 : decode cX9_purse 13 = .ok (.bipush 60, 2) := by decide +kernel
theorem dX9_purse_15 : decode cX9_purse 15 = .ok (.invokestatic 83, 3) := by decide +kernel
theorem dX9_purse_18 : decode cX9_purse 18 = .ok (.ifCond .ne 6, 3) := by decide +kernel
theorem dX9_purse_21 : decode cX9_purse 21 = .ok (.ldc 87, 2) := by decide +kernel
theorem dX9_purse_23 : decode cX9_purse 23 = .ok (.ireturn, 1) := by decide +kernel
theorem dX9_purse_24 : decode cX9_purse 24 = .ok (.aload_n 0, 1) := by decide +kernel
theorem dX9_purse_25 : decode cX9_purse 25 = .ok (.getfield 33, 3) := by decide +kernel
theorem dX9_purse_28 : decode cX9_purse 28 = .ok (.iload_n 1, 1) := by decide +kernel
theorem dX9_purse_29 : decode cX9_purse 29 = .ok (.iload_n 2, 1) := by decide +kernel
theorem dX9_purse_30 : decode cX9_purse 30 = .ok (.invokevirtual 258, 3) := by decide +kernel
theorem dX9_purse_33 : decode cX9_purse 33 = .ok (.ireturn, 1) := by decide +kernel
theorem dX9_hill_0 : decode cX9_hill 0 = .ok (.aload_n 0, 1) := by decide +kernel
theorem dX9_hill_1 : decode cX9_hill 1 = .ok (.invokevirtual 172, 3) := by decide +kernel
theorem dX9_hill_4 : decode cX9_hill 4 = .ok (.ifCond .eq 6, 3) := by decide +kernel
theorem dX9_hill_7 : decode cX9_hill 7 = .ok (.ldc 171, 2) := by decide +kernel
theorem dX9_hill_9 : decode cX9_hill 9 = .ok (.ireturn, 1) := by decide +kernel
theorem dX9_hill_10 : decode cX9_hill 10 = .ok (.iload_n 1, 1) := by decide +kernel
theorem dX9_hill_11 : decode cX9_hill 11 = .ok (.iconst 0, 1) := by decide +kernel
theorem dX9_hill_12 : decode cX9_hill 12 = .ok (.bipush 60, 2) := by decide +kernel
theorem dX9_hill_14 : decode cX9_hill 14 = .ok (.invokestatic 83, 3) := by decide +kernel
theorem dX9_hill_17 : decode cX9_hill 17 = .ok (.ifCond .eq 14, 3) := by decide +kernel
theorem dX9_hill_20 : decode cX9_hill 20 = .ok (.aload_n 0, 1) := by decide +kernel
theorem dX9_hill_21 : decode cX9_hill 21 = .ok (.getfield 33, 3) := by decide +kernel
theorem dX9_hill_24 : decode cX9_hill 24 = .ok (.iload_n 1, 1) := by decide +kernel
theorem dX9_hill_25 : decode cX9_hill 25 = .ok (.invokevirtual 261, 3) := by decide +kernel
theorem dX9_hill_28 : decode cX9_hill 28 = .ok (.goto 5, 3) := by decide +kernel
theorem dX9_hill_31 : decode cX9_hill 31 = .ok (.ldc 87, 2) := by decide +kernel
theorem dX9_hill_33 : decode cX9_hill 33 = .ok (.ireturn, 1) := by decide +kernel
theorem dX9_known_0 : decode cX9_known 0 = .ok (.aload_n 0, 1) := by decide +kernel
theorem dX9_known_1 : decode cX9_known 1 = .ok (.getfield 24, 3) := by decide +kernel
theorem dX9_known_4 : decode cX9_known 4 = .ok (.iload_n 1, 1) := by decide +kernel
theorem dX9_known_5 : decode cX9_known 5 = .ok (.invokevirtual 188, 3) := by decide +kernel
theorem dX9_known_8 : decode cX9_known 8 = .ok (.ifCond .eq 13, 3) := by decide +kernel
theorem dX9_known_11 : decode cX9_known 11 = .ok (.iload_n 2, 1) := by decide +kernel
theorem dX9_known_12 : decode cX9_known 12 = .ok (.iconst 0, 1) := by decide +kernel
theorem dX9_known_13 : decode cX9_known 13 = .ok (.bipush 60, 2) := by decide +kernel
theorem dX9_known_15 : decode cX9_known 15 = .ok (.invokestatic 83, 3) := by decide +kernel
theorem dX9_known_18 : decode cX9_known 18 = .ok (.ifCond .ne 6, 3) := by decide +kernel
theorem dX9_known_21 : decode cX9_known 21 = .ok (.ldc 87, 2) := by decide +kernel
theorem dX9_known_23 : decode cX9_known 23 = .ok (.ireturn, 1) := by decide +kernel
theorem dX9_known_24 : decode cX9_known 24 = .ok (.aload_n 0, 1) := by decide +kernel
theorem dX9_known_25 : decode cX9_known 25 = .ok (.getfield 33, 3) := by decide +kernel
theorem dX9_known_28 : decode cX9_known 28 = .ok (.iload_n 1, 1) := by decide +kernel
theorem dX9_known_29 : decode cX9_known 29 = .ok (.iload_n 2, 1) := by decide +kernel
theorem dX9_known_30 : decode cX9_known 30 = .ok (.invokevirtual 264, 3) := by decide +kernel
theorem dX9_known_33 : decode cX9_known 33 = .ok (.ireturn, 1) := by decide +kernel
theorem dX9_allKnow_0 : decode cX9_allKnow 0 = .ok (.aload_n 0, 1) := by decide +kernel
theorem dX9_allKnow_1 : decode cX9_allKnow 1 = .ok (.getfield 24, 3) := by decide +kernel
theorem dX9_allKnow_4 : decode cX9_allKnow 4 = .ok (.iload_n 1, 1) := by decide +kernel
theorem dX9_allKnow_5 : decode cX9_allKnow 5 = .ok (.invokevirtual 188, 3) := by decide +kernel
theorem dX9_allKnow_8 : decode cX9_allKnow 8 = .ok (.ifCond .ne 6, 3) := by decide +kernel
theorem dX9_allKnow_11 : decode cX9_allKnow 11 = .ok (.ldc 87, 2) := by decide +kernel
theorem dX9_allKnow_13 : decode cX9_allKnow 13 = .ok (.ireturn, 1) := by decide +kernel
theorem dX9_allKnow_14 : decode cX9_allKnow 14 = .ok (.iconst 0, 1) := by decide +kernel
theorem dX9_allKnow_15 : decode cX9_allKnow 15 = .ok (.istore_n 2, 1) := by decide +kernel
theorem dX9_allKnow_16 : decode cX9_allKnow 16 = .ok (.iload_n 2, 1) := by decide +kernel
theorem dX9_allKnow_17 : decode cX9_allKnow 17 = .ok (.bipush 60, 2) := by decide +kernel
theorem dX9_allKnow_19 : decode cX9_allKnow 19 = .ok (.if_icmp .gt 30, 3) := by decide +kernel
theorem dX9_allKnow_22 : decode cX9_allKnow 22 = .ok (.aload_n 0, 1) := by decide +kernel
theorem dX9_allKnow_23 : decode cX9_allKnow 23 = .ok (.getfield 33, 3) := by decide +kernel
theorem dX9_allKnow_26 : decode cX9_allKnow 26 = .ok (.iload_n 1, 1) := by decide +kernel
theorem dX9_allKnow_27 : decode cX9_allKnow 27 = .ok (.iload_n 2, 1) := by decide +kernel
theorem dX9_allKnow_28 : decode cX9_allKnow 28 = .ok (.invokevirtual 264, 3) := by decide +kernel
theorem dX9_allKnow_31 : decode cX9_allKnow 31 = .ok (.aload_n 0, 1) := by decide +kernel
theorem dX9_allKnow_32 : decode cX9_allKnow 32 = .ok (.getfield 24, 3) := by decide +kernel
theorem dX9_allKnow_35 : decode cX9_allKnow 35 = .ok (.invokevirtual 267, 3) := by decide +kernel
theorem dX9_allKnow_38 : decode cX9_allKnow 38 = .ok (.if_icmp .ne 5, 3) := by decide +kernel
theorem dX9_allKnow_41 : decode cX9_allKnow 41 = .ok (.iload_n 2, 1) := by decide +kernel
theorem dX9_allKnow_42 : decode cX9_allKnow 42 = .ok (.ireturn, 1) := by decide +kernel
theorem dX9_allKnow_43 : decode cX9_allKnow 43 = .ok (.iinc 2 1, 3) := by decide +kernel
theorem dX9_allKnow_46 : decode cX9_allKnow 46 = .ok (.goto (-30), 3) := by decide +kernel
theorem dX9_allKnow_49 : decode cX9_allKnow 49 = .ok (.ldc 221, 2) := by decide +kernel
theorem dX9_allKnow_51 : decode cX9_allKnow 51 = .ok (.ireturn, 1) := by decide +kernel
theorem dX9_when_0 : decode cX9_when 0 = .ok (.aload_n 0, 1) := by decide +kernel
theorem dX9_when_1 : decode cX9_when 1 = .ok (.getfield 24, 3) := by decide +kernel
theorem dX9_when_4 : decode cX9_when 4 = .ok (.iload_n 1, 1) := by decide +kernel
theorem dX9_when_5 : decode cX9_when 5 = .ok (.invokevirtual 188, 3) := by decide +kernel
theorem dX9_when_8 : decode cX9_when 8 = .ok (.ifCond .ne 6, 3) := by decide +kernel
theorem dX9_when_11 : decode cX9_when 11 = .ok (.ldc 87, 2) := by decide +kernel
theorem dX9_when_13 : decode cX9_when 13 = .ok (.ireturn, 1) := by decide +kernel
theorem dX9_when_14 : decode cX9_when 14 = .ok (.aload_n 0, 1) := by decide +kernel
theorem dX9_when_15 : decode cX9_when 15 = .ok (.getfield 33, 3) := by decide +kernel
theorem dX9_when_18 : decode cX9_when 18 = .ok (.iload_n 1, 1) := by decide +kernel
theorem dX9_when_19 : decode cX9_when 19 = .ok (.invokevirtual 234, 3) := by decide +kernel
theorem dX9_when_22 : decode cX9_when 22 = .ok (.ifCond .eq 8, 3) := by decide +kernel
theorem dX9_when_25 : decode cX9_when 25 = .ok (.ldc 171, 2) := by decide +kernel
theorem dX9_when_27 : decode cX9_when 27 = .ok (.goto 13, 3) := by decide +kernel
theorem dX9_when_30 : decode cX9_when 30 = .ok (.aload_n 0, 1) := by decide +kernel
theorem dX9_when_31 : decode cX9_when 31 = .ok (.getfield 33, 3) := by decide +kernel
theorem dX9_when_34 : decode cX9_when 34 = .ok (.iload_n 1, 1) := by decide +kernel
theorem dX9_when_35 : decode cX9_when 35 = .ok (.bipush 60, 2) := by decide +kernel
theorem dX9_when_37 : decode cX9_when 37 = .ok (.invokevirtual 271, 3) := by decide +kernel
theorem dX9_when_40 : decode cX9_when 40 = .ok (.ireturn, 1) := by decide +kernel
theorem dX9_most_0 : decode cX9_most 0 = .ok (.aload_n 0, 1) := by decide +kernel
theorem dX9_most_1 : decode cX9_most 1 = .ok (.invokevirtual 172, 3) := by decide +kernel
theorem dX9_most_4 : decode cX9_most 4 = .ok (.ifCond .eq 6, 3) := by decide +kernel
theorem dX9_most_7 : decode cX9_most 7 = .ok (.ldc 171, 2) := by decide +kernel
theorem dX9_most_9 : decode cX9_most 9 = .ok (.ireturn, 1) := by decide +kernel
theorem dX9_most_10 : decode cX9_most 10 = .ok (.iload_n 1, 1) := by decide +kernel
theorem dX9_most_11 : decode cX9_most 11 = .ok (.iconst 0, 1) := by decide +kernel
theorem dX9_most_12 : decode cX9_most 12 = .ok (.iconst 2, 1) := by decide +kernel
theorem dX9_most_13 : decode cX9_most 13 = .ok (.invokestatic 83, 3) := by decide +kernel
theorem dX9_most_16 : decode cX9_most 16 = .ok (.ifCond .ne 6, 3) := by decide +kernel
theorem dX9_most_19 : decode cX9_most 19 = .ok (.ldc 87, 2) := by decide +kernel
theorem dX9_most_21 : decode cX9_most 21 = .ok (.ireturn, 1) := by decide +kernel
theorem dX9_most_22 : decode cX9_most 22 = .ok (.aload_n 0, 1) := by decide +kernel
theorem dX9_most_23 : decode cX9_most 23 = .ok (.invokevirtual 274, 3) := by decide +kernel
theorem dX9_most_26 : decode cX9_most 26 = .ok (.istore_n 2, 1) := by decide +kernel
theorem dX9_most_27 : decode cX9_most 27 = .ok (.iload_n 1, 1) := by decide +kernel
theorem dX9_most_28 : decode cX9_most 28 = .ok (.ifCond .ne 5, 3) := by decide +kernel
theorem dX9_most_31 : decode cX9_most 31 = .ok (.iload_n 2, 1) := by decide +kernel
theorem dX9_most_32 : decode cX9_most 32 = .ok (.ireturn, 1) := by decide +kernel
theorem dX9_most_33 : decode cX9_most 33 = .ok (.aload_n 0, 1) := by decide +kernel
theorem dX9_most_34 : decode cX9_most 34 = .ok (.iload_n 2, 1) := by decide +kernel
theorem dX9_most_35 : decode cX9_most 35 = .ok (.invokevirtual 277, 3) := by decide +kernel
theorem dX9_most_38 : decode cX9_most 38 = .ok (.istore_n 3, 1) := by decide +kernel
theorem dX9_most_39 : decode cX9_most 39 = .ok (.iload_n 1, 1) := by decide +kernel
theorem dX9_most_40 : decode cX9_most 40 = .ok (.iconst 1, 1) := by decide +kernel
theorem dX9_most_41 : decode cX9_most 41 = .ok (.if_icmp .ne 7, 3) := by decide +kernel
theorem dX9_most_44 : decode cX9_most 44 = .ok (.iload_n 3, 1) := by decide +kernel
theorem dX9_most_45 : decode cX9_most 45 = .ok (.goto 14, 3) := by decide +kernel
theorem dX9_most_48 : decode cX9_most 48 = .ok (.aload_n 0, 1) := by decide +kernel
theorem dX9_most_49 : decode cX9_most 49 = .ok (.getfield 37, 3) := by decide +kernel
theorem dX9_most_52 : decode cX9_most 52 = .ok (.iload_n 2, 1) := by decide +kernel
theorem dX9_most_53 : decode cX9_most 53 = .ok (.invokevirtual 280, 3) := by decide +kernel
theorem dX9_most_56 : decode cX9_most 56 = .ok (.invokestatic 283, 3) := by decide +kernel
theorem dX9_most_59 : decode cX9_most 59 = .ok (.ireturn, 1) := by decide +kernel
theorem dX9_order_0 : decode cX9_order 0 = .ok (.aload_n 0, 1) := by decide +kernel
theorem dX9_order_1 : decode cX9_order 1 = .ok (.invokevirtual 172, 3) := by decide +kernel
theorem dX9_order_4 : decode cX9_order 4 = .ok (.ifCond .eq 6, 3) := by decide +kernel
theorem dX9_order_7 : decode cX9_order 7 = .ok (.ldc 171, 2) := by decide +kernel
theorem dX9_order_9 : decode cX9_order 9 = .ok (.ireturn, 1) := by decide +kernel
theorem dX9_order_10 : decode cX9_order 10 = .ok (.iload_n 1, 1) := by decide +kernel
theorem dX9_order_11 : decode cX9_order 11 = .ok (.iconst (-1), 1) := by decide +kernel
theorem dX9_order_12 : decode cX9_order 12 = .ok (.if_icmp .ge 6, 3) := by decide +kernel
theorem dX9_order_15 : decode cX9_order 15 = .ok (.ldc 87, 2) := by decide +kernel
theorem dX9_order_17 : decode cX9_order 17 = .ok (.ireturn, 1) := by decide +kernel
theorem dX9_order_18 : decode cX9_order 18 = .ok (.aload_n 0, 1) := by decide +kernel
theorem dX9_order_19 : decode cX9_order 19 = .ok (.getfield 50, 3) := by decide +kernel
theorem dX9_order_22 : decode cX9_order 22 = .ok (.aload_n 0, 1) := by decide +kernel
theorem dX9_order_23 : decode cX9_order 23 = .ok (.getfield 33, 3) := by decide +kernel
theorem dX9_order_26 : decode cX9_order 26 = .ok (.invokevirtual 288, 3) := by decide +kernel
theorem dX9_order_29 : decode cX9_order 29 = .ok (.iload_n 1, 1) := by decide +kernel
theorem dX9_order_30 : decode cX9_order 30 = .ok (.iconst (-1), 1) := by decide +kernel
theorem dX9_order_31 : decode cX9_order 31 = .ok (.if_icmp .ne 13, 3) := by decide +kernel
theorem dX9_order_34 : decode cX9_order 34 = .ok (.aload_n 0, 1) := by decide +kernel
theorem dX9_order_35 : decode cX9_order 35 = .ok (.getfield 50, 3) := by decide +kernel
theorem dX9_order_38 : decode cX9_order 38 = .ok (.getfield 291, 3) := by decide +kernel
theorem dX9_order_41 : decode cX9_order 41 = .ok (.goto 11, 3) := by decide +kernel
theorem dX9_order_44 : decode cX9_order 44 = .ok (.aload_n 0, 1) := by decide +kernel
theorem dX9_order_45 : decode cX9_order 45 = .ok (.getfield 50, 3) := by decide +kernel
theorem dX9_order_48 : decode cX9_order 48 = .ok (.iload_n 1, 1) := by decide +kernel
theorem dX9_order_49 : decode cX9_order 49 = .ok (.invokevirtual 294, 3) := by decide +kernel
theorem dX9_order_52 : decode cX9_order 52 = .ok (.ireturn, 1) := by decide +kernel
theorem dX9_clear_0 : decode cX9_clear 0 = .ok (.aload_n 0, 1) := by decide +kernel
theorem dX9_clear_1 : decode cX9_clear 1 = .ok (.invokevirtual 172, 3) := by decide +kernel
theorem dX9_clear_4 : decode cX9_clear 4 = .ok (.ifCond .eq 8, 3) := by decide +kernel
theorem dX9_clear_7 : decode cX9_clear 7 = .ok (.ldc 171, 2) := by decide +kernel
theorem dX9_clear_9 : decode cX9_clear 9 = .ok (.goto 17, 3) := by decide +kernel
theorem dX9_clear_12 : decode cX9_clear 12 = .ok (.aload_n 0, 1) := by decide +kernel
theorem dX9_clear_13 : decode cX9_clear 13 = .ok (.getfield 33, 3) := by decide +kernel
theorem dX9_clear_16 : decode cX9_clear 16 = .ok (.aload_n 0, 1) := by decide +kernel
theorem dX9_clear_17 : decode cX9_clear 17 = .ok (.getfield 24, 3) := by decide +kernel
theorem dX9_clear_20 : decode cX9_clear 20 = .ok (.invokevirtual 267, 3) := by decide +kernel
theorem dX9_clear_23 : decode cX9_clear 23 = .ok (.invokevirtual 249, 3) := by decide +kernel
theorem dX9_clear_26 : decode cX9_clear 26 = .ok (.ireturn, 1) := by decide +kernel
theorem dX9_deaf_0 : decode cX9_deaf 0 = .ok (.aload_n 0, 1) := by decide +kernel
theorem dX9_deaf_1 : decode cX9_deaf 1 = .ok (.getfield 24, 3) := by decide +kernel
theorem dX9_deaf_4 : decode cX9_deaf 4 = .ok (.iload_n 1, 1) := by decide +kernel
theorem dX9_deaf_5 : decode cX9_deaf 5 = .ok (.invokevirtual 188, 3) := by decide +kernel
theorem dX9_deaf_8 : decode cX9_deaf 8 = .ok (.ifCond .eq 34, 3) := by decide +kernel
theorem dX9_deaf_11 : decode cX9_deaf 11 = .ok (.aload_n 0, 1) := by decide +kernel
theorem dX9_deaf_12 : decode cX9_deaf 12 = .ok (.getfield 24, 3) := by decide +kernel
theorem dX9_deaf_15 : decode cX9_deaf 15 = .ok (.iload_n 2, 1) := by decide +kernel
theorem dX9_deaf_16 : decode cX9_deaf 16 = .ok (.invokevirtual 197, 3) := by decide +kernel
theorem dX9_deaf_19 : decode cX9_deaf 19 = .ok (.ifCond .eq 23, 3) := by decide +kernel
theorem dX9_deaf_22 : decode cX9_deaf 22 = .ok (.iload_n 3, 1) := by decide +kernel
theorem dX9_deaf_23 : decode cX9_deaf 23 = .ok (.iconst 0, 1) := by decide +kernel
theorem dX9_deaf_24 : decode cX9_deaf 24 = .ok (.bipush 30, 2) := by decide +kernel
theorem dX9_deaf_26 : decode cX9_deaf 26 = .ok (.invokestatic 83, 3) := by decide +kernel
theorem dX9_deaf_29 : decode cX9_deaf 29 = .ok (.ifCond .eq 13, 3) := by decide +kernel
theorem dX9_deaf_32 : decode cX9_deaf 32 = .ok (.iload 4, 2) := by decide +kernel
theorem dX9_deaf_34 : decode cX9_deaf 34 = .ok (.iconst 0, 1) := by decide +kernel
theorem dX9_deaf_35 : decode cX9_deaf 35 = .ok (.iconst 1, 1) := by decide +kernel
theorem dX9_deaf_36 : decode cX9_deaf 36 = .ok (.invokestatic 83, 3) := by decide +kernel
theorem dX9_deaf_39 : decode cX9_deaf 39 = .ok (.ifCond .ne 6, 3) := by decide +kernel
theorem dX9_deaf_42 : decode cX9_deaf 42 = .ok (.ldc 87, 2) := by decide +kernel
theorem dX9_deaf_44 : decode cX9_deaf 44 = .ok (.ireturn, 1) := by decide +kernel
theorem dX9_deaf_45 : decode cX9_deaf 45 = .ok (.aload_n 0, 1) := by decide +kernel
theorem dX9_deaf_46 : decode cX9_deaf 46 = .ok (.iload_n 1, 1) := by decide +kernel
theorem dX9_deaf_47 : decode cX9_deaf 47 = .ok (.iload_n 2, 1) := by decide +kernel
theorem dX9_deaf_48 : decode cX9_deaf 48 = .ok (.iload_n 3, 1) := by decide +kernel
theorem dX9_deaf_49 : decode cX9_deaf 49 = .ok (.invokevirtual 297, 3) := by decide +kernel
theorem dX9_deaf_52 : decode cX9_deaf 52 = .ok (.istore 5, 2) := by decide +kernel
theorem dX9_deaf_54 : decode cX9_deaf 54 = .ok (.iload 5, 2) := by decide +kernel
theorem dX9_deaf_56 : decode cX9_deaf 56 = .ok (.ldc 221, 2) := by decide +kernel
theorem dX9_deaf_58 : decode cX9_deaf 58 = .ok (.if_icmp .eq 9, 3) := by decide +kernel
theorem dX9_deaf_61 : decode cX9_deaf 61 = .ok (.iload 4, 2) := by decide +kernel
theorem dX9_deaf_63 : decode cX9_deaf 63 = .ok (.iconst 1, 1) := by decide +kernel
theorem dX9_deaf_64 : decode cX9_deaf 64 = .ok (.if_icmp .ne 8, 3) := by decide +kernel
theorem dX9_deaf_67 : decode cX9_deaf 67 = .ok (.iload 5, 2) := by decide +kernel
theorem dX9_deaf_69 : decode cX9_deaf 69 = .ok (.goto 8, 3) := by decide +kernel
theorem dX9_deaf_72 : decode cX9_deaf 72 = .ok (.iload 5, 2) := by decide +kernel
theorem dX9_deaf_74 : decode cX9_deaf 74 = .ok (.invokestatic 283, 3) := by decide +kernel
theorem dX9_deaf_77 : decode cX9_deaf 77 = .ok (.ireturn, 1) := by decide +kernel
theorem dX9_share_0 : decode cX9_share 0 = .ok (.aload_n 0, 1) := by decide +kernel
theorem dX9_share_1 : decode cX9_share 1 = .ok (.getfield 24, 3) := by decide +kernel
theorem dX9_share_4 : decode cX9_share 4 = .ok (.iload_n 1, 1) := by decide +kernel
theorem dX9_share_5 : decode cX9_share 5 = .ok (.invokevirtual 197, 3) := by decide +kernel
theorem dX9_share_8 : decode cX9_share 8 = .ok (.ifCond .eq 13, 3) := by decide +kernel
theorem dX9_share_11 : decode cX9_share 11 = .ok (.iload_n 2, 1) := by decide +kernel
theorem dX9_share_12 : decode cX9_share 12 = .ok (.iconst 0, 1) := by decide +kernel
theorem dX9_share_13 : decode cX9_share 13 = .ok (.bipush 99, 2) := by decide +kernel
theorem dX9_share_15 : decode cX9_share 15 = .ok (.invokestatic 83, 3) := by decide +kernel
theorem dX9_share_18 : decode cX9_share 18 = .ok (.ifCond .ne 6, 3) := by decide +kernel
theorem dX9_share_21 : decode cX9_share 21 = .ok (.ldc 87, 2) := by decide +kernel
theorem dX9_share_23 : decode cX9_share 23 = .ok (.ireturn, 1) := by decide +kernel
theorem dX9_share_24 : decode cX9_share 24 = .ok (.aload_n 0, 1) := by decide +kernel
theorem dX9_share_25 : decode cX9_share 25 = .ok (.getfield 33, 3) := by decide +kernel
theorem dX9_share_28 : decode cX9_share 28 = .ok (.iload_n 1, 1) := by decide +kernel
theorem dX9_share_29 : decode cX9_share 29 = .ok (.iload_n 2, 1) := by decide +kernel
theorem dX9_share_30 : decode cX9_share 30 = .ok (.invokevirtual 300, 3) := by decide +kernel
theorem dX9_share_33 : decode cX9_share 33 = .ok (.ireturn, 1) := by decide +kernel
theorem dX9_thrift_0 : decode cX9_thrift 0 = .ok (.aload_n 0, 1) := by decide +kernel
theorem dX9_thrift_1 : decode cX9_thrift 1 = .ok (.getfield 24, 3) := by decide +kernel
theorem dX9_thrift_4 : decode cX9_thrift 4 = .ok (.iload_n 1, 1) := by decide +kernel
theorem dX9_thrift_5 : decode cX9_thrift 5 = .ok (.invokevirtual 197, 3) := by decide +kernel
theorem dX9_thrift_8 : decode cX9_thrift 8 = .ok (.ifCond .eq 31, 3) := by decide +kernel
theorem dX9_thrift_11 : decode cX9_thrift 11 = .ok (.iload_n 2, 1) := by decide +kernel
theorem dX9_thrift_12 : decode cX9_thrift 12 = .ok (.iconst 0, 1) := by decide +kernel
theorem dX9_thrift_13 : decode cX9_thrift 13 = .ok (.bipush 60, 2) := by decide +kernel
theorem dX9_thrift_15 : decode cX9_thrift 15 = .ok (.invokestatic 83, 3) := by decide +kernel
theorem dX9_thrift_18 : decode cX9_thrift 18 = .ok (.ifCond .eq 21, 3) := by decide +kernel
theorem dX9_thrift_21 : decode cX9_thrift 21 = .ok (.iload_n 3, 1) := by decide +kernel
theorem dX9_thrift_22 : decode cX9_thrift 22 = .ok (.invokestatic 79, 3) := by decide +kernel
theorem dX9_thrift_25 : decode cX9_thrift 25 = .ok (.ifCond .eq 14, 3) := by decide +kernel
theorem dX9_thrift_28 : decode cX9_thrift 28 = .ok (.iload 5, 2) := by decide +kernel
theorem dX9_thrift_30 : decode cX9_thrift 30 = .ok (.iconst 1, 1) := by decide +kernel
theorem dX9_thrift_31 : decode cX9_thrift 31 = .ok (.bipush 12, 2) := by decide +kernel
theorem dX9_thrift_33 : decode cX9_thrift 33 = .ok (.invokestatic 83, 3) := by decide +kernel
theorem dX9_thrift_36 : decode cX9_thrift 36 = .ok (.ifCond .ne 6, 3) := by decide +kernel
theorem dX9_thrift_39 : decode cX9_thrift 39 = .ok (.ldc 87, 2) := by decide +kernel
theorem dX9_thrift_41 : decode cX9_thrift 41 = .ok (.ireturn, 1) := by decide +kernel
theorem dX9_thrift_42 : decode cX9_thrift 42 = .ok (.aload_n 0, 1) := by decide +kernel
theorem dX9_thrift_43 : decode cX9_thrift 43 = .ok (.iload_n 3, 1) := by decide +kernel
theorem dX9_thrift_44 : decode cX9_thrift 44 = .ok (.iload 4, 2) := by decide +kernel
theorem dX9_thrift_46 : decode cX9_thrift 46 = .ok (.iload 5, 2) := by decide +kernel
theorem dX9_thrift_48 : decode cX9_thrift 48 = .ok (.invokevirtual 99, 3) := by decide +kernel
theorem dX9_thrift_51 : decode cX9_thrift 51 = .ok (.istore 6, 2) := by decide +kernel
theorem dX9_thrift_53 : decode cX9_thrift 53 = .ok (.iload 6, 2) := by decide +kernel
theorem dX9_thrift_55 : decode cX9_thrift 55 = .ok (.ifCond .ne 25, 3) := by decide +kernel
theorem dX9_thrift_58 : decode cX9_thrift 58 = .ok (.aload_n 0, 1) := by decide +kernel
theorem dX9_thrift_59 : decode cX9_thrift 59 = .ok (.getfield 11, 3) := by decide +kernel
theorem dX9_thrift_62 : decode cX9_thrift 62 = .ok (.iload_n 3, 1) := by decide +kernel
theorem dX9_thrift_63 : decode cX9_thrift 63 = .ok (.aaload, 1) := by decide +kernel
theorem dX9_thrift_64 : decode cX9_thrift 64 = .ok (.iload 4, 2) := by decide +kernel
theorem dX9_thrift_66 : decode cX9_thrift 66 = .ok (.iload 5, 2) := by decide +kernel
theorem dX9_thrift_68 : decode cX9_thrift 68 = .ok (.iconst 1, 1) := by decide +kernel
theorem dX9_thrift_69 : decode cX9_thrift 69 = .ok (.bipush 9, 2) := by decide +kernel
theorem dX9_thrift_71 : decode cX9_thrift 71 = .ok (.invokevirtual 303, 3) := by decide +kernel
theorem dX9_thrift_74 : decode cX9_thrift 74 = .ok (.ifCond .ne 6, 3) := by decide +kernel
theorem dX9_thrift_77 : decode cX9_thrift 77 = .ok (.iconst 3, 1) := by decide +kernel
theorem dX9_thrift_78 : decode cX9_thrift 78 = .ok (.istore 6, 2) := by decide +kernel
theorem dX9_thrift_80 : decode cX9_thrift 80 = .ok (.iload 6, 2) := by decide +kernel
theorem dX9_thrift_82 : decode cX9_thrift 82 = .ok (.ifCond .eq 10, 3) := by decide +kernel
theorem dX9_thrift_85 : decode cX9_thrift 85 = .ok (.aload_n 0, 1) := by decide +kernel
theorem dX9_thrift_86 : decode cX9_thrift 86 = .ok (.iload 6, 2) := by decide +kernel
theorem dX9_thrift_88 : decode cX9_thrift 88 = .ok (.invokevirtual 88, 3) := by decide +kernel
theorem dX9_thrift_91 : decode cX9_thrift 91 = .ok (.ireturn, 1) := by decide +kernel
theorem dX9_thrift_92 : decode cX9_thrift 92 = .ok (.aload_n 0, 1) := by decide +kernel
theorem dX9_thrift_93 : decode cX9_thrift 93 = .ok (.getfield 57, 3) := by decide +kernel
theorem dX9_thrift_96 : decode cX9_thrift 96 = .ok (.aload_n 0, 1) := by decide +kernel
theorem dX9_thrift_97 : decode cX9_thrift 97 = .ok (.getfield 33, 3) := by decide +kernel
theorem dX9_thrift_100 : decode cX9_thrift 100 = .ok (.getfield 237, 3) := by decide +kernel
theorem dX9_thrift_103 : decode cX9_thrift 103 = .ok (.iload_n 1, 1) := by decide +kernel
theorem dX9_thrift_104 : decode cX9_thrift 104 = .ok (.iaload, 1) := by decide +kernel
theorem dX9_thrift_105 : decode cX9_thrift 105 = .ok (.iload_n 2, 1) := by decide +kernel
theorem dX9_thrift_106 : decode cX9_thrift 106 = .ok (.invokevirtual 307, 3) := by decide +kernel
theorem dX9_thrift_109 : decode cX9_thrift 109 = .ok (.iconst 0, 1) := by decide +kernel
theorem dX9_thrift_110 : decode cX9_thrift 110 = .ok (.istore 7, 2) := by decide +kernel
theorem dX9_thrift_112 : decode cX9_thrift 112 = .ok (.iload 7, 2) := by decide +kernel
theorem dX9_thrift_114 : decode cX9_thrift 114 = .ok (.iload 5, 2) := by decide +kernel
theorem dX9_thrift_116 : decode cX9_thrift 116 = .ok (.if_icmp .ge 47, 3) := by decide +kernel
theorem dX9_thrift_119 : decode cX9_thrift 119 = .ok (.aload_n 0, 1) := by decide +kernel
theorem dX9_thrift_120 : decode cX9_thrift 120 = .ok (.getfield 57, 3) := by decide +kernel
theorem dX9_thrift_123 : decode cX9_thrift 123 = .ok (.aload_n 0, 1) := by decide +kernel
theorem dX9_thrift_124 : decode cX9_thrift 124 = .ok (.getfield 11, 3) := by decide +kernel
theorem dX9_thrift_127 : decode cX9_thrift 127 = .ok (.iload_n 3, 1) := by decide +kernel
theorem dX9_thrift_128 : decode cX9_thrift 128 = .ok (.aaload, 1) := by decide +kernel
theorem dX9_thrift_129 : decode cX9_thrift 129 = .ok (.getfield 119, 3) := by decide +kernel
theorem dX9_thrift_132 : decode cX9_thrift 132 = .ok (.iload 4, 2) := by decide +kernel
theorem dX9_thrift_134 : decode cX9_thrift 134 = .ok (.iload 7, 2) := by decide +kernel
theorem dX9_thrift_136 : decode cX9_thrift 136 = .ok (.iadd, 1) := by decide +kernel
theorem dX9_thrift_137 : decode cX9_thrift 137 = .ok (.iaload, 1) := by decide +kernel
theorem dX9_thrift_138 : decode cX9_thrift 138 = .ok (.aload_n 0, 1) := by decide +kernel
theorem dX9_thrift_139 : decode cX9_thrift 139 = .ok (.getfield 24, 3) := by decide +kernel
theorem dX9_thrift_142 : decode cX9_thrift 142 = .ok (.getfield 252, 3) := by decide +kernel
theorem dX9_thrift_145 : decode cX9_thrift 145 = .ok (.aload_n 0, 1) := by decide +kernel
theorem dX9_thrift_146 : decode cX9_thrift 146 = .ok (.getfield 24, 3) := by decide +kernel
theorem dX9_thrift_149 : decode cX9_thrift 149 = .ok (.getfield 240, 3) := by decide +kernel
theorem dX9_thrift_152 : decode cX9_thrift 152 = .ok (.iload_n 1, 1) := by decide +kernel
theorem dX9_thrift_153 : decode cX9_thrift 153 = .ok (.iaload, 1) := by decide +kernel
theorem dX9_thrift_154 : decode cX9_thrift 154 = .ok (.invokevirtual 308, 3) := by decide +kernel
theorem dX9_thrift_157 : decode cX9_thrift 157 = .ok (.iinc 7 1, 3) := by decide +kernel
theorem dX9_thrift_160 : decode cX9_thrift 160 = .ok (.goto (-48), 3) := by decide +kernel
theorem dX9_thrift_163 : decode cX9_thrift 163 = .ok (.aload_n 0, 1) := by decide +kernel
theorem dX9_thrift_164 : decode cX9_thrift 164 = .ok (.aload_n 0, 1) := by decide +kernel
theorem dX9_thrift_165 : decode cX9_thrift 165 = .ok (.getfield 57, 3) := by decide +kernel
theorem dX9_thrift_168 : decode cX9_thrift 168 = .ok (.invokevirtual 312, 3) := by decide +kernel
theorem dX9_thrift_171 : decode cX9_thrift 171 = .ok (.invokevirtual 96, 3) := by decide +kernel
end
section
theorem dX9_thrift_174 : decode cX9_thrift 174 = .ok (.ireturn, 1) := by decide +kernel
theorem dX9_who_0 : decode cX9_who 0 = .ok (.aload_n 0, 1) := by decide +kernel
theorem dX9_who_1 : decode cX9_who 1 = .ok (.getfield 24, 3) := by decide +kernel
theorem dX9_who_4 : decode cX9_who 4 = .ok (.iload_n 1, 1) := by decide +kernel
theorem dX9_who_5 : decode cX9_who 5 = .ok (.invokevirtual 188, 3) := by decide +kernel
theorem dX9_who_8 : decode cX9_who 8 = .ok (.ifCond .eq 30, 3) := by decide +kernel
theorem dX9_who_11 : decode cX9_who 11 = .ok (.iload_n 2, 1) := by decide +kernel
theorem dX9_who_12 : decode cX9_who 12 = .ok (.iconst 0, 1) := by decide +kernel
theorem dX9_who_13 : decode cX9_who 13 = .ok (.iconst 1, 1) := by decide +kernel
theorem dX9_who_14 : decode cX9_who 14 = .ok (.invokestatic 83, 3) := by decide +kernel
theorem dX9_who_17 : decode cX9_who 17 = .ok (.ifCond .eq 21, 3) := by decide +kernel
theorem dX9_who_20 : decode cX9_who 20 = .ok (.iload_n 3, 1) := by decide +kernel
theorem dX9_who_21 : decode cX9_who 21 = .ok (.invokestatic 79, 3) := by decide +kernel
theorem dX9_who_24 : decode cX9_who 24 = .ok (.ifCond .eq 14, 3) := by decide +kernel
theorem dX9_who_27 : decode cX9_who 27 = .ok (.iload 5, 2) := by decide +kernel
theorem dX9_who_29 : decode cX9_who 29 = .ok (.iconst 1, 1) := by decide +kernel
theorem dX9_who_30 : decode cX9_who 30 = .ok (.bipush 12, 2) := by decide +kernel
theorem dX9_who_32 : decode cX9_who 32 = .ok (.invokestatic 83, 3) := by decide +kernel
theorem dX9_who_35 : decode cX9_who 35 = .ok (.ifCond .ne 6, 3) := by decide +kernel
theorem dX9_who_38 : decode cX9_who 38 = .ok (.ldc 87, 2) := by decide +kernel
theorem dX9_who_40 : decode cX9_who 40 = .ok (.ireturn, 1) := by decide +kernel
theorem dX9_who_41 : decode cX9_who 41 = .ok (.aload_n 0, 1) := by decide +kernel
theorem dX9_who_42 : decode cX9_who 42 = .ok (.iload_n 3, 1) := by decide +kernel
theorem dX9_who_43 : decode cX9_who 43 = .ok (.iload 4, 2) := by decide +kernel
theorem dX9_who_45 : decode cX9_who 45 = .ok (.iload 5, 2) := by decide +kernel
theorem dX9_who_47 : decode cX9_who 47 = .ok (.invokevirtual 99, 3) := by decide +kernel
theorem dX9_who_50 : decode cX9_who 50 = .ok (.istore 6, 2) := by decide +kernel
theorem dX9_who_52 : decode cX9_who 52 = .ok (.iload 6, 2) := by decide +kernel
theorem dX9_who_54 : decode cX9_who 54 = .ok (.ifCond .eq 10, 3) := by decide +kernel
theorem dX9_who_57 : decode cX9_who 57 = .ok (.aload_n 0, 1) := by decide +kernel
theorem dX9_who_58 : decode cX9_who 58 = .ok (.iload 6, 2) := by decide +kernel
theorem dX9_who_60 : decode cX9_who 60 = .ok (.invokevirtual 88, 3) := by decide +kernel
theorem dX9_who_63 : decode cX9_who 63 = .ok (.ireturn, 1) := by decide +kernel
theorem dX9_who_64 : decode cX9_who 64 = .ok (.iconst 0, 1) := by decide +kernel
theorem dX9_who_65 : decode cX9_who 65 = .ok (.istore 7, 2) := by decide +kernel
theorem dX9_who_67 : decode cX9_who 67 = .ok (.iconst 1, 1) := by decide +kernel
theorem dX9_who_68 : decode cX9_who 68 = .ok (.istore 8, 2) := by decide +kernel
theorem dX9_who_70 : decode cX9_who 70 = .ok (.iload 8, 2) := by decide +kernel
theorem dX9_who_72 : decode cX9_who 72 = .ok (.iconst 5, 1) := by decide +kernel
theorem dX9_who_73 : decode cX9_who 73 = .ok (.if_icmp .gt 69, 3) := by decide +kernel
theorem dX9_who_76 : decode cX9_who 76 = .ok (.iconst 0, 1) := by decide +kernel
theorem dX9_who_77 : decode cX9_who 77 = .ok (.istore 9, 2) := by decide +kernel
theorem dX9_who_79 : decode cX9_who 79 = .ok (.iload 9, 2) := by decide +kernel
theorem dX9_who_81 : decode cX9_who 81 = .ok (.aload_n 0, 1) := by decide +kernel
theorem dX9_who_82 : decode cX9_who 82 = .ok (.getfield 24, 3) := by decide +kernel
theorem dX9_who_85 : decode cX9_who 85 = .ok (.getfield 315, 3) := by decide +kernel
theorem dX9_who_88 : decode cX9_who 88 = .ok (.if_icmp .ge 48, 3) := by decide +kernel
theorem dX9_who_91 : decode cX9_who 91 = .ok (.aload_n 0, 1) := by decide +kernel
theorem dX9_who_92 : decode cX9_who 92 = .ok (.iload 8, 2) := by decide +kernel
theorem dX9_who_94 : decode cX9_who 94 = .ok (.iload 9, 2) := by decide +kernel
theorem dX9_who_96 : decode cX9_who 96 = .ok (.aload_n 0, 1) := by decide +kernel
theorem dX9_who_97 : decode cX9_who 97 = .ok (.getfield 11, 3) := by decide +kernel
theorem dX9_who_100 : decode cX9_who 100 = .ok (.iload_n 3, 1) := by decide +kernel
theorem dX9_who_101 : decode cX9_who 101 = .ok (.aaload, 1) := by decide +kernel
theorem dX9_who_102 : decode cX9_who 102 = .ok (.iload 4, 2) := by decide +kernel
theorem dX9_who_104 : decode cX9_who 104 = .ok (.iload 5, 2) := by decide +kernel
theorem dX9_who_106 : decode cX9_who 106 = .ok (.invokevirtual 318, 3) := by decide +kernel
theorem dX9_who_109 : decode cX9_who 109 = .ok (.ifCond .eq 21, 3) := by decide +kernel
theorem dX9_who_112 : decode cX9_who 112 = .ok (.iload 7, 2) := by decide +kernel
theorem dX9_who_114 : decode cX9_who 114 = .ok (.iconst 1, 1) := by decide +kernel
theorem dX9_who_115 : decode cX9_who 115 = .ok (.iload_n 2, 1) := by decide +kernel
theorem dX9_who_116 : decode cX9_who 116 = .ok (.ifCond .ne 8, 3) := by decide +kernel
theorem dX9_who_119 : decode cX9_who 119 = .ok (.iload 8, 2) := by decide +kernel
theorem dX9_who_121 : decode cX9_who 121 = .ok (.goto 5, 3) := by decide +kernel
theorem dX9_who_124 : decode cX9_who 124 = .ok (.iload 9, 2) := by decide +kernel
theorem dX9_who_126 : decode cX9_who 126 = .ok (.ishl, 1) := by decide +kernel
theorem dX9_who_127 : decode cX9_who 127 = .ok (.ior, 1) := by decide +kernel
theorem dX9_who_128 : decode cX9_who 128 = .ok (.istore 7, 2) := by decide +kernel
theorem dX9_who_130 : decode cX9_who 130 = .ok (.iinc 9 1, 3) := by decide +kernel
theorem dX9_who_133 : decode cX9_who 133 = .ok (.goto (-54), 3) := by decide +kernel
theorem dX9_who_136 : decode cX9_who 136 = .ok (.iinc 8 1, 3) := by decide +kernel
theorem dX9_who_139 : decode cX9_who 139 = .ok (.goto (-69), 3) := by decide +kernel
theorem dX9_who_142 : decode cX9_who 142 = .ok (.aload_n 0, 1) := by decide +kernel
theorem dX9_who_143 : decode cX9_who 143 = .ok (.iload 7, 2) := by decide +kernel
theorem dX9_who_145 : decode cX9_who 145 = .ok (.invokevirtual 96, 3) := by decide +kernel
theorem dX9_who_148 : decode cX9_who 148 = .ok (.ireturn, 1) := by decide +kernel
theorem dX9_priced_0 : decode cX9_priced 0 = .ok (.iload_n 1, 1) := by decide +kernel
theorem dX9_priced_1 : decode cX9_priced 1 = .ok (.invokestatic 79, 3) := by decide +kernel
theorem dX9_priced_4 : decode cX9_priced 4 = .ok (.ifCond .eq 21, 3) := by decide +kernel
theorem dX9_priced_7 : decode cX9_priced 7 = .ok (.iload_n 3, 1) := by decide +kernel
theorem dX9_priced_8 : decode cX9_priced 8 = .ok (.invokestatic 79, 3) := by decide +kernel
theorem dX9_priced_11 : decode cX9_priced 11 = .ok (.ifCond .eq 14, 3) := by decide +kernel
theorem dX9_priced_14 : decode cX9_priced 14 = .ok (.iload 5, 2) := by decide +kernel
theorem dX9_priced_16 : decode cX9_priced 16 = .ok (.iconst 1, 1) := by decide +kernel
theorem dX9_priced_17 : decode cX9_priced 17 = .ok (.bipush 12, 2) := by decide +kernel
theorem dX9_priced_19 : decode cX9_priced 19 = .ok (.invokestatic 83, 3) := by decide +kernel
theorem dX9_priced_22 : decode cX9_priced 22 = .ok (.ifCond .ne 6, 3) := by decide +kernel
theorem dX9_priced_25 : decode cX9_priced 25 = .ok (.ldc 87, 2) := by decide +kernel
theorem dX9_priced_27 : decode cX9_priced 27 = .ok (.ireturn, 1) := by decide +kernel
theorem dX9_priced_28 : decode cX9_priced 28 = .ok (.aload_n 0, 1) := by decide +kernel
theorem dX9_priced_29 : decode cX9_priced 29 = .ok (.iload_n 1, 1) := by decide +kernel
theorem dX9_priced_30 : decode cX9_priced 30 = .ok (.iload_n 2, 1) := by decide +kernel
theorem dX9_priced_31 : decode cX9_priced 31 = .ok (.iload 5, 2) := by decide +kernel
theorem dX9_priced_33 : decode cX9_priced 33 = .ok (.invokevirtual 99, 3) := by decide +kernel
theorem dX9_priced_36 : decode cX9_priced 36 = .ok (.istore 6, 2) := by decide +kernel
theorem dX9_priced_38 : decode cX9_priced 38 = .ok (.iload 6, 2) := by decide +kernel
theorem dX9_priced_40 : decode cX9_priced 40 = .ok (.ifCond .ne 14, 3) := by decide +kernel
theorem dX9_priced_43 : decode cX9_priced 43 = .ok (.aload_n 0, 1) := by decide +kernel
theorem dX9_priced_44 : decode cX9_priced 44 = .ok (.iload_n 3, 1) := by decide +kernel
theorem dX9_priced_45 : decode cX9_priced 45 = .ok (.iload 4, 2) := by decide +kernel
theorem dX9_priced_47 : decode cX9_priced 47 = .ok (.iload 5, 2) := by decide +kernel
theorem dX9_priced_49 : decode cX9_priced 49 = .ok (.invokevirtual 99, 3) := by decide +kernel
theorem dX9_priced_52 : decode cX9_priced 52 = .ok (.istore 6, 2) := by decide +kernel
theorem dX9_priced_54 : decode cX9_priced 54 = .ok (.iload 6, 2) := by decide +kernel
theorem dX9_priced_56 : decode cX9_priced 56 = .ok (.ifCond .ne 44, 3) := by decide +kernel
theorem dX9_priced_59 : decode cX9_priced 59 = .ok (.aload_n 0, 1) := by decide +kernel
theorem dX9_priced_60 : decode cX9_priced 60 = .ok (.getfield 11, 3) := by decide +kernel
theorem dX9_priced_63 : decode cX9_priced 63 = .ok (.iload_n 1, 1) := by decide +kernel
theorem dX9_priced_64 : decode cX9_priced 64 = .ok (.aaload, 1) := by decide +kernel
theorem dX9_priced_65 : decode cX9_priced 65 = .ok (.iload_n 2, 1) := by decide +kernel
theorem dX9_priced_66 : decode cX9_priced 66 = .ok (.iload 5, 2) := by decide +kernel
theorem dX9_priced_68 : decode cX9_priced 68 = .ok (.iconst 0, 1) := by decide +kernel
theorem dX9_priced_69 : decode cX9_priced 69 = .ok (.sipush 999, 3) := by decide +kernel
theorem dX9_priced_72 : decode cX9_priced 72 = .ok (.invokevirtual 303, 3) := by decide +kernel
theorem dX9_priced_75 : decode cX9_priced 75 = .ok (.ifCond .eq 22, 3) := by decide +kernel
theorem dX9_priced_78 : decode cX9_priced 78 = .ok (.aload_n 0, 1) := by decide +kernel
theorem dX9_priced_79 : decode cX9_priced 79 = .ok (.getfield 11, 3) := by decide +kernel
theorem dX9_priced_82 : decode cX9_priced 82 = .ok (.iload_n 3, 1) := by decide +kernel
theorem dX9_priced_83 : decode cX9_priced 83 = .ok (.aaload, 1) := by decide +kernel
theorem dX9_priced_84 : decode cX9_priced 84 = .ok (.iload 4, 2) := by decide +kernel
theorem dX9_priced_86 : decode cX9_priced 86 = .ok (.iload 5, 2) := by decide +kernel
theorem dX9_priced_88 : decode cX9_priced 88 = .ok (.iconst 1, 1) := by decide +kernel
theorem dX9_priced_89 : decode cX9_priced 89 = .ok (.bipush 9, 2) := by decide +kernel
theorem dX9_priced_91 : decode cX9_priced 91 = .ok (.invokevirtual 303, 3) := by decide +kernel
theorem dX9_priced_94 : decode cX9_priced 94 = .ok (.ifCond .ne 6, 3) := by decide +kernel
theorem dX9_priced_97 : decode cX9_priced 97 = .ok (.iconst 3, 1) := by decide +kernel
theorem dX9_priced_98 : decode cX9_priced 98 = .ok (.istore 6, 2) := by decide +kernel
theorem dX9_priced_100 : decode cX9_priced 100 = .ok (.iload 6, 2) := by decide +kernel
theorem dX9_priced_102 : decode cX9_priced 102 = .ok (.ifCond .eq 10, 3) := by decide +kernel
theorem dX9_priced_105 : decode cX9_priced 105 = .ok (.aload_n 0, 1) := by decide +kernel
theorem dX9_priced_106 : decode cX9_priced 106 = .ok (.iload 6, 2) := by decide +kernel
theorem dX9_priced_108 : decode cX9_priced 108 = .ok (.invokevirtual 88, 3) := by decide +kernel
theorem dX9_priced_111 : decode cX9_priced 111 = .ok (.ireturn, 1) := by decide +kernel
theorem dX9_priced_112 : decode cX9_priced 112 = .ok (.iconst 0, 1) := by decide +kernel
theorem dX9_priced_113 : decode cX9_priced 113 = .ok (.istore 7, 2) := by decide +kernel
theorem dX9_priced_115 : decode cX9_priced 115 = .ok (.iconst 0, 1) := by decide +kernel
theorem dX9_priced_116 : decode cX9_priced 116 = .ok (.istore 8, 2) := by decide +kernel
theorem dX9_priced_118 : decode cX9_priced 118 = .ok (.iload 8, 2) := by decide +kernel
theorem dX9_priced_120 : decode cX9_priced 120 = .ok (.iload 5, 2) := by decide +kernel
theorem dX9_priced_122 : decode cX9_priced 122 = .ok (.if_icmp .ge 44, 3) := by decide +kernel
theorem dX9_priced_125 : decode cX9_priced 125 = .ok (.iload 7, 2) := by decide +kernel
theorem dX9_priced_127 : decode cX9_priced 127 = .ok (.aload_n 0, 1) := by decide +kernel
theorem dX9_priced_128 : decode cX9_priced 128 = .ok (.getfield 11, 3) := by decide +kernel
theorem dX9_priced_131 : decode cX9_priced 131 = .ok (.iload_n 1, 1) := by decide +kernel
theorem dX9_priced_132 : decode cX9_priced 132 = .ok (.aaload, 1) := by decide +kernel
theorem dX9_priced_133 : decode cX9_priced 133 = .ok (.getfield 119, 3) := by decide +kernel
theorem dX9_priced_136 : decode cX9_priced 136 = .ok (.iload_n 2, 1) := by decide +kernel
theorem dX9_priced_137 : decode cX9_priced 137 = .ok (.iload 8, 2) := by decide +kernel
theorem dX9_priced_139 : decode cX9_priced 139 = .ok (.iadd, 1) := by decide +kernel
theorem dX9_priced_140 : decode cX9_priced 140 = .ok (.iaload, 1) := by decide +kernel
theorem dX9_priced_141 : decode cX9_priced 141 = .ok (.aload_n 0, 1) := by decide +kernel
theorem dX9_priced_142 : decode cX9_priced 142 = .ok (.getfield 11, 3) := by decide +kernel
theorem dX9_priced_145 : decode cX9_priced 145 = .ok (.iload_n 3, 1) := by decide +kernel
theorem dX9_priced_146 : decode cX9_priced 146 = .ok (.aaload, 1) := by decide +kernel
theorem dX9_priced_147 : decode cX9_priced 147 = .ok (.getfield 119, 3) := by decide +kernel
theorem dX9_priced_150 : decode cX9_priced 150 = .ok (.iload 4, 2) := by decide +kernel
theorem dX9_priced_152 : decode cX9_priced 152 = .ok (.iload 8, 2) := by decide +kernel
theorem dX9_priced_154 : decode cX9_priced 154 = .ok (.iadd, 1) := by decide +kernel
theorem dX9_priced_155 : decode cX9_priced 155 = .ok (.iaload, 1) := by decide +kernel
theorem dX9_priced_156 : decode cX9_priced 156 = .ok (.imul, 1) := by decide +kernel
theorem dX9_priced_157 : decode cX9_priced 157 = .ok (.iadd, 1) := by decide +kernel
theorem dX9_priced_158 : decode cX9_priced 158 = .ok (.istore 7, 2) := by decide +kernel
theorem dX9_priced_160 : decode cX9_priced 160 = .ok (.iinc 8 1, 3) := by decide +kernel
theorem dX9_priced_163 : decode cX9_priced 163 = .ok (.goto (-45), 3) := by decide +kernel
theorem dX9_priced_166 : decode cX9_priced 166 = .ok (.aload_n 0, 1) := by decide +kernel
theorem dX9_priced_167 : decode cX9_priced 167 = .ok (.iload 7, 2) := by decide +kernel
theorem dX9_priced_169 : decode cX9_priced 169 = .ok (.invokevirtual 96, 3) := by decide +kernel
theorem dX9_priced_172 : decode cX9_priced 172 = .ok (.ireturn, 1) := by decide +kernel
theorem dX9_heard_0 : decode cX9_heard 0 = .ok (.aload_n 0, 1) := by decide +kernel
theorem dX9_heard_1 : decode cX9_heard 1 = .ok (.getfield 24, 3) := by decide +kernel
theorem dX9_heard_4 : decode cX9_heard 4 = .ok (.iload_n 1, 1) := by decide +kernel
theorem dX9_heard_5 : decode cX9_heard 5 = .ok (.invokevirtual 188, 3) := by decide +kernel
theorem dX9_heard_8 : decode cX9_heard 8 = .ok (.ifCond .eq 45, 3) := by decide +kernel
theorem dX9_heard_11 : decode cX9_heard 11 = .ok (.aload_n 0, 1) := by decide +kernel
theorem dX9_heard_12 : decode cX9_heard 12 = .ok (.getfield 24, 3) := by decide +kernel
theorem dX9_heard_15 : decode cX9_heard 15 = .ok (.iload_n 2, 1) := by decide +kernel
theorem dX9_heard_16 : decode cX9_heard 16 = .ok (.invokevirtual 197, 3) := by decide +kernel
theorem dX9_heard_19 : decode cX9_heard 19 = .ok (.ifCond .eq 34, 3) := by decide +kernel
theorem dX9_heard_22 : decode cX9_heard 22 = .ok (.iload_n 3, 1) := by decide +kernel
theorem dX9_heard_23 : decode cX9_heard 23 = .ok (.iconst 0, 1) := by decide +kernel
theorem dX9_heard_24 : decode cX9_heard 24 = .ok (.bipush 30, 2) := by decide +kernel
theorem dX9_heard_26 : decode cX9_heard 26 = .ok (.invokestatic 83, 3) := by decide +kernel
theorem dX9_heard_29 : decode cX9_heard 29 = .ok (.ifCond .eq 24, 3) := by decide +kernel
theorem dX9_heard_32 : decode cX9_heard 32 = .ok (.iload 4, 2) := by decide +kernel
theorem dX9_heard_34 : decode cX9_heard 34 = .ok (.iconst 0, 1) := by decide +kernel
theorem dX9_heard_35 : decode cX9_heard 35 = .ok (.bipush 10, 2) := by decide +kernel
theorem dX9_heard_37 : decode cX9_heard 37 = .ok (.invokestatic 83, 3) := by decide +kernel
theorem dX9_heard_40 : decode cX9_heard 40 = .ok (.ifCond .eq 13, 3) := by decide +kernel
theorem dX9_heard_43 : decode cX9_heard 43 = .ok (.iload 5, 2) := by decide +kernel
theorem dX9_heard_45 : decode cX9_heard 45 = .ok (.iconst 0, 1) := by decide +kernel
theorem dX9_heard_46 : decode cX9_heard 46 = .ok (.iconst 1, 1) := by decide +kernel
theorem dX9_heard_47 : decode cX9_heard 47 = .ok (.invokestatic 83, 3) := by decide +kernel
theorem dX9_heard_50 : decode cX9_heard 50 = .ok (.ifCond .ne 7, 3) := by decide +kernel
theorem dX9_heard_53 : decode cX9_heard 53 = .ok (.ldc2_w 322, 3) := by decide +kernel
theorem dX9_heard_56 : decode cX9_heard 56 = .ok (.lreturn, 1) := by decide +kernel
theorem dX9_heard_57 : decode cX9_heard 57 = .ok (.bipush 10, 2) := by decide +kernel
theorem dX9_heard_59 : decode cX9_heard 59 = .ok (.aload_n 0, 1) := by decide +kernel
theorem dX9_heard_60 : decode cX9_heard 60 = .ok (.getfield 24, 3) := by decide +kernel
theorem dX9_heard_63 : decode cX9_heard 63 = .ok (.getfield 315, 3) := by decide +kernel
theorem dX9_heard_66 : decode cX9_heard 66 = .ok (.iconst 1, 1) := by decide +kernel
theorem dX9_heard_67 : decode cX9_heard 67 = .ok (.isub, 1) := by decide +kernel
theorem dX9_heard_68 : decode cX9_heard 68 = .ok (.invokestatic 324, 3) := by decide +kernel
theorem dX9_heard_71 : decode cX9_heard 71 = .ok (.lstore 6, 2) := by decide +kernel
theorem dX9_heard_73 : decode cX9_heard 73 = .ok (.aload_n 0, 1) := by decide +kernel
theorem dX9_heard_74 : decode cX9_heard 74 = .ok (.iload_n 1, 1) := by decide +kernel
theorem dX9_heard_75 : decode cX9_heard 75 = .ok (.iload_n 2, 1) := by decide +kernel
theorem dX9_heard_76 : decode cX9_heard 76 = .ok (.iload_n 3, 1) := by decide +kernel
theorem dX9_heard_77 : decode cX9_heard 77 = .ok (.iload 4, 2) := by decide +kernel
theorem dX9_heard_79 : decode cX9_heard 79 = .ok (.invokevirtual 328, 3) := by decide +kernel
theorem dX9_heard_82 : decode cX9_heard 82 = .ok (.lstore 8, 2) := by decide +kernel
theorem dX9_heard_84 : decode cX9_heard 84 = .ok (.lload 8, 2) := by decide +kernel
theorem dX9_heard_86 : decode cX9_heard 86 = .ok (.lload 6, 2) := by decide +kernel
theorem dX9_heard_88 : decode cX9_heard 88 = .ok (.invokestatic 332, 3) := by decide +kernel
theorem dX9_heard_91 : decode cX9_heard 91 = .ok (.lstore 10, 2) := by decide +kernel
theorem dX9_heard_93 : decode cX9_heard 93 = .ok (.lload 10, 2) := by decide +kernel
theorem dX9_heard_95 : decode cX9_heard 95 = .ok (.lconst 0, 1) := by decide +kernel
theorem dX9_heard_96 : decode cX9_heard 96 = .ok (.lcmp, 1) := by decide +kernel
theorem dX9_heard_97 : decode cX9_heard 97 = .ok (.ifCond .gt 7, 3) := by decide +kernel
theorem dX9_heard_100 : decode cX9_heard 100 = .ok (.ldc2_w 322, 3) := by decide +kernel
theorem dX9_heard_103 : decode cX9_heard 103 = .ok (.lreturn, 1) := by decide +kernel
theorem dX9_heard_104 : decode cX9_heard 104 = .ok (.iload 5, 2) := by decide +kernel
theorem dX9_heard_106 : decode cX9_heard 106 = .ok (.ifCond .ne 11, 3) := by decide +kernel
theorem dX9_heard_109 : decode cX9_heard 109 = .ok (.lload 8, 2) := by decide +kernel
theorem dX9_heard_111 : decode cX9_heard 111 = .ok (.lload 10, 2) := by decide +kernel
theorem dX9_heard_113 : decode cX9_heard 113 = .ok (.ldiv, 1) := by decide +kernel
theorem dX9_heard_114 : decode cX9_heard 114 = .ok (.goto 8, 3) := by decide +kernel
theorem dX9_heard_117 : decode cX9_heard 117 = .ok (.lload 6, 2) := by decide +kernel
theorem dX9_heard_119 : decode cX9_heard 119 = .ok (.lload 10, 2) := by decide +kernel
theorem dX9_heard_121 : decode cX9_heard 121 = .ok (.ldiv, 1) := by decide +kernel
theorem dX9_heard_122 : decode cX9_heard 122 = .ok (.lreturn, 1) := by decide +kernel
theorem dX9_drawn_0 : decode cX9_drawn 0 = .ok (.aload_n 0, 1) := by decide +kernel
theorem dX9_drawn_1 : decode cX9_drawn 1 = .ok (.invokevirtual 172, 3) := by decide +kernel
theorem dX9_drawn_4 : decode cX9_drawn 4 = .ok (.ifCond .eq 6, 3) := by decide +kernel
theorem dX9_drawn_7 : decode cX9_drawn 7 = .ok (.ldc 171, 2) := by decide +kernel
theorem dX9_drawn_9 : decode cX9_drawn 9 = .ok (.ireturn, 1) := by decide +kernel
theorem dX9_drawn_10 : decode cX9_drawn 10 = .ok (.iload_n 1, 1) := by decide +kernel
theorem dX9_drawn_11 : decode cX9_drawn 11 = .ok (.iconst 0, 1) := by decide +kernel
theorem dX9_drawn_12 : decode cX9_drawn 12 = .ok (.bipush 60, 2) := by decide +kernel
theorem dX9_drawn_14 : decode cX9_drawn 14 = .ok (.invokestatic 83, 3) := by decide +kernel
theorem dX9_drawn_17 : decode cX9_drawn 17 = .ok (.ifCond .eq 23, 3) := by decide +kernel
theorem dX9_drawn_20 : decode cX9_drawn 20 = .ok (.iload_n 2, 1) := by decide +kernel
theorem dX9_drawn_21 : decode cX9_drawn 21 = .ok (.iconst 1, 1) := by decide +kernel
theorem dX9_drawn_22 : decode cX9_drawn 22 = .ok (.ldc_w 336, 3) := by decide +kernel
theorem dX9_drawn_25 : decode cX9_drawn 25 = .ok (.invokestatic 83, 3) := by decide +kernel
theorem dX9_drawn_28 : decode cX9_drawn 28 = .ok (.ifCond .eq 12, 3) := by decide +kernel
theorem dX9_drawn_31 : decode cX9_drawn 31 = .ok (.iload_n 3, 1) := by decide +kernel
theorem dX9_drawn_32 : decode cX9_drawn 32 = .ok (.iconst 0, 1) := by decide +kernel
theorem dX9_drawn_33 : decode cX9_drawn 33 = .ok (.iconst 1, 1) := by decide +kernel
theorem dX9_drawn_34 : decode cX9_drawn 34 = .ok (.invokestatic 83, 3) := by decide +kernel
theorem dX9_drawn_37 : decode cX9_drawn 37 = .ok (.ifCond .ne 6, 3) := by decide +kernel
theorem dX9_drawn_40 : decode cX9_drawn 40 = .ok (.ldc 87, 2) := by decide +kernel
theorem dX9_drawn_42 : decode cX9_drawn 42 = .ok (.ireturn, 1) := by decide +kernel
theorem dX9_drawn_43 : decode cX9_drawn 43 = .ok (.aload_n 0, 1) := by decide +kernel
theorem dX9_drawn_44 : decode cX9_drawn 44 = .ok (.iload_n 1, 1) := by decide +kernel
theorem dX9_drawn_45 : decode cX9_drawn 45 = .ok (.iload_n 2, 1) := by decide +kernel
theorem dX9_drawn_46 : decode cX9_drawn 46 = .ok (.invokevirtual 337, 3) := by decide +kernel
theorem dX9_drawn_49 : decode cX9_drawn 49 = .ok (.iload_n 3, 1) := by decide +kernel
theorem dX9_drawn_50 : decode cX9_drawn 50 = .ok (.ifCond .ne 13, 3) := by decide +kernel
theorem dX9_drawn_53 : decode cX9_drawn 53 = .ok (.aload_n 0, 1) := by decide +kernel
theorem dX9_drawn_54 : decode cX9_drawn 54 = .ok (.getfield 37, 3) := by decide +kernel
theorem dX9_drawn_57 : decode cX9_drawn 57 = .ok (.getfield 255, 3) := by decide +kernel
theorem dX9_drawn_60 : decode cX9_drawn 60 = .ok (.goto 10, 3) := by decide +kernel
theorem dX9_drawn_63 : decode cX9_drawn 63 = .ok (.aload_n 0, 1) := by decide +kernel
theorem dX9_drawn_64 : decode cX9_drawn 64 = .ok (.getfield 37, 3) := by decide +kernel
theorem dX9_drawn_67 : decode cX9_drawn 67 = .ok (.getfield 185, 3) := by decide +kernel
theorem dX9_drawn_70 : decode cX9_drawn 70 = .ok (.ireturn, 1) := by decide +kernel
theorem dX9_image_0 : decode cX9_image 0 = .ok (.iload_n 1, 1) := by decide +kernel
theorem dX9_image_1 : decode cX9_image 1 = .ok (.iconst 0, 1) := by decide +kernel
theorem dX9_image_2 : decode cX9_image 2 = .ok (.iconst 1, 1) := by decide +kernel
theorem dX9_image_3 : decode cX9_image 3 = .ok (.invokestatic 83, 3) := by decide +kernel
theorem dX9_image_6 : decode cX9_image 6 = .ok (.ifCond .ne 6, 3) := by decide +kernel
theorem dX9_image_9 : decode cX9_image 9 = .ok (.ldc 87, 2) := by decide +kernel
theorem dX9_image_11 : decode cX9_image 11 = .ok (.ireturn, 1) := by decide +kernel
theorem dX9_image_12 : decode cX9_image 12 = .ok (.aload_n 0, 1) := by decide +kernel
theorem dX9_image_13 : decode cX9_image 13 = .ok (.invokevirtual 172, 3) := by decide +kernel
theorem dX9_image_16 : decode cX9_image 16 = .ok (.ifCond .eq 6, 3) := by decide +kernel
theorem dX9_image_19 : decode cX9_image 19 = .ok (.ldc 171, 2) := by decide +kernel
theorem dX9_image_21 : decode cX9_image 21 = .ok (.ireturn, 1) := by decide +kernel
theorem dX9_image_22 : decode cX9_image 22 = .ok (.aload_n 0, 1) := by decide +kernel
theorem dX9_image_23 : decode cX9_image 23 = .ok (.getfield 17, 3) := by decide +kernel
theorem dX9_image_26 : decode cX9_image 26 = .ok (.iload_n 1, 1) := by decide +kernel
theorem dX9_image_27 : decode cX9_image 27 = .ok (.aaload, 1) := by decide +kernel
theorem dX9_image_28 : decode cX9_image 28 = .ok (.getfield 340, 3) := by decide +kernel
theorem dX9_image_31 : decode cX9_image 31 = .ok (.aload_n 0, 1) := by decide +kernel
theorem dX9_image_32 : decode cX9_image 32 = .ok (.getfield 24, 3) := by decide +kernel
theorem dX9_image_35 : decode cX9_image 35 = .ok (.invokevirtual 148, 3) := by decide +kernel
theorem dX9_image_38 : decode cX9_image 38 = .ok (.aload_n 0, 1) := by decide +kernel
theorem dX9_image_39 : decode cX9_image 39 = .ok (.getfield 17, 3) := by decide +kernel
theorem dX9_image_42 : decode cX9_image 42 = .ok (.iload_n 1, 1) := by decide +kernel
theorem dX9_image_43 : decode cX9_image 43 = .ok (.aaload, 1) := by decide +kernel
theorem dX9_image_44 : decode cX9_image 44 = .ok (.getfield 341, 3) := by decide +kernel
theorem dX9_image_47 : decode cX9_image 47 = .ok (.aload_n 0, 1) := by decide +kernel
theorem dX9_image_48 : decode cX9_image 48 = .ok (.getfield 33, 3) := by decide +kernel
theorem dX9_image_51 : decode cX9_image 51 = .ok (.invokevirtual 152, 3) := by decide +kernel
theorem dX9_image_54 : decode cX9_image 54 = .ok (.aload_n 0, 1) := by decide +kernel
theorem dX9_image_55 : decode cX9_image 55 = .ok (.getfield 17, 3) := by decide +kernel
theorem dX9_image_58 : decode cX9_image 58 = .ok (.iload_n 1, 1) := by decide +kernel
theorem dX9_image_59 : decode cX9_image 59 = .ok (.aaload, 1) := by decide +kernel
theorem dX9_image_60 : decode cX9_image 60 = .ok (.iconst 1, 1) := by decide +kernel
theorem dX9_image_61 : decode cX9_image 61 = .ok (.putfield 342, 3) := by decide +kernel
theorem dX9_image_64 : decode cX9_image 64 = .ok (.iconst 1, 1) := by decide +kernel
theorem dX9_image_65 : decode cX9_image 65 = .ok (.ireturn, 1) := by decide +kernel
theorem dX9_restore_0 : decode cX9_restore 0 = .ok (.iload_n 1, 1) := by decide +kernel
theorem dX9_restore_1 : decode cX9_restore 1 = .ok (.iconst 0, 1) := by decide +kernel
theorem dX9_restore_2 : decode cX9_restore 2 = .ok (.iconst 1, 1) := by decide +kernel
theorem dX9_restore_3 : decode cX9_restore 3 = .ok (.invokestatic 83, 3) := by decide +kernel
theorem dX9_restore_6 : decode cX9_restore 6 = .ok (.ifCond .ne 6, 3) := by decide +kernel
theorem dX9_restore_9 : decode cX9_restore 9 = .ok (.ldc 87, 2) := by decide +kernel
theorem dX9_restore_11 : decode cX9_restore 11 = .ok (.ireturn, 1) := by decide +kernel
theorem dX9_restore_12 : decode cX9_restore 12 = .ok (.aload_n 0, 1) := by decide +kernel
theorem dX9_restore_13 : decode cX9_restore 13 = .ok (.getfield 17, 3) := by decide +kernel
theorem dX9_restore_16 : decode cX9_restore 16 = .ok (.iload_n 1, 1) := by decide +kernel
theorem dX9_restore_17 : decode cX9_restore 17 = .ok (.aaload, 1) := by decide +kernel
theorem dX9_restore_18 : decode cX9_restore 18 = .ok (.getfield 342, 3) := by decide +kernel
theorem dX9_restore_21 : decode cX9_restore 21 = .ok (.ifCond .ne 6, 3) := by decide +kernel
theorem dX9_restore_24 : decode cX9_restore 24 = .ok (.ldc 171, 2) := by decide +kernel
theorem dX9_restore_26 : decode cX9_restore 26 = .ok (.ireturn, 1) := by decide +kernel
theorem dX9_restore_27 : decode cX9_restore 27 = .ok (.aload_n 0, 1) := by decide +kernel
theorem dX9_restore_28 : decode cX9_restore 28 = .ok (.getfield 24, 3) := by decide +kernel
theorem dX9_restore_31 : decode cX9_restore 31 = .ok (.aload_n 0, 1) := by decide +kernel
theorem dX9_restore_32 : decode cX9_restore 32 = .ok (.getfield 17, 3) := by decide +kernel
theorem dX9_restore_35 : decode cX9_restore 35 = .ok (.iload_n 1, 1) := by decide +kernel
theorem dX9_restore_36 : decode cX9_restore 36 = .ok (.aaload, 1) := by decide +kernel
theorem dX9_restore_37 : decode cX9_restore 37 = .ok (.getfield 340, 3) := by decide +kernel
theorem dX9_restore_40 : decode cX9_restore 40 = .ok (.invokevirtual 148, 3) := by decide +kernel
theorem dX9_restore_43 : decode cX9_restore 43 = .ok (.aload_n 0, 1) := by decide +kernel
theorem dX9_restore_44 : decode cX9_restore 44 = .ok (.getfield 33, 3) := by decide +kernel
theorem dX9_restore_47 : decode cX9_restore 47 = .ok (.aload_n 0, 1) := by decide +kernel
theorem dX9_restore_48 : decode cX9_restore 48 = .ok (.getfield 17, 3) := by decide +kernel
theorem dX9_restore_51 : decode cX9_restore 51 = .ok (.iload_n 1, 1) := by decide +kernel
theorem dX9_restore_52 : decode cX9_restore 52 = .ok (.aaload, 1) := by decide +kernel
theorem dX9_restore_53 : decode cX9_restore 53 = .ok (.getfield 341, 3) := by decide +kernel
theorem dX9_restore_56 : decode cX9_restore 56 = .ok (.invokevirtual 152, 3) := by decide +kernel
theorem dX9_restore_59 : decode cX9_restore 59 = .ok (.aload_n 0, 1) := by decide +kernel
theorem dX9_restore_60 : decode cX9_restore 60 = .ok (.getfield 43, 3) := by decide +kernel
theorem dX9_restore_63 : decode cX9_restore 63 = .ok (.invokevirtual 155, 3) := by decide +kernel
theorem dX9_restore_66 : decode cX9_restore 66 = .ok (.iconst 1, 1) := by decide +kernel
theorem dX9_restore_67 : decode cX9_restore 67 = .ok (.ireturn, 1) := by decide +kernel
theorem dX9_kind_0 : decode cX9_kind 0 = .ok (.aload_n 0, 1) := by decide +kernel
theorem dX9_kind_1 : decode cX9_kind 1 = .ok (.getfield 24, 3) := by decide +kernel
theorem dX9_kind_4 : decode cX9_kind 4 = .ok (.iload_n 1, 1) := by decide +kernel
theorem dX9_kind_5 : decode cX9_kind 5 = .ok (.invokevirtual 188, 3) := by decide +kernel
theorem dX9_kind_8 : decode cX9_kind 8 = .ok (.ifCond .eq 15, 3) := by decide +kernel
theorem dX9_kind_11 : decode cX9_kind 11 = .ok (.aload_n 0, 1) := by decide +kernel
theorem dX9_kind_12 : decode cX9_kind 12 = .ok (.getfield 24, 3) := by decide +kernel
theorem dX9_kind_15 : decode cX9_kind 15 = .ok (.getfield 344, 3) := by decide +kernel
theorem dX9_kind_18 : decode cX9_kind 18 = .ok (.iload_n 1, 1) := by decide +kernel
theorem dX9_kind_19 : decode cX9_kind 19 = .ok (.iaload, 1) := by decide +kernel
theorem dX9_kind_20 : decode cX9_kind 20 = .ok (.goto 5, 3) := by decide +kernel
theorem dX9_kind_23 : decode cX9_kind 23 = .ok (.ldc 87, 2) := by decide +kernel
theorem dX9_kind_25 : decode cX9_kind 25 = .ok (.ireturn, 1) := by decide +kernel
theorem dX9_as_0 : decode cX9_as 0 = .ok (.aload_n 0, 1) := by decide +kernel
theorem dX9_as_1 : decode cX9_as 1 = .ok (.getfield 24, 3) := by decide +kernel
theorem dX9_as_4 : decode cX9_as 4 = .ok (.iload_n 1, 1) := by decide +kernel
theorem dX9_as_5 : decode cX9_as 5 = .ok (.invokevirtual 188, 3) := by decide +kernel
theorem dX9_as_8 : decode cX9_as 8 = .ok (.ifCond .eq 12, 3) := by decide +kernel
theorem dX9_as_11 : decode cX9_as 11 = .ok (.iload_n 2, 1) := by decide +kernel
theorem dX9_as_12 : decode cX9_as 12 = .ok (.iconst 0, 1) := by decide +kernel
theorem dX9_as_13 : decode cX9_as 13 = .ok (.iconst 5, 1) := by decide +kernel
theorem dX9_as_14 : decode cX9_as 14 = .ok (.invokestatic 83, 3) := by decide +kernel
theorem dX9_as_17 : decode cX9_as 17 = .ok (.ifCond .ne 6, 3) := by decide +kernel
theorem dX9_as_20 : decode cX9_as 20 = .ok (.ldc 87, 2) := by decide +kernel
theorem dX9_as_22 : decode cX9_as 22 = .ok (.ireturn, 1) := by decide +kernel
theorem dX9_as_23 : decode cX9_as 23 = .ok (.aload_n 0, 1) := by decide +kernel
theorem dX9_as_24 : decode cX9_as 24 = .ok (.getfield 24, 3) := by decide +kernel
theorem dX9_as_27 : decode cX9_as 27 = .ok (.getfield 344, 3) := by decide +kernel
theorem dX9_as_30 : decode cX9_as 30 = .ok (.iload_n 1, 1) := by decide +kernel
theorem dX9_as_31 : decode cX9_as 31 = .ok (.iaload, 1) := by decide +kernel
theorem dX9_as_32 : decode cX9_as 32 = .ok (.iload_n 2, 1) := by decide +kernel
theorem dX9_as_33 : decode cX9_as 33 = .ok (.invokestatic 347, 3) := by decide +kernel
theorem dX9_as_36 : decode cX9_as 36 = .ok (.ifCond .eq 11, 3) := by decide +kernel
theorem dX9_as_39 : decode cX9_as 39 = .ok (.aload_n 0, 1) := by decide +kernel
theorem dX9_as_40 : decode cX9_as 40 = .ok (.iload_n 1, 1) := by decide +kernel
theorem dX9_as_41 : decode cX9_as 41 = .ok (.invokevirtual 96, 3) := by decide +kernel
theorem dX9_as_44 : decode cX9_as 44 = .ok (.goto 8, 3) := by decide +kernel
theorem dX9_as_47 : decode cX9_as 47 = .ok (.aload_n 0, 1) := by decide +kernel
theorem dX9_as_48 : decode cX9_as 48 = .ok (.iconst 3, 1) := by decide +kernel
theorem dX9_as_49 : decode cX9_as 49 = .ok (.invokevirtual 88, 3) := by decide +kernel
theorem dX9_as_52 : decode cX9_as 52 = .ok (.ireturn, 1) := by decide +kernel
theorem dX9_ask_0 : decode cX9_ask 0 = .ok (.aload_n 0, 1) := by decide +kernel
theorem dX9_ask_1 : decode cX9_ask 1 = .ok (.getfield 24, 3) := by decide +kernel
theorem dX9_ask_4 : decode cX9_ask 4 = .ok (.iload_n 1, 1) := by decide +kernel
theorem dX9_ask_5 : decode cX9_ask 5 = .ok (.invokevirtual 188, 3) := by decide +kernel
theorem dX9_ask_8 : decode cX9_ask 8 = .ok (.ifCond .eq 12, 3) := by decide +kernel
theorem dX9_ask_11 : decode cX9_ask 11 = .ok (.iload_n 2, 1) := by decide +kernel
theorem dX9_ask_12 : decode cX9_ask 12 = .ok (.iconst 0, 1) := by decide +kernel
theorem dX9_ask_13 : decode cX9_ask 13 = .ok (.iconst 1, 1) := by decide +kernel
theorem dX9_ask_14 : decode cX9_ask 14 = .ok (.invokestatic 83, 3) := by decide +kernel
theorem dX9_ask_17 : decode cX9_ask 17 = .ok (.ifCond .ne 6, 3) := by decide +kernel
theorem dX9_ask_20 : decode cX9_ask 20 = .ok (.ldc 87, 2) := by decide +kernel
theorem dX9_ask_22 : decode cX9_ask 22 = .ok (.ireturn, 1) := by decide +kernel
theorem dX9_ask_23 : decode cX9_ask 23 = .ok (.aload_n 0, 1) := by decide +kernel
theorem dX9_ask_24 : decode cX9_ask 24 = .ok (.getfield 73, 3) := by decide +kernel
theorem dX9_ask_27 : decode cX9_ask 27 = .ok (.iload_n 1, 1) := by decide +kernel
theorem dX9_ask_28 : decode cX9_ask 28 = .ok (.iload_n 2, 1) := by decide +kernel
theorem dX9_ask_29 : decode cX9_ask 29 = .ok (.invokevirtual 350, 3) := by decide +kernel
theorem dX9_ask_32 : decode cX9_ask 32 = .ok (.ireturn, 1) := by decide +kernel
theorem dX9_trace_0 : decode cX9_trace 0 = .ok (.iload_n 1, 1) := by decide +kernel
theorem dX9_trace_1 : decode cX9_trace 1 = .ok (.ifCond .lt 26, 3) := by decide +kernel
theorem dX9_trace_4 : decode cX9_trace 4 = .ok (.iload_n 1, 1) := by decide +kernel
theorem dX9_trace_5 : decode cX9_trace 5 = .ok (.aload_n 0, 1) := by decide +kernel
theorem dX9_trace_6 : decode cX9_trace 6 = .ok (.getfield 73, 3) := by decide +kernel
theorem dX9_trace_9 : decode cX9_trace 9 = .ok (.getfield 353, 3) := by decide +kernel
theorem dX9_trace_12 : decode cX9_trace 12 = .ok (.if_icmp .ge 15, 3) := by decide +kernel
theorem dX9_trace_15 : decode cX9_trace 15 = .ok (.aload_n 0, 1) := by decide +kernel
theorem dX9_trace_16 : decode cX9_trace 16 = .ok (.getfield 73, 3) := by decide +kernel
theorem dX9_trace_19 : decode cX9_trace 19 = .ok (.getfield 356, 3) := by decide +kernel
theorem dX9_trace_22 : decode cX9_trace 22 = .ok (.iload_n 1, 1) := by decide +kernel
theorem dX9_trace_23 : decode cX9_trace 23 = .ok (.iaload, 1) := by decide +kernel
theorem dX9_trace_24 : decode cX9_trace 24 = .ok (.goto 5, 3) := by decide +kernel
theorem dX9_trace_27 : decode cX9_trace 27 = .ok (.ldc 221, 2) := by decide +kernel
theorem dX9_trace_29 : decode cX9_trace 29 = .ok (.ireturn, 1) := by decide +kernel
theorem dX9_count_0 : decode cX9_count 0 = .ok (.iload_n 1, 1) := by decide +kernel
theorem dX9_count_1 : decode cX9_count 1 = .ok (.tableswitch 108 0 7 #[47, 52, 60, 68, 76, 84, 92, 100], 47) := by decide +kernel
theorem dX9_count_48 : decode cX9_count 48 = .ok (.aload_n 0, 1) := by decide +kernel
theorem dX9_count_49 : decode cX9_count 49 = .ok (.invokevirtual 359, 3) := by decide +kernel
theorem dX9_count_52 : decode cX9_count 52 = .ok (.ireturn, 1) := by decide +kernel
theorem dX9_count_53 : decode cX9_count 53 = .ok (.aload_n 0, 1) := by decide +kernel
theorem dX9_count_54 : decode cX9_count 54 = .ok (.getfield 24, 3) := by decide +kernel
theorem dX9_count_57 : decode cX9_count 57 = .ok (.getfield 315, 3) := by decide +kernel
theorem dX9_count_60 : decode cX9_count 60 = .ok (.ireturn, 1) := by decide +kernel
theorem dX9_count_61 : decode cX9_count 61 = .ok (.aload_n 0, 1) := by decide +kernel
theorem dX9_count_62 : decode cX9_count 62 = .ok (.getfield 24, 3) := by decide +kernel
theorem dX9_count_65 : decode cX9_count 65 = .ok (.getfield 158, 3) := by decide +kernel
theorem dX9_count_68 : decode cX9_count 68 = .ok (.ireturn, 1) := by decide +kernel
theorem dX9_count_69 : decode cX9_count 69 = .ok (.aload_n 0, 1) := by decide +kernel
theorem dX9_count_70 : decode cX9_count 70 = .ok (.getfield 33, 3) := by decide +kernel
theorem dX9_count_73 : decode cX9_count 73 = .ok (.getfield 175, 3) := by decide +kernel
theorem dX9_count_76 : decode cX9_count 76 = .ok (.ireturn, 1) := by decide +kernel
theorem dX9_count_77 : decode cX9_count 77 = .ok (.aload_n 0, 1) := by decide +kernel
theorem dX9_count_78 : decode cX9_count 78 = .ok (.getfield 33, 3) := by decide +kernel
theorem dX9_count_81 : decode cX9_count 81 = .ok (.getfield 206, 3) := by decide +kernel
theorem dX9_count_84 : decode cX9_count 84 = .ok (.ireturn, 1) := by decide +kernel
theorem dX9_count_85 : decode cX9_count 85 = .ok (.aload_n 0, 1) := by decide +kernel
theorem dX9_count_86 : decode cX9_count 86 = .ok (.getfield 33, 3) := by decide +kernel
theorem dX9_count_89 : decode cX9_count 89 = .ok (.getfield 185, 3) := by decide +kernel
theorem dX9_count_92 : decode cX9_count 92 = .ok (.ireturn, 1) := by decide +kernel
theorem dX9_count_93 : decode cX9_count 93 = .ok (.aload_n 0, 1) := by decide +kernel
theorem dX9_count_94 : decode cX9_count 94 = .ok (.getfield 43, 3) := by decide +kernel
theorem dX9_count_97 : decode cX9_count 97 = .ok (.getfield 168, 3) := by decide +kernel
theorem dX9_count_100 : decode cX9_count 100 = .ok (.ireturn, 1) := by decide +kernel
theorem dX9_count_101 : decode cX9_count 101 = .ok (.aload_n 0, 1) := by decide +kernel
theorem dX9_count_102 : decode cX9_count 102 = .ok (.getfield 64, 3) := by decide +kernel
theorem dX9_count_105 : decode cX9_count 105 = .ok (.getfield 135, 3) := by decide +kernel
theorem dX9_count_108 : decode cX9_count 108 = .ok (.ireturn, 1) := by decide +kernel
theorem dX9_count_109 : decode cX9_count 109 = .ok (.ldc 87, 2) := by decide +kernel
theorem dX9_count_111 : decode cX9_count 111 = .ok (.ireturn, 1) := by decide +kernel
theorem dX9_status_0 : decode cX9_status 0 = .ok (.aload_n 0, 1) := by decide +kernel
theorem dX9_status_1 : decode cX9_status 1 = .ok (.getfield 362, 3) := by decide +kernel
theorem dX9_status_4 : decode cX9_status 4 = .ok (.ireturn, 1) := by decide +kernel
theorem dX9_within_0 : decode cX9_within 0 = .ok (.iload_n 0, 1) := by decide +kernel
theorem dX9_within_1 : decode cX9_within 1 = .ok (.iload_n 1, 1) := by decide +kernel
theorem dX9_within_2 : decode cX9_within 2 = .ok (.if_icmp .lt 12, 3) := by decide +kernel
theorem dX9_within_5 : decode cX9_within 5 = .ok (.iload_n 0, 1) := by decide +kernel
theorem dX9_within_6 : decode cX9_within 6 = .ok (.iload_n 2, 1) := by decide +kernel
theorem dX9_within_7 : decode cX9_within 7 = .ok (.if_icmp .gt 7, 3) := by decide +kernel
theorem dX9_within_10 : decode cX9_within 10 = .ok (.iconst 1, 1) := by decide +kernel
theorem dX9_within_11 : decode cX9_within 11 = .ok (.goto 4, 3) := by decide +kernel
theorem dX9_within_14 : decode cX9_within 14 = .ok (.iconst 0, 1) := by decide +kernel
theorem dX9_within_15 : decode cX9_within 15 = .ok (.ireturn, 1) := by decide +kernel
theorem dX9_isRow_0 : decode cX9_isRow 0 = .ok (.iload_n 0, 1) := by decide +kernel
theorem dX9_isRow_1 : decode cX9_isRow 1 = .ok (.ifCond .lt 13, 3) := by decide +kernel
theorem dX9_isRow_4 : decode cX9_isRow 4 = .ok (.iload_n 0, 1) := by decide +kernel
theorem dX9_isRow_5 : decode cX9_isRow 5 = .ok (.bipush 8, 2) := by decide +kernel
theorem dX9_isRow_7 : decode cX9_isRow 7 = .ok (.if_icmp .ge 7, 3) := by decide +kernel
theorem dX9_isRow_10 : decode cX9_isRow 10 = .ok (.iconst 1, 1) := by decide +kernel
theorem dX9_isRow_11 : decode cX9_isRow 11 = .ok (.goto 4, 3) := by decide +kernel
theorem dX9_isRow_14 : decode cX9_isRow 14 = .ok (.iconst 0, 1) := by decide +kernel
theorem dX9_isRow_15 : decode cX9_isRow 15 = .ok (.ireturn, 1) := by decide +kernel
theorem dX9_noDuchy_0 : decode cX9_noDuchy 0 = .ok (.aload_n 0, 1) := by decide +kernel
theorem dX9_noDuchy_1 : decode cX9_noDuchy 1 = .ok (.getfield 24, 3) := by decide +kernel
theorem dX9_noDuchy_4 : decode cX9_noDuchy 4 = .ok (.getfield 315, 3) := by decide +kernel
theorem dX9_noDuchy_7 : decode cX9_noDuchy 7 = .ok (.ifCond .ne 7, 3) := by decide +kernel
theorem dX9_noDuchy_10 : decode cX9_noDuchy 10 = .ok (.iconst 1, 1) := by decide +kernel
theorem dX9_noDuchy_11 : decode cX9_noDuchy 11 = .ok (.goto 4, 3) := by decide +kernel
theorem dX9_noDuchy_14 : decode cX9_noDuchy 14 = .ok (.iconst 0, 1) := by decide +kernel
theorem dX9_noDuchy_15 : decode cX9_noDuchy 15 = .ok (.ireturn, 1) := by decide +kernel
theorem dX9_found_0 : decode cX9_found 0 = .ok (.aload_n 0, 1) := by decide +kernel
theorem dX9_found_1 : decode cX9_found 1 = .ok (.iload_n 1, 1) := by decide +kernel
theorem dX9_found_2 : decode cX9_found 2 = .ok (.putfield 362, 3) := by decide +kernel
theorem dX9_found_5 : decode cX9_found 5 = .ok (.ldc_w 365, 3) := by decide +kernel
theorem dX9_found_8 : decode cX9_found 8 = .ok (.iload_n 1, 1) := by decide +kernel
theorem dX9_found_9 : decode cX9_found 9 = .ok (.isub, 1) := by decide +kernel
theorem dX9_found_10 : decode cX9_found 10 = .ok (.ireturn, 1) := by decide +kernel
theorem dX9_fine_0 : decode cX9_fine 0 = .ok (.aload_n 0, 1) := by decide +kernel
theorem dX9_fine_1 : decode cX9_fine 1 = .ok (.iconst 0, 1) := by decide +kernel
theorem dX9_fine_2 : decode cX9_fine 2 = .ok (.putfield 362, 3) := by decide +kernel
theorem dX9_fine_5 : decode cX9_fine 5 = .ok (.iload_n 1, 1) := by decide +kernel
theorem dX9_fine_6 : decode cX9_fine 6 = .ok (.ireturn, 1) := by decide +kernel
theorem dX9_stretchFinding_0 : decode cX9_stretchFinding 0 = .ok (.aload_n 0, 1) := by decide +kernel
theorem dX9_stretchFinding_1 : decode cX9_stretchFinding 1 = .ok (.getfield 11, 3) := by decide +kernel
theorem dX9_stretchFinding_4 : decode cX9_stretchFinding 4 = .ok (.iload_n 1, 1) := by decide +kernel
theorem dX9_stretchFinding_5 : decode cX9_stretchFinding 5 = .ok (.aaload, 1) := by decide +kernel
theorem dX9_stretchFinding_6 : decode cX9_stretchFinding 6 = .ok (.getfield 107, 3) := by decide +kernel
theorem dX9_stretchFinding_9 : decode cX9_stretchFinding 9 = .ok (.ifCond .ne 5, 3) := by decide +kernel
theorem dX9_stretchFinding_12 : decode cX9_stretchFinding 12 = .ok (.iconst 1, 1) := by decide +kernel
theorem dX9_stretchFinding_13 : decode cX9_stretchFinding 13 = .ok (.ireturn, 1) := by decide +kernel
theorem dX9_stretchFinding_14 : decode cX9_stretchFinding 14 = .ok (.aload_n 0, 1) := by decide +kernel
theorem dX9_stretchFinding_15 : decode cX9_stretchFinding 15 = .ok (.getfield 11, 3) := by decide +kernel
theorem dX9_stretchFinding_18 : decode cX9_stretchFinding 18 = .ok (.iload_n 1, 1) := by decide +kernel
theorem dX9_stretchFinding_19 : decode cX9_stretchFinding 19 = .ok (.aaload, 1) := by decide +kernel
theorem dX9_stretchFinding_20 : decode cX9_stretchFinding 20 = .ok (.iload_n 2, 1) := by decide +kernel
theorem dX9_stretchFinding_21 : decode cX9_stretchFinding 21 = .ok (.iload_n 3, 1) := by decide +kernel
theorem dX9_stretchFinding_22 : decode cX9_stretchFinding 22 = .ok (.invokevirtual 115, 3) := by decide +kernel
theorem dX9_stretchFinding_25 : decode cX9_stretchFinding 25 = .ok (.ifCond .eq 7, 3) := by decide +kernel
theorem dX9_stretchFinding_28 : decode cX9_stretchFinding 28 = .ok (.iconst 0, 1) := by decide +kernel
theorem dX9_stretchFinding_29 : decode cX9_stretchFinding 29 = .ok (.goto 4, 3) := by decide +kernel
theorem dX9_stretchFinding_32 : decode cX9_stretchFinding 32 = .ok (.iconst 2, 1) := by decide +kernel
theorem dX9_stretchFinding_33 : decode cX9_stretchFinding 33 = .ok (.ireturn, 1) := by decide +kernel
theorem dX9_rowsThere_0 : decode cX9_rowsThere 0 = .ok (.iconst 0, 1) := by decide +kernel
theorem dX9_rowsThere_1 : decode cX9_rowsThere 1 = .ok (.istore_n 1, 1) := by decide +kernel
theorem dX9_rowsThere_2 : decode cX9_rowsThere 2 = .ok (.iconst 0, 1) := by decide +kernel
theorem dX9_rowsThere_3 : decode cX9_rowsThere 3 = .ok (.istore_n 2, 1) := by decide +kernel
theorem dX9_rowsThere_4 : decode cX9_rowsThere 4 = .ok (.iload_n 2, 1) := by decide +kernel
theorem dX9_rowsThere_5 : decode cX9_rowsThere 5 = .ok (.bipush 8, 2) := by decide +kernel
theorem dX9_rowsThere_7 : decode cX9_rowsThere 7 = .ok (.if_icmp .ge 24, 3) := by decide +kernel
theorem dX9_rowsThere_10 : decode cX9_rowsThere 10 = .ok (.aload_n 0, 1) := by decide +kernel
theorem dX9_rowsThere_11 : decode cX9_rowsThere 11 = .ok (.getfield 11, 3) := by decide +kernel
theorem dX9_rowsThere_14 : decode cX9_rowsThere 14 = .ok (.iload_n 2, 1) := by decide +kernel
theorem dX9_rowsThere_15 : decode cX9_rowsThere 15 = .ok (.aaload, 1) := by decide +kernel
theorem dX9_rowsThere_16 : decode cX9_rowsThere 16 = .ok (.getfield 107, 3) := by decide +kernel
theorem dX9_rowsThere_19 : decode cX9_rowsThere 19 = .ok (.ifCond .eq 6, 3) := by decide +kernel
theorem dX9_rowsThere_22 : decode cX9_rowsThere 22 = .ok (.iinc 1 1, 3) := by decide +kernel
theorem dX9_rowsThere_25 : decode cX9_rowsThere 25 = .ok (.iinc 2 1, 3) := by decide +kernel
theorem dX9_rowsThere_28 : decode cX9_rowsThere 28 = .ok (.goto (-24), 3) := by decide +kernel
theorem dX9_rowsThere_31 : decode cX9_rowsThere 31 = .ok (.iload_n 1, 1) := by decide +kernel
theorem dX9_rowsThere_32 : decode cX9_rowsThere 32 = .ok (.ireturn, 1) := by decide +kernel
theorem dX9_isKind_0 : decode cX9_isKind 0 = .ok (.iload_n 0, 1) := by decide +kernel
theorem dX9_isKind_1 : decode cX9_isKind 1 = .ok (.istore_n 2, 1) := by decide +kernel
theorem dX9_isKind_2 : decode cX9_isKind 2 = .ok (.iconst 0, 1) := by decide +kernel
theorem dX9_isKind_3 : decode cX9_isKind 3 = .ok (.istore_n 3, 1) := by decide +kernel
theorem dX9_isKind_4 : decode cX9_isKind 4 = .ok (.iload_n 3, 1) := by decide +kernel
theorem dX9_isKind_5 : decode cX9_isKind 5 = .ok (.getstatic 366, 3) := by decide +kernel
theorem dX9_isKind_8 : decode cX9_isKind 8 = .ok (.arraylength, 1) := by decide +kernel
theorem dX9_isKind_9 : decode cX9_isKind 9 = .ok (.if_icmp .ge 34, 3) := by decide +kernel
theorem dX9_isKind_12 : decode cX9_isKind 12 = .ok (.iload_n 2, 1) := by decide +kernel
theorem dX9_isKind_13 : decode cX9_isKind 13 = .ok (.ifCond .lt 30, 3) := by decide +kernel
theorem dX9_isKind_16 : decode cX9_isKind 16 = .ok (.iload_n 2, 1) := by decide +kernel
theorem dX9_isKind_17 : decode cX9_isKind 17 = .ok (.getstatic 366, 3) := by decide +kernel
theorem dX9_isKind_20 : decode cX9_isKind 20 = .ok (.arraylength, 1) := by decide +kernel
theorem dX9_isKind_21 : decode cX9_isKind 21 = .ok (.if_icmp .ge 22, 3) := by decide +kernel
theorem dX9_isKind_24 : decode cX9_isKind 24 = .ok (.iload_n 2, 1) := by decide +kernel
theorem dX9_isKind_25 : decode cX9_isKind 25 = .ok (.iload_n 1, 1) := by decide +kernel
theorem dX9_isKind_26 : decode cX9_isKind 26 = .ok (.if_icmp .ne 5, 3) := by decide +kernel
theorem dX9_isKind_29 : decode cX9_isKind 29 = .ok (.iconst 1, 1) := by decide +kernel
theorem dX9_isKind_30 : decode cX9_isKind 30 = .ok (.ireturn, 1) := by decide +kernel
theorem dX9_isKind_31 : decode cX9_isKind 31 = .ok (.getstatic 366, 3) := by decide +kernel
theorem dX9_isKind_34 : decode cX9_isKind 34 = .ok (.iload_n 2, 1) := by decide +kernel
theorem dX9_isKind_35 : decode cX9_isKind 35 = .ok (.iaload, 1) := by decide +kernel
theorem dX9_isKind_36 : decode cX9_isKind 36 = .ok (.istore_n 2, 1) := by decide +kernel
theorem dX9_isKind_37 : decode cX9_isKind 37 = .ok (.iinc 3 1, 3) := by decide +kernel
theorem dX9_isKind_40 : decode cX9_isKind 40 = .ok (.goto (-36), 3) := by decide +kernel
theorem dX9_isKind_43 : decode cX9_isKind 43 = .ok (.iconst 0, 1) := by decide +kernel
theorem dX9_isKind_44 : decode cX9_isKind 44 = .ok (.ireturn, 1) := by decide +kernel
theorem dX9_largestSet_0 : decode cX9_largestSet 0 = .ok (.iconst 0, 1) := by decide +kernel
theorem dX9_largestSet_1 : decode cX9_largestSet 1 = .ok (.istore_n 1, 1) := by decide +kernel
theorem dX9_largestSet_2 : decode cX9_largestSet 2 = .ok (.iconst 0, 1) := by decide +kernel
theorem dX9_largestSet_3 : decode cX9_largestSet 3 = .ok (.istore_n 2, 1) := by decide +kernel
theorem dX9_largestSet_4 : decode cX9_largestSet 4 = .ok (.iconst 1, 1) := by decide +kernel
theorem dX9_largestSet_5 : decode cX9_largestSet 5 = .ok (.istore_n 3, 1) := by decide +kernel
theorem dX9_largestSet_6 : decode cX9_largestSet 6 = .ok (.iload_n 3, 1) := by decide +kernel
theorem dX9_largestSet_7 : decode cX9_largestSet 7 = .ok (.iconst 1, 1) := by decide +kernel
theorem dX9_largestSet_8 : decode cX9_largestSet 8 = .ok (.aload_n 0, 1) := by decide +kernel
theorem dX9_largestSet_9 : decode cX9_largestSet 9 = .ok (.getfield 24, 3) := by decide +kernel
theorem dX9_largestSet_12 : decode cX9_largestSet 12 = .ok (.getfield 158, 3) := by decide +kernel
theorem dX9_largestSet_15 : decode cX9_largestSet 15 = .ok (.ishl, 1) := by decide +kernel
theorem dX9_largestSet_16 : decode cX9_largestSet 16 = .ok (.if_icmp .ge 64, 3) := by decide +kernel
theorem dX9_largestSet_19 : decode cX9_largestSet 19 = .ok (.iload_n 3, 1) := by decide +kernel
theorem dX9_largestSet_20 : decode cX9_largestSet 20 = .ok (.invokestatic 283, 3) := by decide +kernel
theorem dX9_largestSet_23 : decode cX9_largestSet 23 = .ok (.iload_n 1, 1) := by decide +kernel
theorem dX9_largestSet_24 : decode cX9_largestSet 24 = .ok (.invokestatic 283, 3) := by decide +kernel
theorem dX9_largestSet_27 : decode cX9_largestSet 27 = .ok (.if_icmp .ge 8, 3) := by decide +kernel
theorem dX9_largestSet_30 : decode cX9_largestSet 30 = .ok (.ldc 221, 2) := by decide +kernel
theorem dX9_largestSet_32 : decode cX9_largestSet 32 = .ok (.goto 8, 3) := by decide +kernel
theorem dX9_largestSet_35 : decode cX9_largestSet 35 = .ok (.aload_n 0, 1) := by decide +kernel
theorem dX9_largestSet_36 : decode cX9_largestSet 36 = .ok (.iload_n 3, 1) := by decide +kernel
theorem dX9_largestSet_37 : decode cX9_largestSet 37 = .ok (.invokevirtual 277, 3) := by decide +kernel
theorem dX9_largestSet_40 : decode cX9_largestSet 40 = .ok (.istore 4, 2) := by decide +kernel
theorem dX9_largestSet_42 : decode cX9_largestSet 42 = .ok (.iload 4, 2) := by decide +kernel
theorem dX9_largestSet_44 : decode cX9_largestSet 44 = .ok (.ldc 221, 2) := by decide +kernel
theorem dX9_largestSet_46 : decode cX9_largestSet 46 = .ok (.if_icmp .ne 6, 3) := by decide +kernel
theorem dX9_largestSet_49 : decode cX9_largestSet 49 = .ok (.goto 25, 3) := by decide +kernel
theorem dX9_largestSet_52 : decode cX9_largestSet 52 = .ok (.iload_n 3, 1) := by decide +kernel
theorem dX9_largestSet_53 : decode cX9_largestSet 53 = .ok (.invokestatic 283, 3) := by decide +kernel
theorem dX9_largestSet_56 : decode cX9_largestSet 56 = .ok (.iload_n 1, 1) := by decide +kernel
theorem dX9_largestSet_57 : decode cX9_largestSet 57 = .ok (.invokestatic 283, 3) := by decide +kernel
theorem dX9_largestSet_60 : decode cX9_largestSet 60 = .ok (.if_icmp .gt 9, 3) := by decide +kernel
theorem dX9_largestSet_63 : decode cX9_largestSet 63 = .ok (.iload 4, 2) := by decide +kernel
theorem dX9_largestSet_65 : decode cX9_largestSet 65 = .ok (.iload_n 2, 1) := by decide +kernel
theorem dX9_largestSet_66 : decode cX9_largestSet 66 = .ok (.if_icmp .ge 8, 3) := by decide +kernel
theorem dX9_largestSet_69 : decode cX9_largestSet 69 = .ok (.iload_n 3, 1) := by decide +kernel
theorem dX9_largestSet_70 : decode cX9_largestSet 70 = .ok (.istore_n 1, 1) := by decide +kernel
theorem dX9_largestSet_71 : decode cX9_largestSet 71 = .ok (.iload 4, 2) := by decide +kernel
theorem dX9_largestSet_73 : decode cX9_largestSet 73 = .ok (.istore_n 2, 1) := by decide +kernel
theorem dX9_largestSet_74 : decode cX9_largestSet 74 = .ok (.iinc 3 1, 3) := by decide +kernel
theorem dX9_largestSet_77 : decode cX9_largestSet 77 = .ok (.goto (-71), 3) := by decide +kernel
theorem dX9_largestSet_80 : decode cX9_largestSet 80 = .ok (.iload_n 1, 1) := by decide +kernel
theorem dX9_largestSet_81 : decode cX9_largestSet 81 = .ok (.ireturn, 1) := by decide +kernel
theorem dX9_tryAllOf_0 : decode cX9_tryAllOf 0 = .ok (.aload_n 0, 1) := by decide +kernel
theorem dX9_tryAllOf_1 : decode cX9_tryAllOf 1 = .ok (.getfield 37, 3) := by decide +kernel
theorem dX9_tryAllOf_4 : decode cX9_tryAllOf 4 = .ok (.aload_n 0, 1) := by decide +kernel
theorem dX9_tryAllOf_5 : decode cX9_tryAllOf 5 = .ok (.getfield 33, 3) := by decide +kernel
theorem dX9_tryAllOf_8 : decode cX9_tryAllOf 8 = .ok (.invokevirtual 152, 3) := by decide +kernel
theorem dX9_tryAllOf_11 : decode cX9_tryAllOf 11 = .ok (.iconst 0, 1) := by decide +kernel
theorem dX9_tryAllOf_12 : decode cX9_tryAllOf 12 = .ok (.istore_n 2, 1) := by decide +kernel
theorem dX9_tryAllOf_13 : decode cX9_tryAllOf 13 = .ok (.iconst 0, 1) := by decide +kernel
theorem dX9_tryAllOf_14 : decode cX9_tryAllOf 14 = .ok (.istore_n 3, 1) := by decide +kernel
theorem dX9_tryAllOf_15 : decode cX9_tryAllOf 15 = .ok (.iload_n 3, 1) := by decide +kernel
theorem dX9_tryAllOf_16 : decode cX9_tryAllOf 16 = .ok (.aload_n 0, 1) := by decide +kernel
theorem dX9_tryAllOf_17 : decode cX9_tryAllOf 17 = .ok (.getfield 24, 3) := by decide +kernel
theorem dX9_tryAllOf_20 : decode cX9_tryAllOf 20 = .ok (.getfield 158, 3) := by decide +kernel
theorem dX9_tryAllOf_23 : decode cX9_tryAllOf 23 = .ok (.if_icmp .ge 45, 3) := by decide +kernel
theorem dX9_tryAllOf_26 : decode cX9_tryAllOf 26 = .ok (.iload_n 1, 1) := by decide +kernel
theorem dX9_tryAllOf_27 : decode cX9_tryAllOf 27 = .ok (.iload_n 3, 1) := by decide +kernel
theorem dX9_tryAllOf_28 : decode cX9_tryAllOf 28 = .ok (.ishr, 1) := by decide +kernel
theorem dX9_tryAllOf_29 : decode cX9_tryAllOf 29 = .ok (.iconst 1, 1) := by decide +kernel
theorem dX9_tryAllOf_30 : decode cX9_tryAllOf 30 = .ok (.iand, 1) := by decide +kernel
theorem dX9_tryAllOf_31 : decode cX9_tryAllOf 31 = .ok (.ifCond .ne 6, 3) := by decide +kernel
theorem dX9_tryAllOf_34 : decode cX9_tryAllOf 34 = .ok (.goto 28, 3) := by decide +kernel
theorem dX9_tryAllOf_37 : decode cX9_tryAllOf 37 = .ok (.aload_n 0, 1) := by decide +kernel
theorem dX9_tryAllOf_38 : decode cX9_tryAllOf 38 = .ok (.getfield 37, 3) := by decide +kernel
theorem dX9_tryAllOf_41 : decode cX9_tryAllOf 41 = .ok (.iload_n 3, 1) := by decide +kernel
theorem dX9_tryAllOf_42 : decode cX9_tryAllOf 42 = .ok (.invokevirtual 191, 3) := by decide +kernel
theorem dX9_tryAllOf_45 : decode cX9_tryAllOf 45 = .ok (.ifCond .ne 6, 3) := by decide +kernel
theorem dX9_tryAllOf_48 : decode cX9_tryAllOf 48 = .ok (.ldc 221, 2) := by decide +kernel
theorem dX9_tryAllOf_50 : decode cX9_tryAllOf 50 = .ok (.ireturn, 1) := by decide +kernel
theorem dX9_tryAllOf_51 : decode cX9_tryAllOf 51 = .ok (.iload_n 2, 1) := by decide +kernel
theorem dX9_tryAllOf_52 : decode cX9_tryAllOf 52 = .ok (.aload_n 0, 1) := by decide +kernel
theorem dX9_tryAllOf_53 : decode cX9_tryAllOf 53 = .ok (.getfield 37, 3) := by decide +kernel
theorem dX9_tryAllOf_56 : decode cX9_tryAllOf 56 = .ok (.iload_n 3, 1) := by decide +kernel
theorem dX9_tryAllOf_57 : decode cX9_tryAllOf 57 = .ok (.invokevirtual 194, 3) := by decide +kernel
theorem dX9_tryAllOf_60 : decode cX9_tryAllOf 60 = .ok (.iadd, 1) := by decide +kernel
theorem dX9_tryAllOf_61 : decode cX9_tryAllOf 61 = .ok (.istore_n 2, 1) := by decide +kernel
theorem dX9_tryAllOf_62 : decode cX9_tryAllOf 62 = .ok (.iinc 3 1, 3) := by decide +kernel
theorem dX9_tryAllOf_65 : decode cX9_tryAllOf 65 = .ok (.goto (-50), 3) := by decide +kernel
theorem dX9_tryAllOf_68 : decode cX9_tryAllOf 68 = .ok (.iload_n 2, 1) := by decide +kernel
theorem dX9_tryAllOf_69 : decode cX9_tryAllOf 69 = .ok (.ireturn, 1) := by decide +kernel
theorem dX9_fewestDeaf_0 : decode cX9_fewestDeaf 0 = .ok (.iconst 1, 1) := by decide +kernel
theorem dX9_fewestDeaf_1 : decode cX9_fewestDeaf 1 = .ok (.iload_n 2, 1) := by decide +kernel
theorem dX9_fewestDeaf_2 : decode cX9_fewestDeaf 2 = .ok (.ishl, 1) := by decide +kernel
theorem dX9_fewestDeaf_3 : decode cX9_fewestDeaf 3 = .ok (.iconst 1, 1) := by decide +kernel
theorem dX9_fewestDeaf_4 : decode cX9_fewestDeaf 4 = .ok (.aload_n 0, 1) := by decide +kernel
theorem dX9_fewestDeaf_5 : decode cX9_fewestDeaf 5 = .ok (.getfield 24, 3) := by decide +kernel
theorem dX9_fewestDeaf_8 : decode cX9_fewestDeaf 8 = .ok (.getfield 212, 3) := by decide +kernel
theorem dX9_fewestDeaf_11 : decode cX9_fewestDeaf 11 = .ok (.iload_n 1, 1) := by decide +kernel
theorem dX9_fewestDeaf_12 : decode cX9_fewestDeaf 12 = .ok (.iaload, 1) := by decide +kernel
theorem dX9_fewestDeaf_13 : decode cX9_fewestDeaf 13 = .ok (.ishl, 1) := by decide +kernel
theorem dX9_fewestDeaf_14 : decode cX9_fewestDeaf 14 = .ok (.ior, 1) := by decide +kernel
theorem dX9_fewestDeaf_15 : decode cX9_fewestDeaf 15 = .ok (.istore 4, 2) := by decide +kernel
theorem dX9_fewestDeaf_17 : decode cX9_fewestDeaf 17 = .ok (.ldc 221, 2) := by decide +kernel
theorem dX9_fewestDeaf_19 : decode cX9_fewestDeaf 19 = .ok (.istore 5, 2) := by decide +kernel
theorem dX9_fewestDeaf_21 : decode cX9_fewestDeaf 21 = .ok (.iconst 0, 1) := by decide +kernel
theorem dX9_fewestDeaf_22 : decode cX9_fewestDeaf 22 = .ok (.istore 6, 2) := by decide +kernel
theorem dX9_fewestDeaf_24 : decode cX9_fewestDeaf 24 = .ok (.iload 6, 2) := by decide +kernel
theorem dX9_fewestDeaf_26 : decode cX9_fewestDeaf 26 = .ok (.aload_n 0, 1) := by decide +kernel
theorem dX9_fewestDeaf_27 : decode cX9_fewestDeaf 27 = .ok (.getfield 24, 3) := by decide +kernel
theorem dX9_fewestDeaf_30 : decode cX9_fewestDeaf 30 = .ok (.invokevirtual 267, 3) := by decide +kernel
theorem dX9_fewestDeaf_33 : decode cX9_fewestDeaf 33 = .ok (.if_icmp .gt 71, 3) := by decide +kernel
theorem dX9_fewestDeaf_36 : decode cX9_fewestDeaf 36 = .ok (.iload 5, 2) := by decide +kernel
theorem dX9_fewestDeaf_38 : decode cX9_fewestDeaf 38 = .ok (.ldc 221, 2) := by decide +kernel
theorem dX9_fewestDeaf_40 : decode cX9_fewestDeaf 40 = .ok (.if_icmp .eq 16, 3) := by decide +kernel
theorem dX9_fewestDeaf_43 : decode cX9_fewestDeaf 43 = .ok (.iload 6, 2) := by decide +kernel
theorem dX9_fewestDeaf_45 : decode cX9_fewestDeaf 45 = .ok (.invokestatic 283, 3) := by decide +kernel
theorem dX9_fewestDeaf_48 : decode cX9_fewestDeaf 48 = .ok (.iload 5, 2) := by decide +kernel
theorem dX9_fewestDeaf_50 : decode cX9_fewestDeaf 50 = .ok (.invokestatic 283, 3) := by decide +kernel
theorem dX9_fewestDeaf_53 : decode cX9_fewestDeaf 53 = .ok (.if_icmp .ge 7, 3) := by decide +kernel
theorem dX9_fewestDeaf_56 : decode cX9_fewestDeaf 56 = .ok (.iconst 1, 1) := by decide +kernel
theorem dX9_fewestDeaf_57 : decode cX9_fewestDeaf 57 = .ok (.goto 4, 3) := by decide +kernel
theorem dX9_fewestDeaf_60 : decode cX9_fewestDeaf 60 = .ok (.iconst 0, 1) := by decide +kernel
theorem dX9_fewestDeaf_61 : decode cX9_fewestDeaf 61 = .ok (.istore 7, 2) := by decide +kernel
theorem dX9_fewestDeaf_63 : decode cX9_fewestDeaf 63 = .ok (.iload 6, 2) := by decide +kernel
theorem dX9_fewestDeaf_65 : decode cX9_fewestDeaf 65 = .ok (.iload 4, 2) := by decide +kernel
theorem dX9_fewestDeaf_67 : decode cX9_fewestDeaf 67 = .ok (.iand, 1) := by decide +kernel
theorem dX9_fewestDeaf_68 : decode cX9_fewestDeaf 68 = .ok (.ifCond .ne 30, 3) := by decide +kernel
theorem dX9_fewestDeaf_71 : decode cX9_fewestDeaf 71 = .ok (.iload 7, 2) := by decide +kernel
theorem dX9_fewestDeaf_73 : decode cX9_fewestDeaf 73 = .ok (.ifCond .eq 25, 3) := by decide +kernel
theorem dX9_fewestDeaf_76 : decode cX9_fewestDeaf 76 = .ok (.aload_n 0, 1) := by decide +kernel
theorem dX9_fewestDeaf_77 : decode cX9_fewestDeaf 77 = .ok (.getfield 33, 3) := by decide +kernel
theorem dX9_fewestDeaf_80 : decode cX9_fewestDeaf 80 = .ok (.iload_n 1, 1) := by decide +kernel
theorem dX9_fewestDeaf_81 : decode cX9_fewestDeaf 81 = .ok (.iload 6, 2) := by decide +kernel
theorem dX9_fewestDeaf_83 : decode cX9_fewestDeaf 83 = .ok (.iload_n 3, 1) := by decide +kernel
theorem dX9_fewestDeaf_84 : decode cX9_fewestDeaf 84 = .ok (.invokevirtual 369, 3) := by decide +kernel
theorem dX9_fewestDeaf_87 : decode cX9_fewestDeaf 87 = .ok (.iload_n 2, 1) := by decide +kernel
theorem dX9_fewestDeaf_88 : decode cX9_fewestDeaf 88 = .ok (.ishr, 1) := by decide +kernel
theorem dX9_fewestDeaf_89 : decode cX9_fewestDeaf 89 = .ok (.iconst 1, 1) := by decide +kernel
theorem dX9_fewestDeaf_90 : decode cX9_fewestDeaf 90 = .ok (.iand, 1) := by decide +kernel
theorem dX9_fewestDeaf_91 : decode cX9_fewestDeaf 91 = .ok (.ifCond .ne 7, 3) := by decide +kernel
theorem dX9_fewestDeaf_94 : decode cX9_fewestDeaf 94 = .ok (.iload 6, 2) := by decide +kernel
theorem dX9_fewestDeaf_96 : decode cX9_fewestDeaf 96 = .ok (.istore 5, 2) := by decide +kernel
theorem dX9_fewestDeaf_98 : decode cX9_fewestDeaf 98 = .ok (.iinc 6 1, 3) := by decide +kernel
theorem dX9_fewestDeaf_101 : decode cX9_fewestDeaf 101 = .ok (.goto (-77), 3) := by decide +kernel
theorem dX9_fewestDeaf_104 : decode cX9_fewestDeaf 104 = .ok (.iload 5, 2) := by decide +kernel
theorem dX9_fewestDeaf_106 : decode cX9_fewestDeaf 106 = .ok (.ireturn, 1) := by decide +kernel
theorem dX9_fitsCounts_0 : decode cX9_fitsCounts 0 = .ok (.aload_n 0, 1) := by decide +kernel
theorem dX9_fitsCounts_1 : decode cX9_fitsCounts 1 = .ok (.getfield 24, 3) := by decide +kernel
theorem dX9_fitsCounts_4 : decode cX9_fitsCounts 4 = .ok (.iload_n 1, 1) := by decide +kernel
theorem dX9_fitsCounts_5 : decode cX9_fitsCounts 5 = .ok (.iload_n 2, 1) := by decide +kernel
theorem dX9_fitsCounts_6 : decode cX9_fitsCounts 6 = .ok (.iconst 0, 1) := by decide +kernel
theorem dX9_fitsCounts_7 : decode cX9_fitsCounts 7 = .ok (.invokevirtual 372, 3) := by decide +kernel
theorem dX9_fitsCounts_10 : decode cX9_fitsCounts 10 = .ok (.istore 6, 2) := by decide +kernel
theorem dX9_fitsCounts_12 : decode cX9_fitsCounts 12 = .ok (.iconst 0, 1) := by decide +kernel
theorem dX9_fitsCounts_13 : decode cX9_fitsCounts 13 = .ok (.istore 7, 2) := by decide +kernel
theorem dX9_fitsCounts_15 : decode cX9_fitsCounts 15 = .ok (.iload 7, 2) := by decide +kernel
theorem dX9_fitsCounts_17 : decode cX9_fitsCounts 17 = .ok (.iload 5, 2) := by decide +kernel
theorem dX9_fitsCounts_19 : decode cX9_fitsCounts 19 = .ok (.if_icmp .ge 43, 3) := by decide +kernel
theorem dX9_fitsCounts_22 : decode cX9_fitsCounts 22 = .ok (.aload_n 0, 1) := by decide +kernel
theorem dX9_fitsCounts_23 : decode cX9_fitsCounts 23 = .ok (.getfield 24, 3) := by decide +kernel
theorem dX9_fitsCounts_26 : decode cX9_fitsCounts 26 = .ok (.iload_n 1, 1) := by decide +kernel
theorem dX9_fitsCounts_27 : decode cX9_fitsCounts 27 = .ok (.iload 6, 2) := by decide +kernel
theorem dX9_fitsCounts_29 : decode cX9_fitsCounts 29 = .ok (.iconst 0, 1) := by decide +kernel
theorem dX9_fitsCounts_30 : decode cX9_fitsCounts 30 = .ok (.iconst 1, 1) := by decide +kernel
theorem dX9_fitsCounts_31 : decode cX9_fitsCounts 31 = .ok (.invokevirtual 375, 3) := by decide +kernel
theorem dX9_fitsCounts_34 : decode cX9_fitsCounts 34 = .ok (.istore 6, 2) := by decide +kernel
theorem dX9_fitsCounts_36 : decode cX9_fitsCounts 36 = .ok (.iload 6, 2) := by decide +kernel
theorem dX9_fitsCounts_38 : decode cX9_fitsCounts 38 = .ok (.invokestatic 283, 3) := by decide +kernel
theorem dX9_fitsCounts_41 : decode cX9_fitsCounts 41 = .ok (.aload_n 3, 1) := by decide +kernel
theorem dX9_fitsCounts_42 : decode cX9_fitsCounts 42 = .ok (.getfield 119, 3) := by decide +kernel
theorem dX9_fitsCounts_45 : decode cX9_fitsCounts 45 = .ok (.iload 4, 2) := by decide +kernel
theorem dX9_fitsCounts_47 : decode cX9_fitsCounts 47 = .ok (.iload 7, 2) := by decide +kernel
theorem dX9_fitsCounts_49 : decode cX9_fitsCounts 49 = .ok (.iadd, 1) := by decide +kernel
theorem dX9_fitsCounts_50 : decode cX9_fitsCounts 50 = .ok (.iaload, 1) := by decide +kernel
theorem dX9_fitsCounts_51 : decode cX9_fitsCounts 51 = .ok (.if_icmp .eq 5, 3) := by decide +kernel
theorem dX9_fitsCounts_54 : decode cX9_fitsCounts 54 = .ok (.iconst 0, 1) := by decide +kernel
theorem dX9_fitsCounts_55 : decode cX9_fitsCounts 55 = .ok (.ireturn, 1) := by decide +kernel
theorem dX9_fitsCounts_56 : decode cX9_fitsCounts 56 = .ok (.iinc 7 1, 3) := by decide +kernel
theorem dX9_fitsCounts_59 : decode cX9_fitsCounts 59 = .ok (.goto (-44), 3) := by decide +kernel
theorem dX9_fitsCounts_62 : decode cX9_fitsCounts 62 = .ok (.iconst 1, 1) := by decide +kernel
theorem dX9_fitsCounts_63 : decode cX9_fitsCounts 63 = .ok (.ireturn, 1) := by decide +kernel
theorem dX9_heardCases_0 : decode cX9_heardCases 0 = .ok (.iconst 1, 1) := by decide +kernel
theorem dX9_heardCases_1 : decode cX9_heardCases 1 = .ok (.aload_n 0, 1) := by decide +kernel
theorem dX9_heardCases_2 : decode cX9_heardCases 2 = .ok (.getfield 24, 3) := by decide +kernel
theorem dX9_heardCases_5 : decode cX9_heardCases 5 = .ok (.getfield 212, 3) := by decide +kernel
theorem dX9_heardCases_8 : decode cX9_heardCases 8 = .ok (.iload_n 1, 1) := by decide +kernel
theorem dX9_heardCases_9 : decode cX9_heardCases 9 = .ok (.iaload, 1) := by decide +kernel
theorem dX9_heardCases_10 : decode cX9_heardCases 10 = .ok (.ishl, 1) := by decide +kernel
theorem dX9_heardCases_11 : decode cX9_heardCases 11 = .ok (.istore 5, 2) := by decide +kernel
theorem dX9_heardCases_13 : decode cX9_heardCases 13 = .ok (.lconst 0, 1) := by decide +kernel
theorem dX9_heardCases_14 : decode cX9_heardCases 14 = .ok (.lstore 6, 2) := by decide +kernel
theorem dX9_heardCases_16 : decode cX9_heardCases 16 = .ok (.iconst 0, 1) := by decide +kernel
theorem dX9_heardCases_17 : decode cX9_heardCases 17 = .ok (.istore 8, 2) := by decide +kernel
theorem dX9_heardCases_19 : decode cX9_heardCases 19 = .ok (.iload 8, 2) := by decide +kernel
theorem dX9_heardCases_21 : decode cX9_heardCases 21 = .ok (.aload_n 0, 1) := by decide +kernel
theorem dX9_heardCases_22 : decode cX9_heardCases 22 = .ok (.getfield 24, 3) := by decide +kernel
theorem dX9_heardCases_25 : decode cX9_heardCases 25 = .ok (.invokevirtual 267, 3) := by decide +kernel
theorem dX9_heardCases_28 : decode cX9_heardCases 28 = .ok (.if_icmp .gt 76, 3) := by decide +kernel
theorem dX9_heardCases_31 : decode cX9_heardCases 31 = .ok (.iload 8, 2) := by decide +kernel
theorem dX9_heardCases_33 : decode cX9_heardCases 33 = .ok (.iload 5, 2) := by decide +kernel
theorem dX9_heardCases_35 : decode cX9_heardCases 35 = .ok (.iand, 1) := by decide +kernel
theorem dX9_heardCases_36 : decode cX9_heardCases 36 = .ok (.ifCond .ne 62, 3) := by decide +kernel
theorem dX9_heardCases_39 : decode cX9_heardCases 39 = .ok (.aload_n 0, 1) := by decide +kernel
theorem dX9_heardCases_40 : decode cX9_heardCases 40 = .ok (.getfield 33, 3) := by decide +kernel
theorem dX9_heardCases_43 : decode cX9_heardCases 43 = .ok (.iload_n 1, 1) := by decide +kernel
theorem dX9_heardCases_44 : decode cX9_heardCases 44 = .ok (.iload 8, 2) := by decide +kernel
theorem dX9_heardCases_46 : decode cX9_heardCases 46 = .ok (.iload_n 3, 1) := by decide +kernel
theorem dX9_heardCases_47 : decode cX9_heardCases 47 = .ok (.invokevirtual 369, 3) := by decide +kernel
theorem dX9_heardCases_50 : decode cX9_heardCases 50 = .ok (.iload_n 2, 1) := by decide +kernel
theorem dX9_heardCases_51 : decode cX9_heardCases 51 = .ok (.ishr, 1) := by decide +kernel
theorem dX9_heardCases_52 : decode cX9_heardCases 52 = .ok (.iconst 1, 1) := by decide +kernel
theorem dX9_heardCases_53 : decode cX9_heardCases 53 = .ok (.iand, 1) := by decide +kernel
theorem dX9_heardCases_54 : decode cX9_heardCases 54 = .ok (.iconst 1, 1) := by decide +kernel
theorem dX9_heardCases_55 : decode cX9_heardCases 55 = .ok (.if_icmp .ne 43, 3) := by decide +kernel
theorem dX9_heardCases_58 : decode cX9_heardCases 58 = .ok (.iload 8, 2) := by decide +kernel
theorem dX9_heardCases_60 : decode cX9_heardCases 60 = .ok (.invokestatic 283, 3) := by decide +kernel
theorem dX9_heardCases_63 : decode cX9_heardCases 63 = .ok (.istore 9, 2) := by decide +kernel
theorem dX9_heardCases_65 : decode cX9_heardCases 65 = .ok (.lload 6, 2) := by decide +kernel
theorem dX9_heardCases_67 : decode cX9_heardCases 67 = .ok (.iload 4, 2) := by decide +kernel
theorem dX9_heardCases_69 : decode cX9_heardCases 69 = .ok (.iload 9, 2) := by decide +kernel
theorem dX9_heardCases_71 : decode cX9_heardCases 71 = .ok (.invokestatic 324, 3) := by decide +kernel
theorem dX9_heardCases_74 : decode cX9_heardCases 74 = .ok (.bipush 10, 2) := by decide +kernel
theorem dX9_heardCases_76 : decode cX9_heardCases 76 = .ok (.iload 4, 2) := by decide +kernel
theorem dX9_heardCases_78 : decode cX9_heardCases 78 = .ok (.isub, 1) := by decide +kernel
theorem dX9_heardCases_79 : decode cX9_heardCases 79 = .ok (.aload_n 0, 1) := by decide +kernel
theorem dX9_heardCases_80 : decode cX9_heardCases 80 = .ok (.getfield 24, 3) := by decide +kernel
theorem dX9_heardCases_83 : decode cX9_heardCases 83 = .ok (.getfield 315, 3) := by decide +kernel
theorem dX9_heardCases_86 : decode cX9_heardCases 86 = .ok (.iconst 1, 1) := by decide +kernel
theorem dX9_heardCases_87 : decode cX9_heardCases 87 = .ok (.isub, 1) := by decide +kernel
theorem dX9_heardCases_88 : decode cX9_heardCases 88 = .ok (.iload 9, 2) := by decide +kernel
theorem dX9_heardCases_90 : decode cX9_heardCases 90 = .ok (.isub, 1) := by decide +kernel
theorem dX9_heardCases_91 : decode cX9_heardCases 91 = .ok (.invokestatic 324, 3) := by decide +kernel
theorem dX9_heardCases_94 : decode cX9_heardCases 94 = .ok (.lmul, 1) := by decide +kernel
theorem dX9_heardCases_95 : decode cX9_heardCases 95 = .ok (.ladd, 1) := by decide +kernel
theorem dX9_heardCases_96 : decode cX9_heardCases 96 = .ok (.lstore 6, 2) := by decide +kernel
theorem dX9_heardCases_98 : decode cX9_heardCases 98 = .ok (.iinc 8 1, 3) := by decide +kernel
theorem dX9_heardCases_101 : decode cX9_heardCases 101 = .ok (.goto (-82), 3) := by decide +kernel
theorem dX9_heardCases_104 : decode cX9_heardCases 104 = .ok (.lload 6, 2) := by decide +kernel
theorem dX9_heardCases_106 : decode cX9_heardCases 106 = .ok (.lreturn, 1) := by decide +kernel
theorem dX9_power_0 : decode cX9_power 0 = .ok (.lconst 1, 1) := by decide +kernel
theorem dX9_power_1 : decode cX9_power 1 = .ok (.lstore_n 2, 1) := by decide +kernel
theorem dX9_power_2 : decode cX9_power 2 = .ok (.iconst 0, 1) := by decide +kernel
theorem dX9_power_3 : decode cX9_power 3 = .ok (.istore 4, 2) := by decide +kernel
theorem dX9_power_5 : decode cX9_power 5 = .ok (.iload 4, 2) := by decide +kernel
theorem dX9_power_7 : decode cX9_power 7 = .ok (.iload_n 1, 1) := by decide +kernel
theorem dX9_power_8 : decode cX9_power 8 = .ok (.if_icmp .ge 14, 3) := by decide +kernel
theorem dX9_power_11 : decode cX9_power 11 = .ok (.lload_n 2, 1) := by decide +kernel
theorem dX9_power_12 : decode cX9_power 12 = .ok (.iload_n 0, 1) := by decide +kernel
theorem dX9_power_13 : decode cX9_power 13 = .ok (.i2l, 1) := by decide +kernel
theorem dX9_power_14 : decode cX9_power 14 = .ok (.lmul, 1) := by decide +kernel
theorem dX9_power_15 : decode cX9_power 15 = .ok (.lstore_n 2, 1) := by decide +kernel
theorem dX9_power_16 : decode cX9_power 16 = .ok (.iinc 4 1, 3) := by decide +kernel
theorem dX9_power_19 : decode cX9_power 19 = .ok (.goto (-14), 3) := by decide +kernel
theorem dX9_power_22 : decode cX9_power 22 = .ok (.lload_n 2, 1) := by decide +kernel
theorem dX9_power_23 : decode cX9_power 23 = .ok (.lreturn, 1) := by decide +kernel
theorem dX9_commonDivisor_0 : decode cX9_commonDivisor 0 = .ok (.lload_n 0, 1) := by decide +kernel
theorem dX9_commonDivisor_1 : decode cX9_commonDivisor 1 = .ok (.lstore 4, 2) := by decide +kernel
theorem dX9_commonDivisor_3 : decode cX9_commonDivisor 3 = .ok (.lload_n 2, 1) := by decide +kernel
theorem dX9_commonDivisor_4 : decode cX9_commonDivisor 4 = .ok (.lstore 6, 2) := by decide +kernel
theorem dX9_commonDivisor_6 : decode cX9_commonDivisor 6 = .ok (.iconst 0, 1) := by decide +kernel
theorem dX9_commonDivisor_7 : decode cX9_commonDivisor 7 = .ok (.istore 8, 2) := by decide +kernel
theorem dX9_commonDivisor_9 : decode cX9_commonDivisor 9 = .ok (.iload 8, 2) := by decide +kernel
theorem dX9_commonDivisor_11 : decode cX9_commonDivisor 11 = .ok (.bipush 100, 2) := by decide +kernel
theorem dX9_commonDivisor_13 : decode cX9_commonDivisor 13 = .ok (.if_icmp .ge 31, 3) := by decide +kernel
theorem dX9_commonDivisor_16 : decode cX9_commonDivisor 16 = .ok (.lload 6, 2) := by decide +kernel
theorem dX9_commonDivisor_18 : decode cX9_commonDivisor 18 = .ok (.lconst 0, 1) := by decide +kernel
theorem dX9_commonDivisor_19 : decode cX9_commonDivisor 19 = .ok (.lcmp, 1) := by decide +kernel
theorem dX9_commonDivisor_20 : decode cX9_commonDivisor 20 = .ok (.ifCond .eq 24, 3) := by decide +kernel
theorem dX9_commonDivisor_23 : decode cX9_commonDivisor 23 = .ok (.lload 4, 2) := by decide +kernel
theorem dX9_commonDivisor_25 : decode cX9_commonDivisor 25 = .ok (.lload 6, 2) := by decide +kernel
theorem dX9_commonDivisor_27 : decode cX9_commonDivisor 27 = .ok (.lrem, 1) := by decide +kernel
theorem dX9_commonDivisor_28 : decode cX9_commonDivisor 28 = .ok (.lstore 9, 2) := by decide +kernel
theorem dX9_commonDivisor_30 : decode cX9_commonDivisor 30 = .ok (.lload 6, 2) := by decide +kernel
theorem dX9_commonDivisor_32 : decode cX9_commonDivisor 32 = .ok (.lstore 4, 2) := by decide +kernel
theorem dX9_commonDivisor_34 : decode cX9_commonDivisor 34 = .ok (.lload 9, 2) := by decide +kernel
theorem dX9_commonDivisor_36 : decode cX9_commonDivisor 36 = .ok (.lstore 6, 2) := by decide +kernel
theorem dX9_commonDivisor_38 : decode cX9_commonDivisor 38 = .ok (.iinc 8 1, 3) := by decide +kernel
theorem dX9_commonDivisor_41 : decode cX9_commonDivisor 41 = .ok (.goto (-32), 3) := by decide +kernel
theorem dX9_commonDivisor_44 : decode cX9_commonDivisor 44 = .ok (.lload 4, 2) := by decide +kernel
theorem dX9_commonDivisor_46 : decode cX9_commonDivisor 46 = .ok (.lreturn, 1) := by decide +kernel
theorem dX9_drawTerms_0 : decode cX9_drawTerms 0 = .ok (.aload_n 0, 1) := by decide +kernel
theorem dX9_drawTerms_1 : decode cX9_drawTerms 1 = .ok (.getfield 37, 3) := by decide +kernel
theorem dX9_drawTerms_4 : decode cX9_drawTerms 4 = .ok (.aload_n 0, 1) := by decide +kernel
theorem dX9_drawTerms_5 : decode cX9_drawTerms 5 = .ok (.getfield 33, 3) := by decide +kernel
theorem dX9_drawTerms_8 : decode cX9_drawTerms 8 = .ok (.invokevirtual 152, 3) := by decide +kernel
theorem dX9_drawTerms_11 : decode cX9_drawTerms 11 = .ok (.iload_n 2, 1) := by decide +kernel
theorem dX9_drawTerms_12 : decode cX9_drawTerms 12 = .ok (.i2l, 1) := by decide +kernel
theorem dX9_drawTerms_13 : decode cX9_drawTerms 13 = .ok (.lstore_n 3, 1) := by decide +kernel
theorem dX9_drawTerms_14 : decode cX9_drawTerms 14 = .ok (.iconst 0, 1) := by decide +kernel
theorem dX9_drawTerms_15 : decode cX9_drawTerms 15 = .ok (.istore 5, 2) := by decide +kernel
theorem dX9_drawTerms_17 : decode cX9_drawTerms 17 = .ok (.iload 5, 2) := by decide +kernel
theorem dX9_drawTerms_19 : decode cX9_drawTerms 19 = .ok (.iload_n 1, 1) := by decide +kernel
theorem dX9_drawTerms_20 : decode cX9_drawTerms 20 = .ok (.if_icmp .ge 72, 3) := by decide +kernel
theorem dX9_drawTerms_23 : decode cX9_drawTerms 23 = .ok (.aload_n 0, 1) := by decide +kernel
theorem dX9_drawTerms_24 : decode cX9_drawTerms 24 = .ok (.getfield 24, 3) := by decide +kernel
theorem dX9_drawTerms_27 : decode cX9_drawTerms 27 = .ok (.getfield 158, 3) := by decide +kernel
theorem dX9_drawTerms_30 : decode cX9_drawTerms 30 = .ok (.ifCond .le 62, 3) := by decide +kernel
theorem dX9_drawTerms_33 : decode cX9_drawTerms 33 = .ok (.lload_n 3, 1) := by decide +kernel
theorem dX9_drawTerms_34 : decode cX9_drawTerms 34 = .ok (.ldc2_w 379, 3) := by decide +kernel
theorem dX9_drawTerms_37 : decode cX9_drawTerms 37 = .ok (.lmul, 1) := by decide +kernel
theorem dX9_drawTerms_38 : decode cX9_drawTerms 38 = .ok (.ldc2_w 381, 3) := by decide +kernel
theorem dX9_drawTerms_41 : decode cX9_drawTerms 41 = .ok (.lrem, 1) := by decide +kernel
theorem dX9_drawTerms_42 : decode cX9_drawTerms 42 = .ok (.lstore_n 3, 1) := by decide +kernel
theorem dX9_drawTerms_43 : decode cX9_drawTerms 43 = .ok (.lload_n 3, 1) := by decide +kernel
theorem dX9_drawTerms_44 : decode cX9_drawTerms 44 = .ok (.aload_n 0, 1) := by decide +kernel
theorem dX9_drawTerms_45 : decode cX9_drawTerms 45 = .ok (.getfield 24, 3) := by decide +kernel
theorem dX9_drawTerms_48 : decode cX9_drawTerms 48 = .ok (.getfield 158, 3) := by decide +kernel
theorem dX9_drawTerms_51 : decode cX9_drawTerms 51 = .ok (.i2l, 1) := by decide +kernel
theorem dX9_drawTerms_52 : decode cX9_drawTerms 52 = .ok (.lrem, 1) := by decide +kernel
theorem dX9_drawTerms_53 : decode cX9_drawTerms 53 = .ok (.l2i, 1) := by decide +kernel
theorem dX9_drawTerms_54 : decode cX9_drawTerms 54 = .ok (.istore 6, 2) := by decide +kernel
theorem dX9_drawTerms_56 : decode cX9_drawTerms 56 = .ok (.aload_n 0, 1) := by decide +kernel
theorem dX9_drawTerms_57 : decode cX9_drawTerms 57 = .ok (.getfield 37, 3) := by decide +kernel
theorem dX9_drawTerms_60 : decode cX9_drawTerms 60 = .ok (.iload 6, 2) := by decide +kernel
theorem dX9_drawTerms_62 : decode cX9_drawTerms 62 = .ok (.invokevirtual 191, 3) := by decide +kernel
theorem dX9_drawTerms_65 : decode cX9_drawTerms 65 = .ok (.ifCond .eq 13, 3) := by decide +kernel
theorem dX9_drawTerms_68 : decode cX9_drawTerms 68 = .ok (.aload_n 0, 1) := by decide +kernel
theorem dX9_drawTerms_69 : decode cX9_drawTerms 69 = .ok (.getfield 37, 3) := by decide +kernel
theorem dX9_drawTerms_72 : decode cX9_drawTerms 72 = .ok (.iload 6, 2) := by decide +kernel
theorem dX9_drawTerms_74 : decode cX9_drawTerms 74 = .ok (.invokevirtual 194, 3) := by decide +kernel
theorem dX9_drawTerms_77 : decode cX9_drawTerms 77 = .ok (.pop, 1) := by decide +kernel
theorem dX9_drawTerms_78 : decode cX9_drawTerms 78 = .ok (.aload_n 0, 1) := by decide +kernel
theorem dX9_drawTerms_79 : decode cX9_drawTerms 79 = .ok (.getfield 37, 3) := by decide +kernel
theorem dX9_drawTerms_82 : decode cX9_drawTerms 82 = .ok (.iconst 1, 1) := by decide +kernel
theorem dX9_drawTerms_83 : decode cX9_drawTerms 83 = .ok (.invokevirtual 181, 3) := by decide +kernel
theorem dX9_drawTerms_86 : decode cX9_drawTerms 86 = .ok (.iinc 5 1, 3) := by decide +kernel
theorem dX9_drawTerms_89 : decode cX9_drawTerms 89 = .ok (.goto (-72), 3) := by decide +kernel
theorem dX9_drawTerms_92 : decode cX9_drawTerms 92 = .ok (.return_, 1) := by decide +kernel
theorem dX10_init_0 : decode cX10_init 0 = .ok (.aload_n 0, 1) := by decide +kernel
theorem dX10_init_1 : decode cX10_init 1 = .ok (.invokespecial 1, 3) := by decide +kernel
theorem dX10_init_4 : decode cX10_init 4 = .ok (.aload_n 0, 1) := by decide +kernel
theorem dX10_init_5 : decode cX10_init 5 = .ok (.bipush 8, 2) := by decide +kernel
theorem dX10_init_7 : decode cX10_init 7 = .ok (.newarray .int, 2) := by decide +kernel
theorem dX10_init_9 : decode cX10_init 9 = .ok (.putfield 7, 3) := by decide +kernel
theorem dX10_init_12 : decode cX10_init 12 = .ok (.aload_n 0, 1) := by decide +kernel
theorem dX10_init_13 : decode cX10_init 13 = .ok (.bipush 8, 2) := by decide +kernel
theorem dX10_init_15 : decode cX10_init 15 = .ok (.newarray .int, 2) := by decide +kernel
theorem dX10_init_17 : decode cX10_init 17 = .ok (.putfield 13, 3) := by decide +kernel
theorem dX10_init_20 : decode cX10_init 20 = .ok (.aload_n 0, 1) := by decide +kernel
theorem dX10_init_21 : decode cX10_init 21 = .ok (.sipush 320, 3) := by decide +kernel
theorem dX10_init_24 : decode cX10_init 24 = .ok (.newarray .int, 2) := by decide +kernel
theorem dX10_init_26 : decode cX10_init 26 = .ok (.putfield 16, 3) := by decide +kernel
theorem dX10_init_29 : decode cX10_init 29 = .ok (.aload_n 0, 1) := by decide +kernel
theorem dX10_init_30 : decode cX10_init 30 = .ok (.bipush 120, 2) := by decide +kernel
theorem dX10_init_32 : decode cX10_init 32 = .ok (.newarray .int, 2) := by decide +kernel
theorem dX10_init_34 : decode cX10_init 34 = .ok (.putfield 19, 3) := by decide +kernel
theorem dX10_init_37 : decode cX10_init 37 = .ok (.aload_n 0, 1) := by decide +kernel
theorem dX10_init_38 : decode cX10_init 38 = .ok (.bipush 32, 2) := by decide +kernel
theorem dX10_init_40 : decode cX10_init 40 = .ok (.newarray .int, 2) := by decide +kernel
theorem dX10_init_42 : decode cX10_init 42 = .ok (.putfield 22, 3) := by decide +kernel
theorem dX10_init_45 : decode cX10_init 45 = .ok (.aload_n 0, 1) := by decide +kernel
theorem dX10_init_46 : decode cX10_init 46 = .ok (.iconst 5, 1) := by decide +kernel
theorem dX10_init_47 : decode cX10_init 47 = .ok (.newarray .int, 2) := by decide +kernel
theorem dX10_init_49 : decode cX10_init 49 = .ok (.putfield 25, 3) := by decide +kernel
theorem dX10_init_52 : decode cX10_init 52 = .ok (.aload_n 0, 1) := by decide +kernel
theorem dX10_init_53 : decode cX10_init 53 = .ok (.iconst 1, 1) := by decide +kernel
theorem dX10_init_54 : decode cX10_init 54 = .ok (.newarray .int, 2) := by decide +kernel
theorem dX10_init_56 : decode cX10_init 56 = .ok (.putfield 28, 3) := by decide +kernel
theorem dX10_init_59 : decode cX10_init 59 = .ok (.aload_n 0, 1) := by decide +kernel
theorem dX10_init_60 : decode cX10_init 60 = .ok (.bipush 32, 2) := by decide +kernel
theorem dX10_init_62 : decode cX10_init 62 = .ok (.newarray .int, 2) := by decide +kernel
theorem dX10_init_64 : decode cX10_init 64 = .ok (.putfield 31, 3) := by decide +kernel
theorem dX10_init_67 : decode cX10_init 67 = .ok (.aload_n 0, 1) := by decide +kernel
theorem dX10_init_68 : decode cX10_init 68 = .ok (.bipush 21, 2) := by decide +kernel
theorem dX10_init_70 : decode cX10_init 70 = .ok (.newarray .int, 2) := by decide +kernel
theorem dX10_init_72 : decode cX10_init 72 = .ok (.putfield 34, 3) := by decide +kernel
theorem dX10_init_75 : decode cX10_init 75 = .ok (.aload_n 0, 1) := by decide +kernel
theorem dX10_init_76 : decode cX10_init 76 = .ok (.bipush 21, 2) := by decide +kernel
theorem dX10_init_78 : decode cX10_init 78 = .ok (.newarray .int, 2) := by decide +kernel
theorem dX10_init_80 : decode cX10_init 80 = .ok (.putfield 37, 3) := by decide +kernel
theorem dX10_init_83 : decode cX10_init 83 = .ok (.aload_n 0, 1) := by decide +kernel
theorem dX10_init_84 : decode cX10_init 84 = .ok (.sipush 504, 3) := by decide +kernel
theorem dX10_init_87 : decode cX10_init 87 = .ok (.newarray .int, 2) := by decide +kernel
theorem dX10_init_89 : decode cX10_init 89 = .ok (.putfield 40, 3) := by decide +kernel
theorem dX10_init_92 : decode cX10_init 92 = .ok (.aload_n 0, 1) := by decide +kernel
theorem dX10_init_93 : decode cX10_init 93 = .ok (.bipush 6, 2) := by decide +kernel
theorem dX10_init_95 : decode cX10_init 95 = .ok (.newarray .int, 2) := by decide +kernel
theorem dX10_init_97 : decode cX10_init 97 = .ok (.putfield 43, 3) := by decide +kernel
theorem dX10_init_100 : decode cX10_init 100 = .ok (.aload_n 0, 1) := by decide +kernel
theorem dX10_init_101 : decode cX10_init 101 = .ok (.bipush 61, 2) := by decide +kernel
theorem dX10_init_103 : decode cX10_init 103 = .ok (.newarray .int, 2) := by decide +kernel
theorem dX10_init_105 : decode cX10_init 105 = .ok (.putfield 46, 3) := by decide +kernel
theorem dX10_init_108 : decode cX10_init 108 = .ok (.aload_n 0, 1) := by decide +kernel
theorem dX10_init_109 : decode cX10_init 109 = .ok (.bipush 61, 2) := by decide +kernel
theorem dX10_init_111 : decode cX10_init 111 = .ok (.newarray .int, 2) := by decide +kernel
theorem dX10_init_113 : decode cX10_init 113 = .ok (.putfield 49, 3) := by decide +kernel
theorem dX10_init_116 : decode cX10_init 116 = .ok (.aload_n 0, 1) := by decide +kernel
theorem dX10_init_117 : decode cX10_init 117 = .ok (.iconst 2, 1) := by decide +kernel
theorem dX10_init_118 : decode cX10_init 118 = .ok (.newarray .boolean, 2) := by decide +kernel
theorem dX10_init_120 : decode cX10_init 120 = .ok (.putfield 52, 3) := by decide +kernel
theorem dX10_init_123 : decode cX10_init 123 = .ok (.aload_n 0, 1) := by decide +kernel
theorem dX10_init_124 : decode cX10_init 124 = .ok (.bipush 64, 2) := by decide +kernel
theorem dX10_init_126 : decode cX10_init 126 = .ok (.newarray .int, 2) := by decide +kernel
theorem dX10_init_128 : decode cX10_init 128 = .ok (.putfield 56, 3) := by decide +kernel
theorem dX10_init_131 : decode cX10_init 131 = .ok (.aload_n 0, 1) := by decide +kernel
theorem dX10_init_132 : decode cX10_init 132 = .ok (.bipush 42, 2) := by decide +kernel
theorem dX10_init_134 : decode cX10_init 134 = .ok (.newarray .int, 2) := by decide +kernel
theorem dX10_init_136 : decode cX10_init 136 = .ok (.putfield 59, 3) := by decide +kernel
theorem dX10_init_139 : decode cX10_init 139 = .ok (.aload_n 0, 1) := by decide +kernel
theorem dX10_init_140 : decode cX10_init 140 = .ok (.bipush 16, 2) := by decide +kernel
theorem dX10_init_142 : decode cX10_init 142 = .ok (.newarray .int, 2) := by decide +kernel
theorem dX10_init_144 : decode cX10_init 144 = .ok (.putfield 62, 3) := by decide +kernel
theorem dX10_init_147 : decode cX10_init 147 = .ok (.iconst 0, 1) := by decide +kernel
theorem dX10_init_148 : decode cX10_init 148 = .ok (.istore_n 1, 1) := by decide +kernel
theorem dX10_init_149 : decode cX10_init 149 = .ok (.iload_n 1, 1) := by decide +kernel
theorem dX10_init_150 : decode cX10_init 150 = .ok (.bipush 8, 2) := by decide +kernel
theorem dX10_init_152 : decode cX10_init 152 = .ok (.if_icmp .ge 16, 3) := by decide +kernel
theorem dX10_init_155 : decode cX10_init 155 = .ok (.aload_n 0, 1) := by decide +kernel
theorem dX10_init_156 : decode cX10_init 156 = .ok (.getfield 7, 3) := by decide +kernel
theorem dX10_init_159 : decode cX10_init 159 = .ok (.iload_n 1, 1) := by decide +kernel
theorem dX10_init_160 : decode cX10_init 160 = .ok (.iconst (-1), 1) := by decide +kernel
theorem dX10_init_161 : decode cX10_init 161 = .ok (.iastore, 1) := by decide +kernel
theorem dX10_init_162 : decode cX10_init 162 = .ok (.iinc 1 1, 3) := by decide +kernel
theorem dX10_init_165 : decode cX10_init 165 = .ok (.goto (-16), 3) := by decide +kernel
theorem dX10_init_168 : decode cX10_init 168 = .ok (.return_, 1) := by decide +kernel
theorem dX10_in_0 : decode cX10_in 0 = .ok (.iload_n 0, 1) := by decide +kernel
theorem dX10_in_1 : decode cX10_in 1 = .ok (.iload_n 1, 1) := by decide +kernel
theorem dX10_in_2 : decode cX10_in 2 = .ok (.if_icmp .lt 12, 3) := by decide +kernel
theorem dX10_in_5 : decode cX10_in 5 = .ok (.iload_n 0, 1) := by decide +kernel
theorem dX10_in_6 : decode cX10_in 6 = .ok (.iload_n 2, 1) := by decide +kernel
theorem dX10_in_7 : decode cX10_in 7 = .ok (.if_icmp .gt 7, 3) := by decide +kernel
theorem dX10_in_10 : decode cX10_in 10 = .ok (.iconst 1, 1) := by decide +kernel
theorem dX10_in_11 : decode cX10_in 11 = .ok (.goto 4, 3) := by decide +kernel
theorem dX10_in_14 : decode cX10_in 14 = .ok (.iconst 0, 1) := by decide +kernel
theorem dX10_in_15 : decode cX10_in 15 = .ok (.ireturn, 1) := by decide +kernel
theorem dX10_has_0 : decode cX10_has 0 = .ok (.iload_n 0, 1) := by decide +kernel
theorem dX10_has_1 : decode cX10_has 1 = .ok (.iload_n 1, 1) := by decide +kernel
theorem dX10_has_2 : decode cX10_has 2 = .ok (.ishr, 1) := by decide +kernel
theorem dX10_has_3 : decode cX10_has 3 = .ok (.iconst 1, 1) := by decide +kernel
theorem dX10_has_4 : decode cX10_has 4 = .ok (.iand, 1) := by decide +kernel
theorem dX10_has_5 : decode cX10_has 5 = .ok (.iconst 1, 1) := by decide +kernel
theorem dX10_has_6 : decode cX10_has 6 = .ok (.if_icmp .ne 7, 3) := by decide +kernel
theorem dX10_has_9 : decode cX10_has 9 = .ok (.iconst 1, 1) := by decide +kernel
theorem dX10_has_10 : decode cX10_has 10 = .ok (.goto 4, 3) := by decide +kernel
theorem dX10_has_13 : decode cX10_has 13 = .ok (.iconst 0, 1) := by decide +kernel
theorem dX10_has_14 : decode cX10_has 14 = .ok (.ireturn, 1) := by decide +kernel
theorem dX10_bits_0 : decode cX10_bits 0 = .ok (.iconst 0, 1) := by decide +kernel
theorem dX10_bits_1 : decode cX10_bits 1 = .ok (.istore_n 1, 1) := by decide +kernel
theorem dX10_bits_2 : decode cX10_bits 2 = .ok (.iload_n 0, 1) := by decide +kernel
theorem dX10_bits_3 : decode cX10_bits 3 = .ok (.istore_n 2, 1) := by decide +kernel
theorem dX10_bits_4 : decode cX10_bits 4 = .ok (.iload_n 2, 1) := by decide +kernel
theorem dX10_bits_5 : decode cX10_bits 5 = .ok (.ifCond .eq 15, 3) := by decide +kernel
theorem dX10_bits_8 : decode cX10_bits 8 = .ok (.iinc 1 1, 3) := by decide +kernel
theorem dX10_bits_11 : decode cX10_bits 11 = .ok (.iload_n 2, 1) := by decide +kernel
theorem dX10_bits_12 : decode cX10_bits 12 = .ok (.iload_n 2, 1) := by decide +kernel
theorem dX10_bits_13 : decode cX10_bits 13 = .ok (.iconst 1, 1) := by decide +kernel
theorem dX10_bits_14 : decode cX10_bits 14 = .ok (.isub, 1) := by decide +kernel
theorem dX10_bits_15 : decode cX10_bits 15 = .ok (.iand, 1) := by decide +kernel
theorem dX10_bits_16 : decode cX10_bits 16 = .ok (.istore_n 2, 1) := by decide +kernel
theorem dX10_bits_17 : decode cX10_bits 17 = .ok (.goto (-13), 3) := by decide +kernel
theorem dX10_bits_20 : decode cX10_bits 20 = .ok (.iload_n 1, 1) := by decide +kernel
theorem dX10_bits_21 : decode cX10_bits 21 = .ok (.ireturn, 1) := by decide +kernel
theorem dX10_meets_0 : decode cX10_meets 0 = .ok (.aload_n 0, 1) := by decide +kernel
theorem dX10_meets_1 : decode cX10_meets 1 = .ok (.iload_n 1, 1) := by decide +kernel
theorem dX10_meets_2 : decode cX10_meets 2 = .ok (.putfield 65, 3) := by decide +kernel
theorem dX10_meets_5 : decode cX10_meets 5 = .ok (.ldc 69, 2) := by decide +kernel
theorem dX10_meets_7 : decode cX10_meets 7 = .ok (.iload_n 1, 1) := by decide +kernel
theorem dX10_meets_8 : decode cX10_meets 8 = .ok (.isub, 1) := by decide +kernel
theorem dX10_meets_9 : decode cX10_meets 9 = .ok (.ireturn, 1) := by decide +kernel
theorem dX10_well_0 : decode cX10_well 0 = .ok (.aload_n 0, 1) := by decide +kernel
theorem dX10_well_1 : decode cX10_well 1 = .ok (.iconst 0, 1) := by decide +kernel
theorem dX10_well_2 : decode cX10_well 2 = .ok (.putfield 65, 3) := by decide +kernel
theorem dX10_well_5 : decode cX10_well 5 = .ok (.iload_n 1, 1) := by decide +kernel
theorem dX10_well_6 : decode cX10_well 6 = .ok (.ireturn, 1) := by decide +kernel
theorem dX10_status_0 : decode cX10_status 0 = .ok (.aload_n 0, 1) := by decide +kernel
theorem dX10_status_1 : decode cX10_status 1 = .ok (.getfield 65, 3) := by decide +kernel
theorem dX10_status_4 : decode cX10_status 4 = .ok (.ireturn, 1) := by decide +kernel
theorem dX10_isRow_0 : decode cX10_isRow 0 = .ok (.iload_n 0, 1) := by decide +kernel
theorem dX10_isRow_1 : decode cX10_isRow 1 = .ok (.iconst 0, 1) := by decide +kernel
theorem dX10_isRow_2 : decode cX10_isRow 2 = .ok (.bipush 7, 2) := by decide +kernel
theorem dX10_isRow_4 : decode cX10_isRow 4 = .ok (.invokestatic 70, 3) := by decide +kernel
theorem dX10_isRow_7 : decode cX10_isRow 7 = .ok (.ireturn, 1) := by decide +kernel
theorem dX10_isPart_0 : decode cX10_isPart 0 = .ok (.iload_n 3, 1) := by decide +kernel
theorem dX10_isPart_1 : decode cX10_isPart 1 = .ok (.ifCond .lt 33, 3) := by decide +kernel
theorem dX10_isPart_4 : decode cX10_isPart 4 = .ok (.iload_n 2, 1) := by decide +kernel
theorem dX10_isPart_5 : decode cX10_isPart 5 = .ok (.ifCond .lt 29, 3) := by decide +kernel
theorem dX10_isPart_8 : decode cX10_isPart 8 = .ok (.iload_n 2, 1) := by decide +kernel
theorem dX10_isPart_9 : decode cX10_isPart 9 = .ok (.aload_n 0, 1) := by decide +kernel
theorem dX10_isPart_10 : decode cX10_isPart 10 = .ok (.getfield 7, 3) := by decide +kernel
theorem dX10_isPart_13 : decode cX10_isPart 13 = .ok (.iload_n 1, 1) := by decide +kernel
theorem dX10_isPart_14 : decode cX10_isPart 14 = .ok (.iaload, 1) := by decide +kernel
theorem dX10_isPart_15 : decode cX10_isPart 15 = .ok (.if_icmp .gt 19, 3) := by decide +kernel
theorem dX10_isPart_18 : decode cX10_isPart 18 = .ok (.iload_n 3, 1) := by decide +kernel
theorem dX10_isPart_19 : decode cX10_isPart 19 = .ok (.aload_n 0, 1) := by decide +kernel
theorem dX10_isPart_20 : decode cX10_isPart 20 = .ok (.getfield 7, 3) := by decide +kernel
theorem dX10_isPart_23 : decode cX10_isPart 23 = .ok (.iload_n 1, 1) := by decide +kernel
theorem dX10_isPart_24 : decode cX10_isPart 24 = .ok (.iaload, 1) := by decide +kernel
theorem dX10_isPart_25 : decode cX10_isPart 25 = .ok (.iload_n 2, 1) := by decide +kernel
theorem dX10_isPart_26 : decode cX10_isPart 26 = .ok (.isub, 1) := by decide +kernel
theorem dX10_isPart_27 : decode cX10_isPart 27 = .ok (.if_icmp .gt 7, 3) := by decide +kernel
theorem dX10_isPart_30 : decode cX10_isPart 30 = .ok (.iconst 1, 1) := by decide +kernel
theorem dX10_isPart_31 : decode cX10_isPart 31 = .ok (.goto 4, 3) := by decide +kernel
theorem dX10_isPart_34 : decode cX10_isPart 34 = .ok (.iconst 0, 1) := by decide +kernel
theorem dX10_isPart_35 : decode cX10_isPart 35 = .ok (.ireturn, 1) := by decide +kernel
theorem dX10_item_0 : decode cX10_item 0 = .ok (.aload_n 0, 1) := by decide +kernel
theorem dX10_item_1 : decode cX10_item 1 = .ok (.getfield 16, 3) := by decide +kernel
theorem dX10_item_4 : decode cX10_item 4 = .ok (.bipush 40, 2) := by decide +kernel
theorem dX10_item_6 : decode cX10_item 6 = .ok (.iload_n 1, 1) := by decide +kernel
theorem dX10_item_7 : decode cX10_item 7 = .ok (.imul, 1) := by decide +kernel
theorem dX10_item_8 : decode cX10_item 8 = .ok (.iload_n 2, 1) := by decide +kernel
theorem dX10_item_9 : decode cX10_item 9 = .ok (.iadd, 1) := by decide +kernel
theorem dX10_item_10 : decode cX10_item 10 = .ok (.iaload, 1) := by decide +kernel
theorem dX10_item_11 : decode cX10_item 11 = .ok (.ireturn, 1) := by decide +kernel
theorem dX10_row_0 : decode cX10_row 0 = .ok (.iload_n 1, 1) := by decide +kernel
theorem dX10_row_1 : decode cX10_row 1 = .ok (.invokestatic 74, 3) := by decide +kernel
theorem dX10_row_4 : decode cX10_row 4 = .ok (.ifCond .eq 18, 3) := by decide +kernel
theorem dX10_row_7 : decode cX10_row 7 = .ok (.iload_n 2, 1) := by decide +kernel
theorem dX10_row_8 : decode cX10_row 8 = .ok (.iconst 0, 1) := by decide +kernel
theorem dX10_row_9 : decode cX10_row 9 = .ok (.iconst 2, 1) := by decide +kernel
theorem dX10_row_10 : decode cX10_row 10 = .ok (.invokestatic 70, 3) := by decide +kernel
theorem dX10_row_13 : decode cX10_row 13 = .ok (.ifCond .eq 9, 3) := by decide +kernel
theorem dX10_row_16 : decode cX10_row 16 = .ok (.iload_n 3, 1) := by decide +kernel
theorem dX10_row_17 : decode cX10_row 17 = .ok (.bipush 40, 2) := by decide +kernel
theorem dX10_row_19 : decode cX10_row 19 = .ok (.if_icmp .le 6, 3) := by decide +kernel
theorem dX10_row_22 : decode cX10_row 22 = .ok (.ldc 78, 2) := by decide +kernel
theorem dX10_row_24 : decode cX10_row 24 = .ok (.ireturn, 1) := by decide +kernel
theorem dX10_row_25 : decode cX10_row 25 = .ok (.iload_n 3, 1) := by decide +kernel
theorem dX10_row_26 : decode cX10_row 26 = .ok (.ifCond .ge 9, 3) := by decide +kernel
theorem dX10_row_29 : decode cX10_row 29 = .ok (.aload_n 0, 1) := by decide +kernel
theorem dX10_row_30 : decode cX10_row 30 = .ok (.iconst 4, 1) := by decide +kernel
theorem dX10_row_31 : decode cX10_row 31 = .ok (.invokevirtual 79, 3) := by decide +kernel
theorem dX10_row_34 : decode cX10_row 34 = .ok (.ireturn, 1) := by decide +kernel
theorem dX10_row_35 : decode cX10_row 35 = .ok (.aload_n 0, 1) := by decide +kernel
theorem dX10_row_36 : decode cX10_row 36 = .ok (.getfield 7, 3) := by decide +kernel
theorem dX10_row_39 : decode cX10_row 39 = .ok (.iload_n 1, 1) := by decide +kernel
theorem dX10_row_40 : decode cX10_row 40 = .ok (.iload_n 3, 1) := by decide +kernel
theorem dX10_row_41 : decode cX10_row 41 = .ok (.iastore, 1) := by decide +kernel
theorem dX10_row_42 : decode cX10_row 42 = .ok (.aload_n 0, 1) := by decide +kernel
theorem dX10_row_43 : decode cX10_row 43 = .ok (.getfield 13, 3) := by decide +kernel
theorem dX10_row_46 : decode cX10_row 46 = .ok (.iload_n 1, 1) := by decide +kernel
theorem dX10_row_47 : decode cX10_row 47 = .ok (.iload_n 2, 1) := by decide +kernel
theorem dX10_row_48 : decode cX10_row 48 = .ok (.iastore, 1) := by decide +kernel
theorem dX10_row_49 : decode cX10_row 49 = .ok (.iconst 0, 1) := by decide +kernel
theorem dX10_row_50 : decode cX10_row 50 = .ok (.istore 4, 2) := by decide +kernel
theorem dX10_row_52 : decode cX10_row 52 = .ok (.iload 4, 2) := by decide +kernel
theorem dX10_row_54 : decode cX10_row 54 = .ok (.iload_n 3, 1) := by decide +kernel
theorem dX10_row_55 : decode cX10_row 55 = .ok (.if_icmp .ge 22, 3) := by decide +kernel
theorem dX10_row_58 : decode cX10_row 58 = .ok (.aload_n 0, 1) := by decide +kernel
theorem dX10_row_59 : decode cX10_row 59 = .ok (.getfield 16, 3) := by decide +kernel
theorem dX10_row_62 : decode cX10_row 62 = .ok (.bipush 40, 2) := by decide +kernel
theorem dX10_row_64 : decode cX10_row 64 = .ok (.iload_n 1, 1) := by decide +kernel
theorem dX10_row_65 : decode cX10_row 65 = .ok (.imul, 1) := by decide +kernel
theorem dX10_row_66 : decode cX10_row 66 = .ok (.iload 4, 2) := by decide +kernel
theorem dX10_row_68 : decode cX10_row 68 = .ok (.iadd, 1) := by decide +kernel
theorem dX10_row_69 : decode cX10_row 69 = .ok (.iconst 0, 1) := by decide +kernel
theorem dX10_row_70 : decode cX10_row 70 = .ok (.iastore, 1) := by decide +kernel
theorem dX10_row_71 : decode cX10_row 71 = .ok (.iinc 4 1, 3) := by decide +kernel
theorem dX10_row_74 : decode cX10_row 74 = .ok (.goto (-22), 3) := by decide +kernel
theorem dX10_row_77 : decode cX10_row 77 = .ok (.aload_n 0, 1) := by decide +kernel
theorem dX10_row_78 : decode cX10_row 78 = .ok (.iload_n 3, 1) := by decide +kernel
theorem dX10_row_79 : decode cX10_row 79 = .ok (.invokevirtual 83, 3) := by decide +kernel
theorem dX10_row_82 : decode cX10_row 82 = .ok (.ireturn, 1) := by decide +kernel
theorem dX10_set_0 : decode cX10_set 0 = .ok (.iload_n 1, 1) := by decide +kernel
theorem dX10_set_1 : decode cX10_set 1 = .ok (.invokestatic 74, 3) := by decide +kernel
theorem dX10_set_4 : decode cX10_set 4 = .ok (.ifCond .ne 6, 3) := by decide +kernel
theorem dX10_set_7 : decode cX10_set 7 = .ok (.ldc 78, 2) := by decide +kernel
theorem dX10_set_9 : decode cX10_set 9 = .ok (.ireturn, 1) := by decide +kernel
theorem dX10_set_10 : decode cX10_set 10 = .ok (.aload_n 0, 1) := by decide +kernel
theorem dX10_set_11 : decode cX10_set 11 = .ok (.getfield 7, 3) := by decide +kernel
theorem dX10_set_14 : decode cX10_set 14 = .ok (.iload_n 1, 1) := by decide +kernel
theorem dX10_set_15 : decode cX10_set 15 = .ok (.iaload, 1) := by decide +kernel
theorem dX10_set_16 : decode cX10_set 16 = .ok (.ifCond .ge 9, 3) := by decide +kernel
theorem dX10_set_19 : decode cX10_set 19 = .ok (.aload_n 0, 1) := by decide +kernel
theorem dX10_set_20 : decode cX10_set 20 = .ok (.iconst 1, 1) := by decide +kernel
theorem dX10_set_21 : decode cX10_set 21 = .ok (.invokevirtual 79, 3) := by decide +kernel
theorem dX10_set_24 : decode cX10_set 24 = .ok (.ireturn, 1) := by decide +kernel
theorem dX10_set_25 : decode cX10_set 25 = .ok (.iload_n 2, 1) := by decide +kernel
theorem dX10_set_26 : decode cX10_set 26 = .ok (.iconst 0, 1) := by decide +kernel
theorem dX10_set_27 : decode cX10_set 27 = .ok (.aload_n 0, 1) := by decide +kernel
theorem dX10_set_28 : decode cX10_set 28 = .ok (.getfield 7, 3) := by decide +kernel
theorem dX10_set_31 : decode cX10_set 31 = .ok (.iload_n 1, 1) := by decide +kernel
theorem dX10_set_32 : decode cX10_set 32 = .ok (.iaload, 1) := by decide +kernel
theorem dX10_set_33 : decode cX10_set 33 = .ok (.iconst 1, 1) := by decide +kernel
theorem dX10_set_34 : decode cX10_set 34 = .ok (.isub, 1) := by decide +kernel
theorem dX10_set_35 : decode cX10_set 35 = .ok (.invokestatic 70, 3) := by decide +kernel
theorem dX10_set_38 : decode cX10_set 38 = .ok (.ifCond .ne 9, 3) := by decide +kernel
theorem dX10_set_41 : decode cX10_set 41 = .ok (.aload_n 0, 1) := by decide +kernel
theorem dX10_set_42 : decode cX10_set 42 = .ok (.iconst 2, 1) := by decide +kernel
theorem dX10_set_43 : decode cX10_set 43 = .ok (.invokevirtual 79, 3) := by decide +kernel
theorem dX10_set_46 : decode cX10_set 46 = .ok (.ireturn, 1) := by decide +kernel
theorem dX10_set_47 : decode cX10_set 47 = .ok (.aload_n 0, 1) := by decide +kernel
theorem dX10_set_48 : decode cX10_set 48 = .ok (.getfield 13, 3) := by decide +kernel
theorem dX10_set_51 : decode cX10_set 51 = .ok (.iload_n 1, 1) := by decide +kernel
theorem dX10_set_52 : decode cX10_set 52 = .ok (.iaload, 1) := by decide +kernel
theorem dX10_set_53 : decode cX10_set 53 = .ok (.ifCond .ne 8, 3) := by decide +kernel
theorem dX10_set_56 : decode cX10_set 56 = .ok (.iload_n 3, 1) := by decide +kernel
theorem dX10_set_57 : decode cX10_set 57 = .ok (.i2b, 1) := by decide +kernel
theorem dX10_set_58 : decode cX10_set 58 = .ok (.goto 19, 3) := by decide +kernel
theorem dX10_set_61 : decode cX10_set 61 = .ok (.aload_n 0, 1) := by decide +kernel
theorem dX10_set_62 : decode cX10_set 62 = .ok (.getfield 13, 3) := by decide +kernel
theorem dX10_set_65 : decode cX10_set 65 = .ok (.iload_n 1, 1) := by decide +kernel
theorem dX10_set_66 : decode cX10_set 66 = .ok (.iaload, 1) := by decide +kernel
theorem dX10_set_67 : decode cX10_set 67 = .ok (.iconst 1, 1) := by decide +kernel
theorem dX10_set_68 : decode cX10_set 68 = .ok (.if_icmp .ne 8, 3) := by decide +kernel
theorem dX10_set_71 : decode cX10_set 71 = .ok (.iload_n 3, 1) := by decide +kernel
theorem dX10_set_72 : decode cX10_set 72 = .ok (.i2s, 1) := by decide +kernel
theorem dX10_set_73 : decode cX10_set 73 = .ok (.goto 4, 3) := by decide +kernel
theorem dX10_set_76 : decode cX10_set 76 = .ok (.iload_n 3, 1) := by decide +kernel
theorem dX10_set_77 : decode cX10_set 77 = .ok (.istore 4, 2) := by decide +kernel
theorem dX10_set_79 : decode cX10_set 79 = .ok (.aload_n 0, 1) := by decide +kernel
theorem dX10_set_80 : decode cX10_set 80 = .ok (.getfield 16, 3) := by decide +kernel
theorem dX10_set_83 : decode cX10_set 83 = .ok (.bipush 40, 2) := by decide +kernel
theorem dX10_set_85 : decode cX10_set 85 = .ok (.iload_n 1, 1) := by decide +kernel
theorem dX10_set_86 : decode cX10_set 86 = .ok (.imul, 1) := by decide +kernel
theorem dX10_set_87 : decode cX10_set 87 = .ok (.iload_n 2, 1) := by decide +kernel
theorem dX10_set_88 : decode cX10_set 88 = .ok (.iadd, 1) := by decide +kernel
theorem dX10_set_89 : decode cX10_set 89 = .ok (.iload 4, 2) := by decide +kernel
theorem dX10_set_91 : decode cX10_set 91 = .ok (.iastore, 1) := by decide +kernel
theorem dX10_set_92 : decode cX10_set 92 = .ok (.aload_n 0, 1) := by decide +kernel
theorem dX10_set_93 : decode cX10_set 93 = .ok (.iload 4, 2) := by decide +kernel
theorem dX10_set_95 : decode cX10_set 95 = .ok (.invokevirtual 83, 3) := by decide +kernel
theorem dX10_set_98 : decode cX10_set 98 = .ok (.ireturn, 1) := by decide +kernel
theorem dX10_copy_0 : decode cX10_copy 0 = .ok (.iload_n 1, 1) := by decide +kernel
theorem dX10_copy_1 : decode cX10_copy 1 = .ok (.invokestatic 74, 3) := by decide +kernel
theorem dX10_copy_4 : decode cX10_copy 4 = .ok (.ifCond .eq 10, 3) := by decide +kernel
theorem dX10_copy_7 : decode cX10_copy 7 = .ok (.iload_n 3, 1) := by decide +kernel
theorem dX10_copy_8 : decode cX10_copy 8 = .ok (.invokestatic 74, 3) := by decide +kernel
theorem dX10_copy_11 : decode cX10_copy 11 = .ok (.ifCond .ne 6, 3) := by decide +kernel
theorem dX10_copy_14 : decode cX10_copy 14 = .ok (.ldc 78, 2) := by decide +kernel
theorem dX10_copy_16 : decode cX10_copy 16 = .ok (.ireturn, 1) := by decide +kernel
theorem dX10_copy_17 : decode cX10_copy 17 = .ok (.aload_n 0, 1) := by decide +kernel
theorem dX10_copy_18 : decode cX10_copy 18 = .ok (.getfield 7, 3) := by decide +kernel
theorem dX10_copy_21 : decode cX10_copy 21 = .ok (.iload_n 1, 1) := by decide +kernel
theorem dX10_copy_22 : decode cX10_copy 22 = .ok (.iaload, 1) := by decide +kernel
theorem dX10_copy_23 : decode cX10_copy 23 = .ok (.ifCond .lt 12, 3) := by decide +kernel
theorem dX10_copy_26 : decode cX10_copy 26 = .ok (.aload_n 0, 1) := by decide +kernel
theorem dX10_copy_27 : decode cX10_copy 27 = .ok (.getfield 7, 3) := by decide +kernel
theorem dX10_copy_30 : decode cX10_copy 30 = .ok (.iload_n 3, 1) := by decide +kernel
theorem dX10_copy_31 : decode cX10_copy 31 = .ok (.iaload, 1) := by decide +kernel
theorem dX10_copy_32 : decode cX10_copy 32 = .ok (.ifCond .ge 9, 3) := by decide +kernel
theorem dX10_copy_35 : decode cX10_copy 35 = .ok (.aload_n 0, 1) := by decide +kernel
theorem dX10_copy_36 : decode cX10_copy 36 = .ok (.iconst 1, 1) := by decide +kernel
theorem dX10_copy_37 : decode cX10_copy 37 = .ok (.invokevirtual 79, 3) := by decide +kernel
theorem dX10_copy_40 : decode cX10_copy 40 = .ok (.ireturn, 1) := by decide +kernel
theorem dX10_copy_41 : decode cX10_copy 41 = .ok (.aload_n 0, 1) := by decide +kernel
theorem dX10_copy_42 : decode cX10_copy 42 = .ok (.getfield 13, 3) := by decide +kernel
theorem dX10_copy_45 : decode cX10_copy 45 = .ok (.iload_n 1, 1) := by decide +kernel
theorem dX10_copy_46 : decode cX10_copy 46 = .ok (.iaload, 1) := by decide +kernel
theorem dX10_copy_47 : decode cX10_copy 47 = .ok (.aload_n 0, 1) := by decide +kernel
theorem dX10_copy_48 : decode cX10_copy 48 = .ok (.getfield 13, 3) := by decide +kernel
theorem dX10_copy_51 : decode cX10_copy 51 = .ok (.iload_n 3, 1) := by decide +kernel
theorem dX10_copy_52 : decode cX10_copy 52 = .ok (.iaload, 1) := by decide +kernel
theorem dX10_copy_53 : decode cX10_copy 53 = .ok (.if_icmp .eq 9, 3) := by decide +kernel
theorem dX10_copy_56 : decode cX10_copy 56 = .ok (.aload_n 0, 1) := by decide +kernel
theorem dX10_copy_57 : decode cX10_copy 57 = .ok (.iconst 5, 1) := by decide +kernel
theorem dX10_copy_58 : decode cX10_copy 58 = .ok (.invokevirtual 79, 3) := by decide +kernel
theorem dX10_copy_61 : decode cX10_copy 61 = .ok (.ireturn, 1) := by decide +kernel
theorem dX10_copy_62 : decode cX10_copy 62 = .ok (.aload_n 0, 1) := by decide +kernel
theorem dX10_copy_63 : decode cX10_copy 63 = .ok (.iload_n 1, 1) := by decide +kernel
theorem dX10_copy_64 : decode cX10_copy 64 = .ok (.iload_n 2, 1) := by decide +kernel
theorem dX10_copy_65 : decode cX10_copy 65 = .ok (.iload 5, 2) := by decide +kernel
theorem dX10_copy_67 : decode cX10_copy 67 = .ok (.invokevirtual 86, 3) := by decide +kernel
theorem dX10_copy_70 : decode cX10_copy 70 = .ok (.ifCond .eq 15, 3) := by decide +kernel
theorem dX10_copy_73 : decode cX10_copy 73 = .ok (.aload_n 0, 1) := by decide +kernel
theorem dX10_copy_74 : decode cX10_copy 74 = .ok (.iload_n 3, 1) := by decide +kernel
theorem dX10_copy_75 : decode cX10_copy 75 = .ok (.iload 4, 2) := by decide +kernel
theorem dX10_copy_77 : decode cX10_copy 77 = .ok (.iload 5, 2) := by decide +kernel
theorem dX10_copy_79 : decode cX10_copy 79 = .ok (.invokevirtual 86, 3) := by decide +kernel
theorem dX10_copy_82 : decode cX10_copy 82 = .ok (.ifCond .ne 9, 3) := by decide +kernel
theorem dX10_copy_85 : decode cX10_copy 85 = .ok (.aload_n 0, 1) := by decide +kernel
theorem dX10_copy_86 : decode cX10_copy 86 = .ok (.iconst 2, 1) := by decide +kernel
theorem dX10_copy_87 : decode cX10_copy 87 = .ok (.invokevirtual 79, 3) := by decide +kernel
theorem dX10_copy_90 : decode cX10_copy 90 = .ok (.ireturn, 1) := by decide +kernel
theorem dX10_copy_91 : decode cX10_copy 91 = .ok (.iload_n 1, 1) := by decide +kernel
theorem dX10_copy_92 : decode cX10_copy 92 = .ok (.iload_n 3, 1) := by decide +kernel
theorem dX10_copy_93 : decode cX10_copy 93 = .ok (.if_icmp .ne 13, 3) := by decide +kernel
theorem dX10_copy_96 : decode cX10_copy 96 = .ok (.iload 4, 2) := by decide +kernel
theorem dX10_copy_98 : decode cX10_copy 98 = .ok (.iload_n 2, 1) := by decide +kernel
theorem dX10_copy_99 : decode cX10_copy 99 = .ok (.if_icmp .le 7, 3) := by decide +kernel
theorem dX10_copy_102 : decode cX10_copy 102 = .ok (.iconst 1, 1) := by decide +kernel
theorem dX10_copy_103 : decode cX10_copy 103 = .ok (.goto 4, 3) := by decide +kernel
theorem dX10_copy_106 : decode cX10_copy 106 = .ok (.iconst 0, 1) := by decide +kernel
theorem dX10_copy_107 : decode cX10_copy 107 = .ok (.istore 6, 2) := by decide +kernel
theorem dX10_copy_109 : decode cX10_copy 109 = .ok (.iconst 0, 1) := by decide +kernel
theorem dX10_copy_110 : decode cX10_copy 110 = .ok (.istore 7, 2) := by decide +kernel
theorem dX10_copy_112 : decode cX10_copy 112 = .ok (.iload 7, 2) := by decide +kernel
theorem dX10_copy_114 : decode cX10_copy 114 = .ok (.iload 5, 2) := by decide +kernel
theorem dX10_copy_116 : decode cX10_copy 116 = .ok (.if_icmp .ge 57, 3) := by decide +kernel
theorem dX10_copy_119 : decode cX10_copy 119 = .ok (.iload 6, 2) := by decide +kernel
theorem dX10_copy_121 : decode cX10_copy 121 = .ok (.ifCond .eq 13, 3) := by decide +kernel
theorem dX10_copy_124 : decode cX10_copy 124 = .ok (.iload 5, 2) := by decide +kernel
theorem dX10_copy_126 : decode cX10_copy 126 = .ok (.iconst 1, 1) := by decide +kernel
theorem dX10_copy_127 : decode cX10_copy 127 = .ok (.isub, 1) := by decide +kernel
theorem dX10_copy_128 : decode cX10_copy 128 = .ok (.iload 7, 2) := by decide +kernel
theorem dX10_copy_130 : decode cX10_copy 130 = .ok (.isub, 1) := by decide +kernel
theorem dX10_copy_131 : decode cX10_copy 131 = .ok (.goto 5, 3) := by decide +kernel
theorem dX10_copy_134 : decode cX10_copy 134 = .ok (.iload 7, 2) := by decide +kernel
theorem dX10_copy_136 : decode cX10_copy 136 = .ok (.istore 8, 2) := by decide +kernel
theorem dX10_copy_138 : decode cX10_copy 138 = .ok (.aload_n 0, 1) := by decide +kernel
theorem dX10_copy_139 : decode cX10_copy 139 = .ok (.getfield 16, 3) := by decide +kernel
theorem dX10_copy_142 : decode cX10_copy 142 = .ok (.bipush 40, 2) := by decide +kernel
theorem dX10_copy_144 : decode cX10_copy 144 = .ok (.iload_n 3, 1) := by decide +kernel
theorem dX10_copy_145 : decode cX10_copy 145 = .ok (.imul, 1) := by decide +kernel
theorem dX10_copy_146 : decode cX10_copy 146 = .ok (.iload 4, 2) := by decide +kernel
theorem dX10_copy_148 : decode cX10_copy 148 = .ok (.iadd, 1) := by decide +kernel
theorem dX10_copy_149 : decode cX10_copy 149 = .ok (.iload 8, 2) := by decide +kernel
theorem dX10_copy_151 : decode cX10_copy 151 = .ok (.iadd, 1) := by decide +kernel
theorem dX10_copy_152 : decode cX10_copy 152 = .ok (.aload_n 0, 1) := by decide +kernel
theorem dX10_copy_153 : decode cX10_copy 153 = .ok (.getfield 16, 3) := by decide +kernel
theorem dX10_copy_156 : decode cX10_copy 156 = .ok (.bipush 40, 2) := by decide +kernel
theorem dX10_copy_158 : decode cX10_copy 158 = .ok (.iload_n 1, 1) := by decide +kernel
theorem dX10_copy_159 : decode cX10_copy 159 = .ok (.imul, 1) := by decide +kernel
theorem dX10_copy_160 : decode cX10_copy 160 = .ok (.iload_n 2, 1) := by decide +kernel
theorem dX10_copy_161 : decode cX10_copy 161 = .ok (.iadd, 1) := by decide +kernel
theorem dX10_copy_162 : decode cX10_copy 162 = .ok (.iload 8, 2) := by decide +kernel
theorem dX10_copy_164 : decode cX10_copy 164 = .ok (.iadd, 1) := by decide +kernel
theorem dX10_copy_165 : decode cX10_copy 165 = .ok (.iaload, 1) := by decide +kernel
theorem dX10_copy_166 : decode cX10_copy 166 = .ok (.iastore, 1) := by decide +kernel
theorem dX10_copy_167 : decode cX10_copy 167 = .ok (.iinc 7 1, 3) := by decide +kernel
theorem dX10_copy_170 : decode cX10_copy 170 = .ok (.goto (-58), 3) := by decide +kernel
theorem dX10_copy_173 : decode cX10_copy 173 = .ok (.aload_n 0, 1) := by decide +kernel
theorem dX10_copy_174 : decode cX10_copy 174 = .ok (.iload 5, 2) := by decide +kernel
theorem dX10_copy_176 : decode cX10_copy 176 = .ok (.invokevirtual 83, 3) := by decide +kernel
theorem dX10_copy_179 : decode cX10_copy 179 = .ok (.ireturn, 1) := by decide +kernel
theorem dX10_drop_0 : decode cX10_drop 0 = .ok (.iload_n 1, 1) := by decide +kernel
theorem dX10_drop_1 : decode cX10_drop 1 = .ok (.invokestatic 74, 3) := by decide +kernel
theorem dX10_drop_4 : decode cX10_drop 4 = .ok (.ifCond .ne 6, 3) := by decide +kernel
theorem dX10_drop_7 : decode cX10_drop 7 = .ok (.ldc 78, 2) := by decide +kernel
theorem dX10_drop_9 : decode cX10_drop 9 = .ok (.ireturn, 1) := by decide +kernel
theorem dX10_drop_10 : decode cX10_drop 10 = .ok (.aload_n 0, 1) := by decide +kernel
theorem dX10_drop_11 : decode cX10_drop 11 = .ok (.getfield 7, 3) := by decide +kernel
theorem dX10_drop_14 : decode cX10_drop 14 = .ok (.iload_n 1, 1) := by decide +kernel
theorem dX10_drop_15 : decode cX10_drop 15 = .ok (.iaload, 1) := by decide +kernel
theorem dX10_drop_16 : decode cX10_drop 16 = .ok (.ifCond .ge 9, 3) := by decide +kernel
theorem dX10_drop_19 : decode cX10_drop 19 = .ok (.aload_n 0, 1) := by decide +kernel
theorem dX10_drop_20 : decode cX10_drop 20 = .ok (.iconst 1, 1) := by decide +kernel
theorem dX10_drop_21 : decode cX10_drop 21 = .ok (.invokevirtual 79, 3) := by decide +kernel
theorem dX10_drop_24 : decode cX10_drop 24 = .ok (.ireturn, 1) := by decide +kernel
theorem dX10_drop_25 : decode cX10_drop 25 = .ok (.aload_n 0, 1) := by decide +kernel
theorem dX10_drop_26 : decode cX10_drop 26 = .ok (.getfield 7, 3) := by decide +kernel
theorem dX10_drop_29 : decode cX10_drop 29 = .ok (.iload_n 1, 1) := by decide +kernel
theorem dX10_drop_30 : decode cX10_drop 30 = .ok (.iaload, 1) := by decide +kernel
theorem dX10_drop_31 : decode cX10_drop 31 = .ok (.istore_n 2, 1) := by decide +kernel
theorem dX10_drop_32 : decode cX10_drop 32 = .ok (.aload_n 0, 1) := by decide +kernel
theorem dX10_drop_33 : decode cX10_drop 33 = .ok (.getfield 7, 3) := by decide +kernel
theorem dX10_drop_36 : decode cX10_drop 36 = .ok (.iload_n 1, 1) := by decide +kernel
theorem dX10_drop_37 : decode cX10_drop 37 = .ok (.iconst (-1), 1) := by decide +kernel
theorem dX10_drop_38 : decode cX10_drop 38 = .ok (.iastore, 1) := by decide +kernel
theorem dX10_drop_39 : decode cX10_drop 39 = .ok (.aload_n 0, 1) := by decide +kernel
theorem dX10_drop_40 : decode cX10_drop 40 = .ok (.iload_n 2, 1) := by decide +kernel
theorem dX10_drop_41 : decode cX10_drop 41 = .ok (.invokevirtual 83, 3) := by decide +kernel
theorem dX10_drop_44 : decode cX10_drop 44 = .ok (.ireturn, 1) := by decide +kernel
theorem dX10_feed_0 : decode cX10_feed 0 = .ok (.iload_n 1, 1) := by decide +kernel
theorem dX10_feed_1 : decode cX10_feed 1 = .ok (.iconst 0, 1) := by decide +kernel
theorem dX10_feed_2 : decode cX10_feed 2 = .ok (.sipush 255, 3) := by decide +kernel
theorem dX10_feed_5 : decode cX10_feed 5 = .ok (.invokestatic 70, 3) := by decide +kernel
theorem dX10_feed_8 : decode cX10_feed 8 = .ok (.ifCond .ne 6, 3) := by decide +kernel
theorem dX10_feed_11 : decode cX10_feed 11 = .ok (.ldc 78, 2) := by decide +kernel
theorem dX10_feed_13 : decode cX10_feed 13 = .ok (.ireturn, 1) := by decide +kernel
theorem dX10_feed_14 : decode cX10_feed 14 = .ok (.aload_n 0, 1) := by decide +kernel
theorem dX10_feed_15 : decode cX10_feed 15 = .ok (.getfield 89, 3) := by decide +kernel
theorem dX10_feed_18 : decode cX10_feed 18 = .ok (.bipush 120, 2) := by decide +kernel
theorem dX10_feed_20 : decode cX10_feed 20 = .ok (.if_icmp .ne 6, 3) := by decide +kernel
theorem dX10_feed_23 : decode cX10_feed 23 = .ok (.ldc 92, 2) := by decide +kernel
theorem dX10_feed_25 : decode cX10_feed 25 = .ok (.ireturn, 1) := by decide +kernel
theorem dX10_feed_26 : decode cX10_feed 26 = .ok (.aload_n 0, 1) := by decide +kernel
theorem dX10_feed_27 : decode cX10_feed 27 = .ok (.getfield 19, 3) := by decide +kernel
theorem dX10_feed_30 : decode cX10_feed 30 = .ok (.aload_n 0, 1) := by decide +kernel
theorem dX10_feed_31 : decode cX10_feed 31 = .ok (.getfield 89, 3) := by decide +kernel
theorem dX10_feed_34 : decode cX10_feed 34 = .ok (.iload_n 1, 1) := by decide +kernel
theorem dX10_feed_35 : decode cX10_feed 35 = .ok (.iastore, 1) := by decide +kernel
theorem dX10_feed_36 : decode cX10_feed 36 = .ok (.aload_n 0, 1) := by decide +kernel
theorem dX10_feed_37 : decode cX10_feed 37 = .ok (.dup, 1) := by decide +kernel
theorem dX10_feed_38 : decode cX10_feed 38 = .ok (.getfield 89, 3) := by decide +kernel
theorem dX10_feed_41 : decode cX10_feed 41 = .ok (.iconst 1, 1) := by decide +kernel
theorem dX10_feed_42 : decode cX10_feed 42 = .ok (.iadd, 1) := by decide +kernel
theorem dX10_feed_43 : decode cX10_feed 43 = .ok (.putfield 89, 3) := by decide +kernel
theorem dX10_feed_46 : decode cX10_feed 46 = .ok (.aload_n 0, 1) := by decide +kernel
theorem dX10_feed_47 : decode cX10_feed 47 = .ok (.getfield 89, 3) := by decide +kernel
theorem dX10_feed_50 : decode cX10_feed 50 = .ok (.ireturn, 1) := by decide +kernel
theorem dX10_byteAt_0 : decode cX10_byteAt 0 = .ok (.iload_n 1, 1) := by decide +kernel
theorem dX10_byteAt_1 : decode cX10_byteAt 1 = .ok (.aload_n 0, 1) := by decide +kernel
theorem dX10_byteAt_2 : decode cX10_byteAt 2 = .ok (.getfield 89, 3) := by decide +kernel
theorem dX10_byteAt_5 : decode cX10_byteAt 5 = .ok (.if_icmp .ge 12, 3) := by decide +kernel
theorem dX10_byteAt_8 : decode cX10_byteAt 8 = .ok (.aload_n 0, 1) := by decide +kernel
theorem dX10_byteAt_9 : decode cX10_byteAt 9 = .ok (.getfield 19, 3) := by decide +kernel
theorem dX10_byteAt_12 : decode cX10_byteAt 12 = .ok (.iload_n 1, 1) := by decide +kernel
theorem dX10_byteAt_13 : decode cX10_byteAt 13 = .ok (.iaload, 1) := by decide +kernel
theorem dX10_byteAt_14 : decode cX10_byteAt 14 = .ok (.goto 4, 3) := by decide +kernel
theorem dX10_byteAt_17 : decode cX10_byteAt 17 = .ok (.iconst 0, 1) := by decide +kernel
theorem dX10_byteAt_18 : decode cX10_byteAt 18 = .ok (.ireturn, 1) := by decide +kernel
theorem dX10_isFigure_0 : decode cX10_isFigure 0 = .ok (.iload_n 0, 1) := by decide +kernel
theorem dX10_isFigure_1 : decode cX10_isFigure 1 = .ok (.bipush 48, 2) := by decide +kernel
theorem dX10_isFigure_3 : decode cX10_isFigure 3 = .ok (.bipush 57, 2) := by decide +kernel
theorem dX10_isFigure_5 : decode cX10_isFigure 5 = .ok (.invokestatic 70, 3) := by decide +kernel
theorem dX10_isFigure_8 : decode cX10_isFigure 8 = .ok (.ireturn, 1) := by decide +kernel
theorem dX10_reads_0 : decode cX10_reads 0 = .ok (.aload_n 0, 1) := by decide +kernel
theorem dX10_reads_1 : decode cX10_reads 1 = .ok (.aload_n 0, 1) := by decide +kernel
theorem dX10_reads_2 : decode cX10_reads 2 = .ok (.getfield 93, 3) := by decide +kernel
theorem dX10_reads_5 : decode cX10_reads 5 = .ok (.putfield 96, 3) := by decide +kernel
theorem dX10_reads_8 : decode cX10_reads 8 = .ok (.aload_n 0, 1) := by decide +kernel
theorem dX10_reads_9 : decode cX10_reads 9 = .ok (.aload_n 0, 1) := by decide +kernel
theorem dX10_reads_10 : decode cX10_reads 10 = .ok (.getfield 93, 3) := by decide +kernel
theorem dX10_reads_13 : decode cX10_reads 13 = .ok (.invokevirtual 99, 3) := by decide +kernel
theorem dX10_reads_16 : decode cX10_reads 16 = .ok (.istore_n 1, 1) := by decide +kernel
theorem dX10_reads_17 : decode cX10_reads 17 = .ok (.aload_n 0, 1) := by decide +kernel
theorem dX10_reads_18 : decode cX10_reads 18 = .ok (.getfield 93, 3) := by decide +kernel
theorem dX10_reads_21 : decode cX10_reads 21 = .ok (.aload_n 0, 1) := by decide +kernel
theorem dX10_reads_22 : decode cX10_reads 22 = .ok (.getfield 89, 3) := by decide +kernel
theorem dX10_reads_25 : decode cX10_reads 25 = .ok (.if_icmp .ne 11, 3) := by decide +kernel
theorem dX10_reads_28 : decode cX10_reads 28 = .ok (.aload_n 0, 1) := by decide +kernel
theorem dX10_reads_29 : decode cX10_reads 29 = .ok (.iconst (-1), 1) := by decide +kernel
theorem dX10_reads_30 : decode cX10_reads 30 = .ok (.putfield 102, 3) := by decide +kernel
theorem dX10_reads_33 : decode cX10_reads 33 = .ok (.goto 149, 3) := by decide +kernel
theorem dX10_reads_36 : decode cX10_reads 36 = .ok (.iload_n 1, 1) := by decide +kernel
theorem dX10_reads_37 : decode cX10_reads 37 = .ok (.invokestatic 105, 3) := by decide +kernel
theorem dX10_reads_40 : decode cX10_reads 40 = .ok (.ifCond .eq 100, 3) := by decide +kernel
theorem dX10_reads_43 : decode cX10_reads 43 = .ok (.aload_n 0, 1) := by decide +kernel
theorem dX10_reads_44 : decode cX10_reads 44 = .ok (.iconst 0, 1) := by decide +kernel
theorem dX10_reads_45 : decode cX10_reads 45 = .ok (.putfield 108, 3) := by decide +kernel
theorem dX10_reads_48 : decode cX10_reads 48 = .ok (.aload_n 0, 1) := by decide +kernel
theorem dX10_reads_49 : decode cX10_reads 49 = .ok (.aload_n 0, 1) := by decide +kernel
theorem dX10_reads_50 : decode cX10_reads 50 = .ok (.getfield 93, 3) := by decide +kernel
theorem dX10_reads_53 : decode cX10_reads 53 = .ok (.invokevirtual 99, 3) := by decide +kernel
theorem dX10_reads_56 : decode cX10_reads 56 = .ok (.invokestatic 105, 3) := by decide +kernel
theorem dX10_reads_59 : decode cX10_reads 59 = .ok (.ifCond .eq 55, 3) := by decide +kernel
theorem dX10_reads_62 : decode cX10_reads 62 = .ok (.aload_n 0, 1) := by decide +kernel
theorem dX10_reads_63 : decode cX10_reads 63 = .ok (.aload_n 0, 1) := by decide +kernel
theorem dX10_reads_64 : decode cX10_reads 64 = .ok (.getfield 108, 3) := by decide +kernel
theorem dX10_reads_67 : decode cX10_reads 67 = .ok (.bipush 99, 2) := by decide +kernel
theorem dX10_reads_69 : decode cX10_reads 69 = .ok (.if_icmp .le 10, 3) := by decide +kernel
theorem dX10_reads_72 : decode cX10_reads 72 = .ok (.aload_n 0, 1) := by decide +kernel
theorem dX10_reads_73 : decode cX10_reads 73 = .ok (.getfield 108, 3) := by decide +kernel
theorem dX10_reads_76 : decode cX10_reads 76 = .ok (.goto 22, 3) := by decide +kernel
theorem dX10_reads_79 : decode cX10_reads 79 = .ok (.bipush 10, 2) := by decide +kernel
theorem dX10_reads_81 : decode cX10_reads 81 = .ok (.aload_n 0, 1) := by decide +kernel
theorem dX10_reads_82 : decode cX10_reads 82 = .ok (.getfield 108, 3) := by decide +kernel
theorem dX10_reads_85 : decode cX10_reads 85 = .ok (.imul, 1) := by decide +kernel
theorem dX10_reads_86 : decode cX10_reads 86 = .ok (.aload_n 0, 1) := by decide +kernel
theorem dX10_reads_87 : decode cX10_reads 87 = .ok (.aload_n 0, 1) := by decide +kernel
theorem dX10_reads_88 : decode cX10_reads 88 = .ok (.getfield 93, 3) := by decide +kernel
theorem dX10_reads_91 : decode cX10_reads 91 = .ok (.invokevirtual 99, 3) := by decide +kernel
theorem dX10_reads_94 : decode cX10_reads 94 = .ok (.iadd, 1) := by decide +kernel
theorem dX10_reads_95 : decode cX10_reads 95 = .ok (.bipush 48, 2) := by decide +kernel
theorem dX10_reads_97 : decode cX10_reads 97 = .ok (.isub, 1) := by decide +kernel
theorem dX10_reads_98 : decode cX10_reads 98 = .ok (.putfield 108, 3) := by decide +kernel
theorem dX10_reads_101 : decode cX10_reads 101 = .ok (.aload_n 0, 1) := by decide +kernel
theorem dX10_reads_102 : decode cX10_reads 102 = .ok (.dup, 1) := by decide +kernel
theorem dX10_reads_103 : decode cX10_reads 103 = .ok (.getfield 93, 3) := by decide +kernel
theorem dX10_reads_106 : decode cX10_reads 106 = .ok (.iconst 1, 1) := by decide +kernel
theorem dX10_reads_107 : decode cX10_reads 107 = .ok (.iadd, 1) := by decide +kernel
theorem dX10_reads_108 : decode cX10_reads 108 = .ok (.putfield 93, 3) := by decide +kernel
theorem dX10_reads_111 : decode cX10_reads 111 = .ok (.goto (-63), 3) := by decide +kernel
theorem dX10_reads_114 : decode cX10_reads 114 = .ok (.aload_n 0, 1) := by decide +kernel
theorem dX10_reads_115 : decode cX10_reads 115 = .ok (.aload_n 0, 1) := by decide +kernel
theorem dX10_reads_116 : decode cX10_reads 116 = .ok (.getfield 93, 3) := by decide +kernel
theorem dX10_reads_119 : decode cX10_reads 119 = .ok (.aload_n 0, 1) := by decide +kernel
theorem dX10_reads_120 : decode cX10_reads 120 = .ok (.getfield 96, 3) := by decide +kernel
theorem dX10_reads_123 : decode cX10_reads 123 = .ok (.isub, 1) := by decide +kernel
theorem dX10_reads_124 : decode cX10_reads 124 = .ok (.iconst 2, 1) := by decide +kernel
theorem dX10_reads_125 : decode cX10_reads 125 = .ok (.if_icmp .le 7, 3) := by decide +kernel
theorem dX10_reads_128 : decode cX10_reads 128 = .ok (.iconst 0, 1) := by decide +kernel
theorem dX10_reads_129 : decode cX10_reads 129 = .ok (.goto 5, 3) := by decide +kernel
theorem dX10_reads_132 : decode cX10_reads 132 = .ok (.bipush 48, 2) := by decide +kernel
theorem dX10_reads_134 : decode cX10_reads 134 = .ok (.putfield 102, 3) := by decide +kernel
theorem dX10_reads_137 : decode cX10_reads 137 = .ok (.goto 45, 3) := by decide +kernel
theorem dX10_reads_140 : decode cX10_reads 140 = .ok (.aload_n 0, 1) := by decide +kernel
theorem dX10_reads_141 : decode cX10_reads 141 = .ok (.dup, 1) := by decide +kernel
theorem dX10_reads_142 : decode cX10_reads 142 = .ok (.getfield 93, 3) := by decide +kernel
theorem dX10_reads_145 : decode cX10_reads 145 = .ok (.iconst 1, 1) := by decide +kernel
theorem dX10_reads_146 : decode cX10_reads 146 = .ok (.iadd, 1) := by decide +kernel
theorem dX10_reads_147 : decode cX10_reads 147 = .ok (.putfield 93, 3) := by decide +kernel
theorem dX10_reads_150 : decode cX10_reads 150 = .ok (.aload_n 0, 1) := by decide +kernel
theorem dX10_reads_151 : decode cX10_reads 151 = .ok (.iload_n 1, 1) := by decide +kernel
theorem dX10_reads_152 : decode cX10_reads 152 = .ok (.bipush 97, 2) := by decide +kernel
theorem dX10_reads_154 : decode cX10_reads 154 = .ok (.bipush 122, 2) := by decide +kernel
theorem dX10_reads_156 : decode cX10_reads 156 = .ok (.invokestatic 70, 3) := by decide +kernel
theorem dX10_reads_159 : decode cX10_reads 159 = .ok (.ifCond .ne 15, 3) := by decide +kernel
theorem dX10_reads_162 : decode cX10_reads 162 = .ok (.iload_n 1, 1) := by decide +kernel
theorem dX10_reads_163 : decode cX10_reads 163 = .ok (.bipush 44, 2) := by decide +kernel
theorem dX10_reads_165 : decode cX10_reads 165 = .ok (.if_icmp .eq 9, 3) := by decide +kernel
theorem dX10_reads_168 : decode cX10_reads 168 = .ok (.iload_n 1, 1) := by decide +kernel
theorem dX10_reads_169 : decode cX10_reads 169 = .ok (.bipush 59, 2) := by decide +kernel
theorem dX10_reads_171 : decode cX10_reads 171 = .ok (.if_icmp .ne 7, 3) := by decide +kernel
theorem dX10_reads_174 : decode cX10_reads 174 = .ok (.iload_n 1, 1) := by decide +kernel
theorem dX10_reads_175 : decode cX10_reads 175 = .ok (.goto 4, 3) := by decide +kernel
theorem dX10_reads_178 : decode cX10_reads 178 = .ok (.iconst 0, 1) := by decide +kernel
theorem dX10_reads_179 : decode cX10_reads 179 = .ok (.putfield 102, 3) := by decide +kernel
theorem dX10_reads_182 : decode cX10_reads 182 = .ok (.return_, 1) := by decide +kernel
theorem dX10_fails_0 : decode cX10_fails 0 = .ok (.aload_n 0, 1) := by decide +kernel
theorem dX10_fails_1 : decode cX10_fails 1 = .ok (.iload_n 1, 1) := by decide +kernel
theorem dX10_fails_2 : decode cX10_fails 2 = .ok (.putfield 111, 3) := by decide +kernel
theorem dX10_fails_5 : decode cX10_fails 5 = .ok (.iconst 0, 1) := by decide +kernel
theorem dX10_fails_6 : decode cX10_fails 6 = .ok (.ireturn, 1) := by decide +kernel
theorem dX10_told_0 : decode cX10_told 0 = .ok (.aload_n 0, 1) := by decide +kernel
theorem dX10_told_1 : decode cX10_told 1 = .ok (.invokevirtual 114, 3) := by decide +kernel
theorem dX10_told_4 : decode cX10_told 4 = .ok (.aload_n 0, 1) := by decide +kernel
theorem dX10_told_5 : decode cX10_told 5 = .ok (.getfield 102, 3) := by decide +kernel
theorem dX10_told_8 : decode cX10_told 8 = .ok (.bipush 48, 2) := by decide +kernel
theorem dX10_told_10 : decode cX10_told 10 = .ok (.if_icmp .eq 9, 3) := by decide +kernel
theorem dX10_told_13 : decode cX10_told 13 = .ok (.aload_n 0, 1) := by decide +kernel
theorem dX10_told_14 : decode cX10_told 14 = .ok (.iconst 1, 1) := by decide +kernel
theorem dX10_told_15 : decode cX10_told 15 = .ok (.invokevirtual 117, 3) := by decide +kernel
theorem dX10_told_18 : decode cX10_told 18 = .ok (.ireturn, 1) := by decide +kernel
theorem dX10_told_19 : decode cX10_told 19 = .ok (.aload_n 1, 1) := by decide +kernel
theorem dX10_told_20 : decode cX10_told 20 = .ok (.iload_n 2, 1) := by decide +kernel
theorem dX10_told_21 : decode cX10_told 21 = .ok (.aload_n 0, 1) := by decide +kernel
theorem dX10_told_22 : decode cX10_told 22 = .ok (.getfield 108, 3) := by decide +kernel
theorem dX10_told_25 : decode cX10_told 25 = .ok (.iastore, 1) := by decide +kernel
theorem dX10_told_26 : decode cX10_told 26 = .ok (.aload_n 0, 1) := by decide +kernel
theorem dX10_told_27 : decode cX10_told 27 = .ok (.getfield 108, 3) := by decide +kernel
theorem dX10_told_30 : decode cX10_told 30 = .ok (.iload_n 3, 1) := by decide +kernel
theorem dX10_told_31 : decode cX10_told 31 = .ok (.iload 4, 2) := by decide +kernel
theorem dX10_told_33 : decode cX10_told 33 = .ok (.invokestatic 70, 3) := by decide +kernel
theorem dX10_told_36 : decode cX10_told 36 = .ok (.ifCond .ne 11, 3) := by decide +kernel
theorem dX10_told_39 : decode cX10_told 39 = .ok (.aload_n 0, 1) := by decide +kernel
theorem dX10_told_40 : decode cX10_told 40 = .ok (.iconst 2, 1) := by decide +kernel
theorem dX10_told_41 : decode cX10_told 41 = .ok (.invokevirtual 117, 3) := by decide +kernel
theorem dX10_told_44 : decode cX10_told 44 = .ok (.ifCond .eq 7, 3) := by decide +kernel
theorem dX10_told_47 : decode cX10_told 47 = .ok (.iconst 1, 1) := by decide +kernel
theorem dX10_told_48 : decode cX10_told 48 = .ok (.goto 4, 3) := by decide +kernel
theorem dX10_told_51 : decode cX10_told 51 = .ok (.iconst 0, 1) := by decide +kernel
theorem dX10_told_52 : decode cX10_told 52 = .ok (.ireturn, 1) := by decide +kernel
theorem dX10_sign_0 : decode cX10_sign 0 = .ok (.aload_n 0, 1) := by decide +kernel
theorem dX10_sign_1 : decode cX10_sign 1 = .ok (.invokevirtual 114, 3) := by decide +kernel
theorem dX10_sign_4 : decode cX10_sign 4 = .ok (.aload_n 0, 1) := by decide +kernel
theorem dX10_sign_5 : decode cX10_sign 5 = .ok (.getfield 102, 3) := by decide +kernel
theorem dX10_sign_8 : decode cX10_sign 8 = .ok (.iload_n 1, 1) := by decide +kernel
theorem dX10_sign_9 : decode cX10_sign 9 = .ok (.if_icmp .eq 11, 3) := by decide +kernel
theorem dX10_sign_12 : decode cX10_sign 12 = .ok (.aload_n 0, 1) := by decide +kernel
theorem dX10_sign_13 : decode cX10_sign 13 = .ok (.iconst 1, 1) := by decide +kernel
theorem dX10_sign_14 : decode cX10_sign 14 = .ok (.invokevirtual 117, 3) := by decide +kernel
theorem dX10_sign_17 : decode cX10_sign 17 = .ok (.ifCond .eq 7, 3) := by decide +kernel
theorem dX10_sign_20 : decode cX10_sign 20 = .ok (.iconst 1, 1) := by decide +kernel
theorem dX10_sign_21 : decode cX10_sign 21 = .ok (.goto 4, 3) := by decide +kernel
theorem dX10_sign_24 : decode cX10_sign 24 = .ok (.iconst 0, 1) := by decide +kernel
theorem dX10_sign_25 : decode cX10_sign 25 = .ok (.ireturn, 1) := by decide +kernel
theorem dX10_readsLaw_0 : decode cX10_readsLaw 0 = .ok (.aload_n 0, 1) := by decide +kernel
theorem dX10_readsLaw_1 : decode cX10_readsLaw 1 = .ok (.getfield 102, 3) := by decide +kernel
theorem dX10_readsLaw_4 : decode cX10_readsLaw 4 = .ok (.bipush 99, 2) := by decide +kernel
theorem dX10_readsLaw_6 : decode cX10_readsLaw 6 = .ok (.if_icmp .eq 9, 3) := by decide +kernel
theorem dX10_readsLaw_9 : decode cX10_readsLaw 9 = .ok (.aload_n 0, 1) := by decide +kernel
theorem dX10_readsLaw_10 : decode cX10_readsLaw 10 = .ok (.iconst 1, 1) := by decide +kernel
theorem dX10_readsLaw_11 : decode cX10_readsLaw 11 = .ok (.invokevirtual 117, 3) := by decide +kernel
theorem dX10_readsLaw_14 : decode cX10_readsLaw 14 = .ok (.ireturn, 1) := by decide +kernel
theorem dX10_readsLaw_15 : decode cX10_readsLaw 15 = .ok (.aload_n 0, 1) := by decide +kernel
theorem dX10_readsLaw_16 : decode cX10_readsLaw 16 = .ok (.aload_n 0, 1) := by decide +kernel
theorem dX10_readsLaw_17 : decode cX10_readsLaw 17 = .ok (.getfield 22, 3) := by decide +kernel
theorem dX10_readsLaw_20 : decode cX10_readsLaw 20 = .ok (.iconst 2, 1) := by decide +kernel
theorem dX10_readsLaw_21 : decode cX10_readsLaw 21 = .ok (.iconst 1, 1) := by decide +kernel
theorem dX10_readsLaw_22 : decode cX10_readsLaw 22 = .ok (.bipush 60, 2) := by decide +kernel
theorem dX10_readsLaw_24 : decode cX10_readsLaw 24 = .ok (.invokevirtual 120, 3) := by decide +kernel
theorem dX10_readsLaw_27 : decode cX10_readsLaw 27 = .ok (.ifCond .eq 40, 3) := by decide +kernel
theorem dX10_readsLaw_30 : decode cX10_readsLaw 30 = .ok (.aload_n 0, 1) := by decide +kernel
theorem dX10_readsLaw_31 : decode cX10_readsLaw 31 = .ok (.bipush 44, 2) := by decide +kernel
theorem dX10_readsLaw_33 : decode cX10_readsLaw 33 = .ok (.invokevirtual 124, 3) := by decide +kernel
theorem dX10_readsLaw_36 : decode cX10_readsLaw 36 = .ok (.ifCond .eq 31, 3) := by decide +kernel
theorem dX10_readsLaw_39 : decode cX10_readsLaw 39 = .ok (.aload_n 0, 1) := by decide +kernel
theorem dX10_readsLaw_40 : decode cX10_readsLaw 40 = .ok (.aload_n 0, 1) := by decide +kernel
theorem dX10_readsLaw_41 : decode cX10_readsLaw 41 = .ok (.getfield 28, 3) := by decide +kernel
theorem dX10_readsLaw_44 : decode cX10_readsLaw 44 = .ok (.iconst 0, 1) := by decide +kernel
theorem dX10_readsLaw_45 : decode cX10_readsLaw 45 = .ok (.iconst 1, 1) := by decide +kernel
theorem dX10_readsLaw_46 : decode cX10_readsLaw 46 = .ok (.bipush 9, 2) := by decide +kernel
theorem dX10_readsLaw_48 : decode cX10_readsLaw 48 = .ok (.invokevirtual 120, 3) := by decide +kernel
theorem dX10_readsLaw_51 : decode cX10_readsLaw 51 = .ok (.ifCond .eq 16, 3) := by decide +kernel
theorem dX10_readsLaw_54 : decode cX10_readsLaw 54 = .ok (.aload_n 0, 1) := by decide +kernel
theorem dX10_readsLaw_55 : decode cX10_readsLaw 55 = .ok (.bipush 59, 2) := by decide +kernel
theorem dX10_readsLaw_57 : decode cX10_readsLaw 57 = .ok (.invokevirtual 124, 3) := by decide +kernel
theorem dX10_readsLaw_60 : decode cX10_readsLaw 60 = .ok (.ifCond .eq 7, 3) := by decide +kernel
theorem dX10_readsLaw_63 : decode cX10_readsLaw 63 = .ok (.iconst 1, 1) := by decide +kernel
theorem dX10_readsLaw_64 : decode cX10_readsLaw 64 = .ok (.goto 4, 3) := by decide +kernel
theorem dX10_readsLaw_67 : decode cX10_readsLaw 67 = .ok (.iconst 0, 1) := by decide +kernel
theorem dX10_readsLaw_68 : decode cX10_readsLaw 68 = .ok (.istore_n 1, 1) := by decide +kernel
theorem dX10_readsLaw_69 : decode cX10_readsLaw 69 = .ok (.aload_n 0, 1) := by decide +kernel
theorem dX10_readsLaw_70 : decode cX10_readsLaw 70 = .ok (.aload_n 0, 1) := by decide +kernel
theorem dX10_readsLaw_71 : decode cX10_readsLaw 71 = .ok (.getfield 28, 3) := by decide +kernel
theorem dX10_readsLaw_74 : decode cX10_readsLaw 74 = .ok (.iconst 0, 1) := by decide +kernel
theorem dX10_readsLaw_75 : decode cX10_readsLaw 75 = .ok (.iaload, 1) := by decide +kernel
theorem dX10_readsLaw_76 : decode cX10_readsLaw 76 = .ok (.putfield 127, 3) := by decide +kernel
theorem dX10_readsLaw_79 : decode cX10_readsLaw 79 = .ok (.iload_n 1, 1) := by decide +kernel
theorem dX10_readsLaw_80 : decode cX10_readsLaw 80 = .ok (.ireturn, 1) := by decide +kernel
theorem dX10_readsPerson_0 : decode cX10_readsPerson 0 = .ok (.aload_n 0, 1) := by decide +kernel
theorem dX10_readsPerson_1 : decode cX10_readsPerson 1 = .ok (.getfield 22, 3) := by decide +kernel
theorem dX10_readsPerson_4 : decode cX10_readsPerson 4 = .ok (.iconst 0, 1) := by decide +kernel
theorem dX10_readsPerson_5 : decode cX10_readsPerson 5 = .ok (.iaload, 1) := by decide +kernel
theorem dX10_readsPerson_6 : decode cX10_readsPerson 6 = .ok (.iconst 5, 1) := by decide +kernel
theorem dX10_readsPerson_7 : decode cX10_readsPerson 7 = .ok (.if_icmp .ne 9, 3) := by decide +kernel
theorem dX10_readsPerson_10 : decode cX10_readsPerson 10 = .ok (.aload_n 0, 1) := by decide +kernel
theorem dX10_readsPerson_11 : decode cX10_readsPerson 11 = .ok (.iconst 3, 1) := by decide +kernel
theorem dX10_readsPerson_12 : decode cX10_readsPerson 12 = .ok (.invokevirtual 117, 3) := by decide +kernel
theorem dX10_readsPerson_15 : decode cX10_readsPerson 15 = .ok (.ireturn, 1) := by decide +kernel
theorem dX10_readsPerson_16 : decode cX10_readsPerson 16 = .ok (.aload_n 0, 1) := by decide +kernel
theorem dX10_readsPerson_17 : decode cX10_readsPerson 17 = .ok (.getfield 22, 3) := by decide +kernel
theorem dX10_readsPerson_20 : decode cX10_readsPerson 20 = .ok (.iconst 0, 1) := by decide +kernel
theorem dX10_readsPerson_21 : decode cX10_readsPerson 21 = .ok (.iaload, 1) := by decide +kernel
theorem dX10_readsPerson_22 : decode cX10_readsPerson 22 = .ok (.istore_n 1, 1) := by decide +kernel
theorem dX10_readsPerson_23 : decode cX10_readsPerson 23 = .ok (.aload_n 0, 1) := by decide +kernel
theorem dX10_readsPerson_24 : decode cX10_readsPerson 24 = .ok (.getfield 22, 3) := by decide +kernel
theorem dX10_readsPerson_27 : decode cX10_readsPerson 27 = .ok (.iconst 0, 1) := by decide +kernel
theorem dX10_readsPerson_28 : decode cX10_readsPerson 28 = .ok (.dup2, 1) := by decide +kernel
theorem dX10_readsPerson_29 : decode cX10_readsPerson 29 = .ok (.iaload, 1) := by decide +kernel
theorem dX10_readsPerson_30 : decode cX10_readsPerson 30 = .ok (.iconst 1, 1) := by decide +kernel
theorem dX10_readsPerson_31 : decode cX10_readsPerson 31 = .ok (.iadd, 1) := by decide +kernel
theorem dX10_readsPerson_32 : decode cX10_readsPerson 32 = .ok (.iastore, 1) := by decide +kernel
theorem dX10_readsPerson_33 : decode cX10_readsPerson 33 = .ok (.aload_n 0, 1) := by decide +kernel
theorem dX10_readsPerson_34 : decode cX10_readsPerson 34 = .ok (.aload_n 0, 1) := by decide +kernel
theorem dX10_readsPerson_35 : decode cX10_readsPerson 35 = .ok (.getfield 25, 3) := by decide +kernel
theorem dX10_readsPerson_38 : decode cX10_readsPerson 38 = .ok (.iload_n 1, 1) := by decide +kernel
theorem dX10_readsPerson_39 : decode cX10_readsPerson 39 = .ok (.iconst 0, 1) := by decide +kernel
theorem dX10_readsPerson_40 : decode cX10_readsPerson 40 = .ok (.bipush 99, 2) := by decide +kernel
theorem dX10_readsPerson_42 : decode cX10_readsPerson 42 = .ok (.invokevirtual 120, 3) := by decide +kernel
theorem dX10_readsPerson_45 : decode cX10_readsPerson 45 = .ok (.ifCond .eq 42, 3) := by decide +kernel
theorem dX10_readsPerson_48 : decode cX10_readsPerson 48 = .ok (.aload_n 0, 1) := by decide +kernel
theorem dX10_readsPerson_49 : decode cX10_readsPerson 49 = .ok (.bipush 44, 2) := by decide +kernel
theorem dX10_readsPerson_51 : decode cX10_readsPerson 51 = .ok (.invokevirtual 124, 3) := by decide +kernel
theorem dX10_readsPerson_54 : decode cX10_readsPerson 54 = .ok (.ifCond .eq 33, 3) := by decide +kernel
theorem dX10_readsPerson_57 : decode cX10_readsPerson 57 = .ok (.aload_n 0, 1) := by decide +kernel
theorem dX10_readsPerson_58 : decode cX10_readsPerson 58 = .ok (.aload_n 0, 1) := by decide +kernel
theorem dX10_readsPerson_59 : decode cX10_readsPerson 59 = .ok (.getfield 22, 3) := by decide +kernel
theorem dX10_readsPerson_62 : decode cX10_readsPerson 62 = .ok (.iconst 3, 1) := by decide +kernel
theorem dX10_readsPerson_63 : decode cX10_readsPerson 63 = .ok (.iload_n 1, 1) := by decide +kernel
theorem dX10_readsPerson_64 : decode cX10_readsPerson 64 = .ok (.iadd, 1) := by decide +kernel
theorem dX10_readsPerson_65 : decode cX10_readsPerson 65 = .ok (.iconst 0, 1) := by decide +kernel
theorem dX10_readsPerson_66 : decode cX10_readsPerson 66 = .ok (.bipush 20, 2) := by decide +kernel
theorem dX10_readsPerson_68 : decode cX10_readsPerson 68 = .ok (.invokevirtual 120, 3) := by decide +kernel
theorem dX10_readsPerson_71 : decode cX10_readsPerson 71 = .ok (.ifCond .eq 16, 3) := by decide +kernel
theorem dX10_readsPerson_74 : decode cX10_readsPerson 74 = .ok (.aload_n 0, 1) := by decide +kernel
theorem dX10_readsPerson_75 : decode cX10_readsPerson 75 = .ok (.bipush 59, 2) := by decide +kernel
theorem dX10_readsPerson_77 : decode cX10_readsPerson 77 = .ok (.invokevirtual 124, 3) := by decide +kernel
theorem dX10_readsPerson_80 : decode cX10_readsPerson 80 = .ok (.ifCond .eq 7, 3) := by decide +kernel
theorem dX10_readsPerson_83 : decode cX10_readsPerson 83 = .ok (.iconst 1, 1) := by decide +kernel
theorem dX10_readsPerson_84 : decode cX10_readsPerson 84 = .ok (.goto 4, 3) := by decide +kernel
theorem dX10_readsPerson_87 : decode cX10_readsPerson 87 = .ok (.iconst 0, 1) := by decide +kernel
theorem dX10_readsPerson_88 : decode cX10_readsPerson 88 = .ok (.ireturn, 1) := by decide +kernel
theorem dX10_sortOf_0 : decode cX10_sortOf 0 = .ok (.iload_n 0, 1) := by decide +kernel
theorem dX10_sortOf_1 : decode cX10_sortOf 1 = .ok (.lookupswitch 61 #[(98, 53), (101, 59), (110, 51), (115, 55), (119, 57)], 51) := by decide +kernel
theorem dX10_sortOf_52 : decode cX10_sortOf 52 = .ok (.iconst 1, 1) := by decide +kernel
theorem dX10_sortOf_53 : decode cX10_sortOf 53 = .ok (.ireturn, 1) := by decide +kernel
theorem dX10_sortOf_54 : decode cX10_sortOf 54 = .ok (.iconst 2, 1) := by decide +kernel
theorem dX10_sortOf_55 : decode cX10_sortOf 55 = .ok (.ireturn, 1) := by decide +kernel
theorem dX10_sortOf_56 : decode cX10_sortOf 56 = .ok (.iconst 3, 1) := by decide +kernel
theorem dX10_sortOf_57 : decode cX10_sortOf 57 = .ok (.ireturn, 1) := by decide +kernel
theorem dX10_sortOf_58 : decode cX10_sortOf 58 = .ok (.iconst 4, 1) := by decide +kernel
theorem dX10_sortOf_59 : decode cX10_sortOf 59 = .ok (.ireturn, 1) := by decide +kernel
theorem dX10_sortOf_60 : decode cX10_sortOf 60 = .ok (.iconst 5, 1) := by decide +kernel
theorem dX10_sortOf_61 : decode cX10_sortOf 61 = .ok (.ireturn, 1) := by decide +kernel
theorem dX10_sortOf_62 : decode cX10_sortOf 62 = .ok (.iconst 0, 1) := by decide +kernel
theorem dX10_sortOf_63 : decode cX10_sortOf 63 = .ok (.ireturn, 1) := by decide +kernel
theorem dX10_readsSpeech_0 : decode cX10_readsSpeech 0 = .ok (.aload_n 0, 1) := by decide +kernel
theorem dX10_readsSpeech_1 : decode cX10_readsSpeech 1 = .ok (.getfield 102, 3) := by decide +kernel
theorem dX10_readsSpeech_4 : decode cX10_readsSpeech 4 = .ok (.invokestatic 130, 3) := by decide +kernel
theorem dX10_readsSpeech_7 : decode cX10_readsSpeech 7 = .ok (.istore_n 1, 1) := by decide +kernel
theorem dX10_readsSpeech_8 : decode cX10_readsSpeech 8 = .ok (.iload_n 1, 1) := by decide +kernel
theorem dX10_readsSpeech_9 : decode cX10_readsSpeech 9 = .ok (.ifCond .ne 9, 3) := by decide +kernel
theorem dX10_readsSpeech_12 : decode cX10_readsSpeech 12 = .ok (.aload_n 0, 1) := by decide +kernel
theorem dX10_readsSpeech_13 : decode cX10_readsSpeech 13 = .ok (.iconst 1, 1) := by decide +kernel
theorem dX10_readsSpeech_14 : decode cX10_readsSpeech 14 = .ok (.invokevirtual 117, 3) := by decide +kernel
theorem dX10_readsSpeech_17 : decode cX10_readsSpeech 17 = .ok (.ireturn, 1) := by decide +kernel
theorem dX10_readsSpeech_18 : decode cX10_readsSpeech 18 = .ok (.aload_n 0, 1) := by decide +kernel
theorem dX10_readsSpeech_19 : decode cX10_readsSpeech 19 = .ok (.getfield 22, 3) := by decide +kernel
theorem dX10_readsSpeech_22 : decode cX10_readsSpeech 22 = .ok (.iconst 1, 1) := by decide +kernel
theorem dX10_readsSpeech_23 : decode cX10_readsSpeech 23 = .ok (.iaload, 1) := by decide +kernel
theorem dX10_readsSpeech_24 : decode cX10_readsSpeech 24 = .ok (.bipush 6, 2) := by decide +kernel
theorem dX10_readsSpeech_26 : decode cX10_readsSpeech 26 = .ok (.if_icmp .ne 9, 3) := by decide +kernel
theorem dX10_readsSpeech_29 : decode cX10_readsSpeech 29 = .ok (.aload_n 0, 1) := by decide +kernel
theorem dX10_readsSpeech_30 : decode cX10_readsSpeech 30 = .ok (.iconst 3, 1) := by decide +kernel
theorem dX10_readsSpeech_31 : decode cX10_readsSpeech 31 = .ok (.invokevirtual 117, 3) := by decide +kernel
theorem dX10_readsSpeech_34 : decode cX10_readsSpeech 34 = .ok (.ireturn, 1) := by decide +kernel
theorem dX10_readsSpeech_35 : decode cX10_readsSpeech 35 = .ok (.aload_n 0, 1) := by decide +kernel
theorem dX10_readsSpeech_36 : decode cX10_readsSpeech 36 = .ok (.getfield 22, 3) := by decide +kernel
theorem dX10_readsSpeech_39 : decode cX10_readsSpeech 39 = .ok (.iconst 1, 1) := by decide +kernel
theorem dX10_readsSpeech_40 : decode cX10_readsSpeech 40 = .ok (.iaload, 1) := by decide +kernel
theorem dX10_readsSpeech_41 : decode cX10_readsSpeech 41 = .ok (.istore_n 2, 1) := by decide +kernel
theorem dX10_readsSpeech_42 : decode cX10_readsSpeech 42 = .ok (.aload_n 0, 1) := by decide +kernel
theorem dX10_readsSpeech_43 : decode cX10_readsSpeech 43 = .ok (.getfield 22, 3) := by decide +kernel
theorem dX10_readsSpeech_46 : decode cX10_readsSpeech 46 = .ok (.iconst 1, 1) := by decide +kernel
theorem dX10_readsSpeech_47 : decode cX10_readsSpeech 47 = .ok (.dup2, 1) := by decide +kernel
theorem dX10_readsSpeech_48 : decode cX10_readsSpeech 48 = .ok (.iaload, 1) := by decide +kernel
theorem dX10_readsSpeech_49 : decode cX10_readsSpeech 49 = .ok (.iconst 1, 1) := by decide +kernel
theorem dX10_readsSpeech_50 : decode cX10_readsSpeech 50 = .ok (.iadd, 1) := by decide +kernel
theorem dX10_readsSpeech_51 : decode cX10_readsSpeech 51 = .ok (.iastore, 1) := by decide +kernel
theorem dX10_readsSpeech_52 : decode cX10_readsSpeech 52 = .ok (.aload_n 0, 1) := by decide +kernel
theorem dX10_readsSpeech_53 : decode cX10_readsSpeech 53 = .ok (.getfield 22, 3) := by decide +kernel
theorem dX10_readsSpeech_56 : decode cX10_readsSpeech 56 = .ok (.bipush 8, 2) := by decide +kernel
theorem dX10_readsSpeech_58 : decode cX10_readsSpeech 58 = .ok (.iload_n 2, 1) := by decide +kernel
theorem dX10_readsSpeech_59 : decode cX10_readsSpeech 59 = .ok (.iadd, 1) := by decide +kernel
theorem dX10_readsSpeech_60 : decode cX10_readsSpeech 60 = .ok (.iload_n 1, 1) := by decide +kernel
theorem dX10_readsSpeech_61 : decode cX10_readsSpeech 61 = .ok (.iastore, 1) := by decide +kernel
theorem dX10_readsSpeech_62 : decode cX10_readsSpeech 62 = .ok (.aload_n 0, 1) := by decide +kernel
theorem dX10_readsSpeech_63 : decode cX10_readsSpeech 63 = .ok (.aload_n 0, 1) := by decide +kernel
theorem dX10_readsSpeech_64 : decode cX10_readsSpeech 64 = .ok (.getfield 22, 3) := by decide +kernel
theorem dX10_readsSpeech_67 : decode cX10_readsSpeech 67 = .ok (.bipush 14, 2) := by decide +kernel
theorem dX10_readsSpeech_69 : decode cX10_readsSpeech 69 = .ok (.iload_n 2, 1) := by decide +kernel
theorem dX10_readsSpeech_70 : decode cX10_readsSpeech 70 = .ok (.iadd, 1) := by decide +kernel
theorem dX10_readsSpeech_71 : decode cX10_readsSpeech 71 = .ok (.iconst 0, 1) := by decide +kernel
theorem dX10_readsSpeech_72 : decode cX10_readsSpeech 72 = .ok (.aload_n 0, 1) := by decide +kernel
theorem dX10_readsSpeech_73 : decode cX10_readsSpeech 73 = .ok (.getfield 22, 3) := by decide +kernel
theorem dX10_readsSpeech_76 : decode cX10_readsSpeech 76 = .ok (.iconst 0, 1) := by decide +kernel
theorem dX10_readsSpeech_77 : decode cX10_readsSpeech 77 = .ok (.iaload, 1) := by decide +kernel
theorem dX10_readsSpeech_78 : decode cX10_readsSpeech 78 = .ok (.iconst 1, 1) := by decide +kernel
theorem dX10_readsSpeech_79 : decode cX10_readsSpeech 79 = .ok (.isub, 1) := by decide +kernel
theorem dX10_readsSpeech_80 : decode cX10_readsSpeech 80 = .ok (.invokevirtual 120, 3) := by decide +kernel
theorem dX10_readsSpeech_83 : decode cX10_readsSpeech 83 = .ok (.ifCond .eq 56, 3) := by decide +kernel
theorem dX10_readsSpeech_86 : decode cX10_readsSpeech 86 = .ok (.aload_n 0, 1) := by decide +kernel
theorem dX10_readsSpeech_87 : decode cX10_readsSpeech 87 = .ok (.bipush 44, 2) := by decide +kernel
theorem dX10_readsSpeech_89 : decode cX10_readsSpeech 89 = .ok (.invokevirtual 124, 3) := by decide +kernel
theorem dX10_readsSpeech_92 : decode cX10_readsSpeech 92 = .ok (.ifCond .eq 47, 3) := by decide +kernel
theorem dX10_readsSpeech_95 : decode cX10_readsSpeech 95 = .ok (.aload_n 0, 1) := by decide +kernel
theorem dX10_readsSpeech_96 : decode cX10_readsSpeech 96 = .ok (.aload_n 0, 1) := by decide +kernel
theorem dX10_readsSpeech_97 : decode cX10_readsSpeech 97 = .ok (.getfield 22, 3) := by decide +kernel
theorem dX10_readsSpeech_100 : decode cX10_readsSpeech 100 = .ok (.bipush 20, 2) := by decide +kernel
theorem dX10_readsSpeech_102 : decode cX10_readsSpeech 102 = .ok (.iload_n 2, 1) := by decide +kernel
theorem dX10_readsSpeech_103 : decode cX10_readsSpeech 103 = .ok (.iadd, 1) := by decide +kernel
theorem dX10_readsSpeech_104 : decode cX10_readsSpeech 104 = .ok (.iconst 1, 1) := by decide +kernel
theorem dX10_readsSpeech_105 : decode cX10_readsSpeech 105 = .ok (.bipush 30, 2) := by decide +kernel
theorem dX10_readsSpeech_107 : decode cX10_readsSpeech 107 = .ok (.invokevirtual 120, 3) := by decide +kernel
theorem dX10_readsSpeech_110 : decode cX10_readsSpeech 110 = .ok (.ifCond .eq 29, 3) := by decide +kernel
theorem dX10_readsSpeech_113 : decode cX10_readsSpeech 113 = .ok (.aload_n 0, 1) := by decide +kernel
theorem dX10_readsSpeech_114 : decode cX10_readsSpeech 114 = .ok (.bipush 44, 2) := by decide +kernel
theorem dX10_readsSpeech_116 : decode cX10_readsSpeech 116 = .ok (.invokevirtual 124, 3) := by decide +kernel
theorem dX10_readsSpeech_119 : decode cX10_readsSpeech 119 = .ok (.ifCond .eq 20, 3) := by decide +kernel
theorem dX10_readsSpeech_122 : decode cX10_readsSpeech 122 = .ok (.aload_n 0, 1) := by decide +kernel
theorem dX10_readsSpeech_123 : decode cX10_readsSpeech 123 = .ok (.aload_n 0, 1) := by decide +kernel
theorem dX10_readsSpeech_124 : decode cX10_readsSpeech 124 = .ok (.getfield 22, 3) := by decide +kernel
theorem dX10_readsSpeech_127 : decode cX10_readsSpeech 127 = .ok (.bipush 26, 2) := by decide +kernel
theorem dX10_readsSpeech_129 : decode cX10_readsSpeech 129 = .ok (.iload_n 2, 1) := by decide +kernel
theorem dX10_readsSpeech_130 : decode cX10_readsSpeech 130 = .ok (.iadd, 1) := by decide +kernel
theorem dX10_readsSpeech_131 : decode cX10_readsSpeech 131 = .ok (.iconst 0, 1) := by decide +kernel
theorem dX10_readsSpeech_132 : decode cX10_readsSpeech 132 = .ok (.iload_n 2, 1) := by decide +kernel
theorem dX10_readsSpeech_133 : decode cX10_readsSpeech 133 = .ok (.invokevirtual 120, 3) := by decide +kernel
theorem dX10_readsSpeech_136 : decode cX10_readsSpeech 136 = .ok (.ifCond .ne 5, 3) := by decide +kernel
theorem dX10_readsSpeech_139 : decode cX10_readsSpeech 139 = .ok (.iconst 0, 1) := by decide +kernel
theorem dX10_readsSpeech_140 : decode cX10_readsSpeech 140 = .ok (.ireturn, 1) := by decide +kernel
theorem dX10_readsSpeech_141 : decode cX10_readsSpeech 141 = .ok (.aload_n 0, 1) := by decide +kernel
theorem dX10_readsSpeech_142 : decode cX10_readsSpeech 142 = .ok (.getfield 22, 3) := by decide +kernel
theorem dX10_readsSpeech_145 : decode cX10_readsSpeech 145 = .ok (.bipush 26, 2) := by decide +kernel
theorem dX10_readsSpeech_147 : decode cX10_readsSpeech 147 = .ok (.iload_n 2, 1) := by decide +kernel
theorem dX10_readsSpeech_148 : decode cX10_readsSpeech 148 = .ok (.iadd, 1) := by decide +kernel
theorem dX10_readsSpeech_149 : decode cX10_readsSpeech 149 = .ok (.aload_n 0, 1) := by decide +kernel
theorem dX10_readsSpeech_150 : decode cX10_readsSpeech 150 = .ok (.getfield 22, 3) := by decide +kernel
theorem dX10_readsSpeech_153 : decode cX10_readsSpeech 153 = .ok (.bipush 26, 2) := by decide +kernel
theorem dX10_readsSpeech_155 : decode cX10_readsSpeech 155 = .ok (.iload_n 2, 1) := by decide +kernel
theorem dX10_readsSpeech_156 : decode cX10_readsSpeech 156 = .ok (.iadd, 1) := by decide +kernel
theorem dX10_readsSpeech_157 : decode cX10_readsSpeech 157 = .ok (.iaload, 1) := by decide +kernel
theorem dX10_readsSpeech_158 : decode cX10_readsSpeech 158 = .ok (.iload_n 2, 1) := by decide +kernel
theorem dX10_readsSpeech_159 : decode cX10_readsSpeech 159 = .ok (.if_icmp .ne 8, 3) := by decide +kernel
theorem dX10_readsSpeech_162 : decode cX10_readsSpeech 162 = .ok (.ldc 133, 2) := by decide +kernel
theorem dX10_readsSpeech_164 : decode cX10_readsSpeech 164 = .ok (.goto 12, 3) := by decide +kernel
theorem dX10_readsSpeech_167 : decode cX10_readsSpeech 167 = .ok (.aload_n 0, 1) := by decide +kernel
theorem dX10_readsSpeech_168 : decode cX10_readsSpeech 168 = .ok (.getfield 22, 3) := by decide +kernel
theorem dX10_readsSpeech_171 : decode cX10_readsSpeech 171 = .ok (.bipush 26, 2) := by decide +kernel
theorem dX10_readsSpeech_173 : decode cX10_readsSpeech 173 = .ok (.iload_n 2, 1) := by decide +kernel
theorem dX10_readsSpeech_174 : decode cX10_readsSpeech 174 = .ok (.iadd, 1) := by decide +kernel
theorem dX10_readsSpeech_175 : decode cX10_readsSpeech 175 = .ok (.iaload, 1) := by decide +kernel
theorem dX10_readsSpeech_176 : decode cX10_readsSpeech 176 = .ok (.iastore, 1) := by decide +kernel
theorem dX10_readsSpeech_177 : decode cX10_readsSpeech 177 = .ok (.aload_n 0, 1) := by decide +kernel
theorem dX10_readsSpeech_178 : decode cX10_readsSpeech 178 = .ok (.bipush 59, 2) := by decide +kernel
theorem dX10_readsSpeech_180 : decode cX10_readsSpeech 180 = .ok (.invokevirtual 124, 3) := by decide +kernel
theorem dX10_readsSpeech_183 : decode cX10_readsSpeech 183 = .ok (.ireturn, 1) := by decide +kernel
theorem dX10_readsAll_0 : decode cX10_readsAll 0 = .ok (.aload_n 0, 1) := by decide +kernel
theorem dX10_readsAll_1 : decode cX10_readsAll 1 = .ok (.iconst 0, 1) := by decide +kernel
theorem dX10_readsAll_2 : decode cX10_readsAll 2 = .ok (.putfield 93, 3) := by decide +kernel
theorem dX10_readsAll_5 : decode cX10_readsAll 5 = .ok (.aload_n 0, 1) := by decide +kernel
theorem dX10_readsAll_6 : decode cX10_readsAll 6 = .ok (.getfield 22, 3) := by decide +kernel
theorem dX10_readsAll_9 : decode cX10_readsAll 9 = .ok (.iconst 0, 1) := by decide +kernel
theorem dX10_readsAll_10 : decode cX10_readsAll 10 = .ok (.iconst 0, 1) := by decide +kernel
theorem dX10_readsAll_11 : decode cX10_readsAll 11 = .ok (.iastore, 1) := by decide +kernel
theorem dX10_readsAll_12 : decode cX10_readsAll 12 = .ok (.aload_n 0, 1) := by decide +kernel
theorem dX10_readsAll_13 : decode cX10_readsAll 13 = .ok (.getfield 22, 3) := by decide +kernel
theorem dX10_readsAll_16 : decode cX10_readsAll 16 = .ok (.iconst 1, 1) := by decide +kernel
theorem dX10_readsAll_17 : decode cX10_readsAll 17 = .ok (.iconst 0, 1) := by decide +kernel
theorem dX10_readsAll_18 : decode cX10_readsAll 18 = .ok (.iastore, 1) := by decide +kernel
theorem dX10_readsAll_19 : decode cX10_readsAll 19 = .ok (.aload_n 0, 1) := by decide +kernel
theorem dX10_readsAll_20 : decode cX10_readsAll 20 = .ok (.invokevirtual 114, 3) := by decide +kernel
theorem dX10_readsAll_23 : decode cX10_readsAll 23 = .ok (.aload_n 0, 1) := by decide +kernel
theorem dX10_readsAll_24 : decode cX10_readsAll 24 = .ok (.invokevirtual 134, 3) := by decide +kernel
theorem dX10_readsAll_27 : decode cX10_readsAll 27 = .ok (.ifCond .ne 5, 3) := by decide +kernel
theorem dX10_readsAll_30 : decode cX10_readsAll 30 = .ok (.iconst 0, 1) := by decide +kernel
theorem dX10_readsAll_31 : decode cX10_readsAll 31 = .ok (.ireturn, 1) := by decide +kernel
theorem dX10_readsAll_32 : decode cX10_readsAll 32 = .ok (.aload_n 0, 1) := by decide +kernel
theorem dX10_readsAll_33 : decode cX10_readsAll 33 = .ok (.invokevirtual 114, 3) := by decide +kernel
theorem dX10_readsAll_36 : decode cX10_readsAll 36 = .ok (.aload_n 0, 1) := by decide +kernel
theorem dX10_readsAll_37 : decode cX10_readsAll 37 = .ok (.getfield 102, 3) := by decide +kernel
theorem dX10_readsAll_40 : decode cX10_readsAll 40 = .ok (.bipush 122, 2) := by decide +kernel
theorem dX10_readsAll_42 : decode cX10_readsAll 42 = .ok (.if_icmp .ne 28, 3) := by decide +kernel
theorem dX10_readsAll_45 : decode cX10_readsAll 45 = .ok (.aload_n 0, 1) := by decide +kernel
theorem dX10_readsAll_46 : decode cX10_readsAll 46 = .ok (.getfield 22, 3) := by decide +kernel
theorem dX10_readsAll_49 : decode cX10_readsAll 49 = .ok (.iconst 1, 1) := by decide +kernel
theorem dX10_readsAll_50 : decode cX10_readsAll 50 = .ok (.iaload, 1) := by decide +kernel
theorem dX10_readsAll_51 : decode cX10_readsAll 51 = .ok (.ifCond .ne 19, 3) := by decide +kernel
theorem dX10_readsAll_54 : decode cX10_readsAll 54 = .ok (.aload_n 0, 1) := by decide +kernel
theorem dX10_readsAll_55 : decode cX10_readsAll 55 = .ok (.invokevirtual 138, 3) := by decide +kernel
theorem dX10_readsAll_58 : decode cX10_readsAll 58 = .ok (.ifCond .ne 5, 3) := by decide +kernel
theorem dX10_readsAll_61 : decode cX10_readsAll 61 = .ok (.iconst 0, 1) := by decide +kernel
theorem dX10_readsAll_62 : decode cX10_readsAll 62 = .ok (.ireturn, 1) := by decide +kernel
theorem dX10_readsAll_63 : decode cX10_readsAll 63 = .ok (.aload_n 0, 1) := by decide +kernel
theorem dX10_readsAll_64 : decode cX10_readsAll 64 = .ok (.invokevirtual 114, 3) := by decide +kernel
theorem dX10_readsAll_67 : decode cX10_readsAll 67 = .ok (.goto (-31), 3) := by decide +kernel
theorem dX10_readsAll_70 : decode cX10_readsAll 70 = .ok (.aload_n 0, 1) := by decide +kernel
theorem dX10_readsAll_71 : decode cX10_readsAll 71 = .ok (.getfield 22, 3) := by decide +kernel
theorem dX10_readsAll_74 : decode cX10_readsAll 74 = .ok (.iconst 0, 1) := by decide +kernel
theorem dX10_readsAll_75 : decode cX10_readsAll 75 = .ok (.iaload, 1) := by decide +kernel
theorem dX10_readsAll_76 : decode cX10_readsAll 76 = .ok (.ifCond .ne 9, 3) := by decide +kernel
theorem dX10_readsAll_79 : decode cX10_readsAll 79 = .ok (.aload_n 0, 1) := by decide +kernel
theorem dX10_readsAll_80 : decode cX10_readsAll 80 = .ok (.iconst 1, 1) := by decide +kernel
theorem dX10_readsAll_81 : decode cX10_readsAll 81 = .ok (.invokevirtual 117, 3) := by decide +kernel
theorem dX10_readsAll_84 : decode cX10_readsAll 84 = .ok (.ireturn, 1) := by decide +kernel
theorem dX10_readsAll_85 : decode cX10_readsAll 85 = .ok (.aload_n 0, 1) := by decide +kernel
theorem dX10_readsAll_86 : decode cX10_readsAll 86 = .ok (.getfield 102, 3) := by decide +kernel
theorem dX10_readsAll_89 : decode cX10_readsAll 89 = .ok (.iconst (-1), 1) := by decide +kernel
theorem dX10_readsAll_90 : decode cX10_readsAll 90 = .ok (.if_icmp .ne 12, 3) := by decide +kernel
theorem dX10_readsAll_93 : decode cX10_readsAll 93 = .ok (.aload_n 0, 1) := by decide +kernel
theorem dX10_readsAll_94 : decode cX10_readsAll 94 = .ok (.getfield 22, 3) := by decide +kernel
theorem dX10_readsAll_97 : decode cX10_readsAll 97 = .ok (.iconst 1, 1) := by decide +kernel
theorem dX10_readsAll_98 : decode cX10_readsAll 98 = .ok (.iaload, 1) := by decide +kernel
theorem dX10_readsAll_99 : decode cX10_readsAll 99 = .ok (.ifCond .ne 19, 3) := by decide +kernel
theorem dX10_readsAll_102 : decode cX10_readsAll 102 = .ok (.aload_n 0, 1) := by decide +kernel
theorem dX10_readsAll_103 : decode cX10_readsAll 103 = .ok (.invokevirtual 141, 3) := by decide +kernel
theorem dX10_readsAll_106 : decode cX10_readsAll 106 = .ok (.ifCond .ne 5, 3) := by decide +kernel
theorem dX10_readsAll_109 : decode cX10_readsAll 109 = .ok (.iconst 0, 1) := by decide +kernel
theorem dX10_readsAll_110 : decode cX10_readsAll 110 = .ok (.ireturn, 1) := by decide +kernel
theorem dX10_readsAll_111 : decode cX10_readsAll 111 = .ok (.aload_n 0, 1) := by decide +kernel
theorem dX10_readsAll_112 : decode cX10_readsAll 112 = .ok (.invokevirtual 114, 3) := by decide +kernel
theorem dX10_readsAll_115 : decode cX10_readsAll 115 = .ok (.goto (-30), 3) := by decide +kernel
theorem dX10_readsAll_118 : decode cX10_readsAll 118 = .ok (.iconst 1, 1) := by decide +kernel
theorem dX10_readsAll_119 : decode cX10_readsAll 119 = .ok (.ireturn, 1) := by decide +kernel
theorem dX10_duchy_0 : decode cX10_duchy 0 = .ok (.aload_n 0, 1) := by decide +kernel
theorem dX10_duchy_1 : decode cX10_duchy 1 = .ok (.invokevirtual 144, 3) := by decide +kernel
theorem dX10_duchy_4 : decode cX10_duchy 4 = .ok (.istore_n 1, 1) := by decide +kernel
theorem dX10_duchy_5 : decode cX10_duchy 5 = .ok (.aload_n 0, 1) := by decide +kernel
theorem dX10_duchy_6 : decode cX10_duchy 6 = .ok (.getfield 102, 3) := by decide +kernel
theorem dX10_duchy_9 : decode cX10_duchy 9 = .ok (.iconst (-1), 1) := by decide +kernel
theorem dX10_duchy_10 : decode cX10_duchy 10 = .ok (.if_icmp .ne 10, 3) := by decide +kernel
theorem dX10_duchy_13 : decode cX10_duchy 13 = .ok (.aload_n 0, 1) := by decide +kernel
theorem dX10_duchy_14 : decode cX10_duchy 14 = .ok (.getfield 89, 3) := by decide +kernel
theorem dX10_duchy_17 : decode cX10_duchy 17 = .ok (.goto 7, 3) := by decide +kernel
theorem dX10_duchy_20 : decode cX10_duchy 20 = .ok (.aload_n 0, 1) := by decide +kernel
theorem dX10_duchy_21 : decode cX10_duchy 21 = .ok (.getfield 96, 3) := by decide +kernel
theorem dX10_duchy_24 : decode cX10_duchy 24 = .ok (.istore_n 2, 1) := by decide +kernel
theorem dX10_duchy_25 : decode cX10_duchy 25 = .ok (.aload_n 0, 1) := by decide +kernel
theorem dX10_duchy_26 : decode cX10_duchy 26 = .ok (.iconst 0, 1) := by decide +kernel
theorem dX10_duchy_27 : decode cX10_duchy 27 = .ok (.putfield 89, 3) := by decide +kernel
theorem dX10_duchy_30 : decode cX10_duchy 30 = .ok (.iload_n 1, 1) := by decide +kernel
theorem dX10_duchy_31 : decode cX10_duchy 31 = .ok (.ifCond .ne 16, 3) := by decide +kernel
theorem dX10_duchy_34 : decode cX10_duchy 34 = .ok (.aload_n 0, 1) := by decide +kernel
theorem dX10_duchy_35 : decode cX10_duchy 35 = .ok (.aload_n 0, 1) := by decide +kernel
theorem dX10_duchy_36 : decode cX10_duchy 36 = .ok (.getfield 111, 3) := by decide +kernel
theorem dX10_duchy_39 : decode cX10_duchy 39 = .ok (.putfield 147, 3) := by decide +kernel
theorem dX10_duchy_42 : decode cX10_duchy 42 = .ok (.ldc 150, 2) := by decide +kernel
theorem dX10_duchy_44 : decode cX10_duchy 44 = .ok (.iload_n 2, 1) := by decide +kernel
theorem dX10_duchy_45 : decode cX10_duchy 45 = .ok (.isub, 1) := by decide +kernel
theorem dX10_duchy_46 : decode cX10_duchy 46 = .ok (.ireturn, 1) := by decide +kernel
theorem dX10_duchy_47 : decode cX10_duchy 47 = .ok (.aload_n 0, 1) := by decide +kernel
theorem dX10_duchy_48 : decode cX10_duchy 48 = .ok (.iconst 1, 1) := by decide +kernel
theorem dX10_duchy_49 : decode cX10_duchy 49 = .ok (.putfield 151, 3) := by decide +kernel
theorem dX10_duchy_52 : decode cX10_duchy 52 = .ok (.iconst 0, 1) := by decide +kernel
theorem dX10_duchy_53 : decode cX10_duchy 53 = .ok (.istore_n 3, 1) := by decide +kernel
theorem dX10_duchy_54 : decode cX10_duchy 54 = .ok (.iload_n 3, 1) := by decide +kernel
theorem dX10_duchy_55 : decode cX10_duchy 55 = .ok (.bipush 32, 2) := by decide +kernel
theorem dX10_duchy_57 : decode cX10_duchy 57 = .ok (.if_icmp .ge 21, 3) := by decide +kernel
theorem dX10_duchy_60 : decode cX10_duchy 60 = .ok (.aload_n 0, 1) := by decide +kernel
theorem dX10_duchy_61 : decode cX10_duchy 61 = .ok (.getfield 31, 3) := by decide +kernel
theorem dX10_duchy_64 : decode cX10_duchy 64 = .ok (.iload_n 3, 1) := by decide +kernel
theorem dX10_duchy_65 : decode cX10_duchy 65 = .ok (.aload_n 0, 1) := by decide +kernel
theorem dX10_duchy_66 : decode cX10_duchy 66 = .ok (.getfield 22, 3) := by decide +kernel
theorem dX10_duchy_69 : decode cX10_duchy 69 = .ok (.iload_n 3, 1) := by decide +kernel
theorem dX10_duchy_70 : decode cX10_duchy 70 = .ok (.iaload, 1) := by decide +kernel
theorem dX10_duchy_71 : decode cX10_duchy 71 = .ok (.iastore, 1) := by decide +kernel
theorem dX10_duchy_72 : decode cX10_duchy 72 = .ok (.iinc 3 1, 3) := by decide +kernel
theorem dX10_duchy_75 : decode cX10_duchy 75 = .ok (.goto (-21), 3) := by decide +kernel
theorem dX10_duchy_78 : decode cX10_duchy 78 = .ok (.iconst 0, 1) := by decide +kernel
theorem dX10_duchy_79 : decode cX10_duchy 79 = .ok (.istore_n 3, 1) := by decide +kernel
theorem dX10_duchy_80 : decode cX10_duchy 80 = .ok (.iload_n 3, 1) := by decide +kernel
theorem dX10_duchy_81 : decode cX10_duchy 81 = .ok (.bipush 21, 2) := by decide +kernel
theorem dX10_duchy_83 : decode cX10_duchy 83 = .ok (.if_icmp .ge 16, 3) := by decide +kernel
theorem dX10_duchy_86 : decode cX10_duchy 86 = .ok (.aload_n 0, 1) := by decide +kernel
theorem dX10_duchy_87 : decode cX10_duchy 87 = .ok (.getfield 34, 3) := by decide +kernel
theorem dX10_duchy_90 : decode cX10_duchy 90 = .ok (.iload_n 3, 1) := by decide +kernel
theorem dX10_duchy_91 : decode cX10_duchy 91 = .ok (.iconst 0, 1) := by decide +kernel
theorem dX10_duchy_92 : decode cX10_duchy 92 = .ok (.iastore, 1) := by decide +kernel
theorem dX10_duchy_93 : decode cX10_duchy 93 = .ok (.iinc 3 1, 3) := by decide +kernel
theorem dX10_duchy_96 : decode cX10_duchy 96 = .ok (.goto (-16), 3) := by decide +kernel
theorem dX10_duchy_99 : decode cX10_duchy 99 = .ok (.aload_n 0, 1) := by decide +kernel
theorem dX10_duchy_100 : decode cX10_duchy 100 = .ok (.getfield 34, 3) := by decide +kernel
theorem dX10_duchy_103 : decode cX10_duchy 103 = .ok (.iconst 1, 1) := by decide +kernel
theorem dX10_duchy_104 : decode cX10_duchy 104 = .ok (.aload_n 0, 1) := by decide +kernel
theorem dX10_duchy_105 : decode cX10_duchy 105 = .ok (.getfield 31, 3) := by decide +kernel
theorem dX10_duchy_108 : decode cX10_duchy 108 = .ok (.iconst 2, 1) := by decide +kernel
theorem dX10_duchy_109 : decode cX10_duchy 109 = .ok (.iaload, 1) := by decide +kernel
theorem dX10_duchy_110 : decode cX10_duchy 110 = .ok (.iastore, 1) := by decide +kernel
theorem dX10_duchy_111 : decode cX10_duchy 111 = .ok (.aload_n 0, 1) := by decide +kernel
theorem dX10_duchy_112 : decode cX10_duchy 112 = .ok (.getfield 34, 3) := by decide +kernel
theorem dX10_duchy_115 : decode cX10_duchy 115 = .ok (.iconst 3, 1) := by decide +kernel
theorem dX10_duchy_116 : decode cX10_duchy 116 = .ok (.aload_n 0, 1) := by decide +kernel
theorem dX10_duchy_117 : decode cX10_duchy 117 = .ok (.getfield 127, 3) := by decide +kernel
theorem dX10_duchy_120 : decode cX10_duchy 120 = .ok (.iastore, 1) := by decide +kernel
theorem dX10_duchy_121 : decode cX10_duchy 121 = .ok (.iconst 0, 1) := by decide +kernel
theorem dX10_duchy_122 : decode cX10_duchy 122 = .ok (.istore_n 3, 1) := by decide +kernel
theorem dX10_duchy_123 : decode cX10_duchy 123 = .ok (.iload_n 3, 1) := by decide +kernel
theorem dX10_duchy_124 : decode cX10_duchy 124 = .ok (.aload_n 0, 1) := by decide +kernel
theorem dX10_duchy_125 : decode cX10_duchy 125 = .ok (.getfield 31, 3) := by decide +kernel
theorem dX10_duchy_128 : decode cX10_duchy 128 = .ok (.iconst 0, 1) := by decide +kernel
theorem dX10_duchy_129 : decode cX10_duchy 129 = .ok (.iaload, 1) := by decide +kernel
theorem dX10_duchy_130 : decode cX10_duchy 130 = .ok (.if_icmp .ge 23, 3) := by decide +kernel
theorem dX10_duchy_133 : decode cX10_duchy 133 = .ok (.aload_n 0, 1) := by decide +kernel
theorem dX10_duchy_134 : decode cX10_duchy 134 = .ok (.getfield 34, 3) := by decide +kernel
theorem dX10_duchy_137 : decode cX10_duchy 137 = .ok (.iconst 5, 1) := by decide +kernel
theorem dX10_duchy_138 : decode cX10_duchy 138 = .ok (.iload_n 3, 1) := by decide +kernel
theorem dX10_duchy_139 : decode cX10_duchy 139 = .ok (.iadd, 1) := by decide +kernel
theorem dX10_duchy_140 : decode cX10_duchy 140 = .ok (.aload_n 0, 1) := by decide +kernel
theorem dX10_duchy_141 : decode cX10_duchy 141 = .ok (.getfield 25, 3) := by decide +kernel
theorem dX10_duchy_144 : decode cX10_duchy 144 = .ok (.iload_n 3, 1) := by decide +kernel
theorem dX10_duchy_145 : decode cX10_duchy 145 = .ok (.iaload, 1) := by decide +kernel
theorem dX10_duchy_146 : decode cX10_duchy 146 = .ok (.iastore, 1) := by decide +kernel
theorem dX10_duchy_147 : decode cX10_duchy 147 = .ok (.iinc 3 1, 3) := by decide +kernel
theorem dX10_duchy_150 : decode cX10_duchy 150 = .ok (.goto (-27), 3) := by decide +kernel
theorem dX10_duchy_153 : decode cX10_duchy 153 = .ok (.aload_n 0, 1) := by decide +kernel
theorem dX10_duchy_154 : decode cX10_duchy 154 = .ok (.iconst 0, 1) := by decide +kernel
theorem dX10_duchy_155 : decode cX10_duchy 155 = .ok (.putfield 155, 3) := by decide +kernel
theorem dX10_duchy_158 : decode cX10_duchy 158 = .ok (.aload_n 0, 1) := by decide +kernel
theorem dX10_duchy_159 : decode cX10_duchy 159 = .ok (.getfield 31, 3) := by decide +kernel
theorem dX10_duchy_162 : decode cX10_duchy 162 = .ok (.iconst 1, 1) := by decide +kernel
theorem dX10_duchy_163 : decode cX10_duchy 163 = .ok (.iaload, 1) := by decide +kernel
theorem dX10_duchy_164 : decode cX10_duchy 164 = .ok (.ireturn, 1) := by decide +kernel
theorem dX10_fault_0 : decode cX10_fault 0 = .ok (.aload_n 0, 1) := by decide +kernel
theorem dX10_fault_1 : decode cX10_fault 1 = .ok (.getfield 147, 3) := by decide +kernel
theorem dX10_fault_4 : decode cX10_fault 4 = .ok (.ireturn, 1) := by decide +kernel
theorem dX10_isPerson_0 : decode cX10_isPerson 0 = .ok (.iload_n 1, 1) := by decide +kernel
theorem dX10_isPerson_1 : decode cX10_isPerson 1 = .ok (.iconst 0, 1) := by decide +kernel
theorem dX10_isPerson_2 : decode cX10_isPerson 2 = .ok (.aload_n 0, 1) := by decide +kernel
theorem dX10_isPerson_3 : decode cX10_isPerson 3 = .ok (.getfield 31, 3) := by decide +kernel
theorem dX10_isPerson_6 : decode cX10_isPerson 6 = .ok (.iconst 0, 1) := by decide +kernel
theorem dX10_isPerson_7 : decode cX10_isPerson 7 = .ok (.iaload, 1) := by decide +kernel
theorem dX10_isPerson_8 : decode cX10_isPerson 8 = .ok (.iconst 1, 1) := by decide +kernel
theorem dX10_isPerson_9 : decode cX10_isPerson 9 = .ok (.isub, 1) := by decide +kernel
theorem dX10_isPerson_10 : decode cX10_isPerson 10 = .ok (.invokestatic 70, 3) := by decide +kernel
theorem dX10_isPerson_13 : decode cX10_isPerson 13 = .ok (.ireturn, 1) := by decide +kernel
theorem dX10_isSpeech_0 : decode cX10_isSpeech 0 = .ok (.iload_n 1, 1) := by decide +kernel
theorem dX10_isSpeech_1 : decode cX10_isSpeech 1 = .ok (.iconst 0, 1) := by decide +kernel
theorem dX10_isSpeech_2 : decode cX10_isSpeech 2 = .ok (.aload_n 0, 1) := by decide +kernel
theorem dX10_isSpeech_3 : decode cX10_isSpeech 3 = .ok (.getfield 31, 3) := by decide +kernel
theorem dX10_isSpeech_6 : decode cX10_isSpeech 6 = .ok (.iconst 1, 1) := by decide +kernel
theorem dX10_isSpeech_7 : decode cX10_isSpeech 7 = .ok (.iaload, 1) := by decide +kernel
theorem dX10_isSpeech_8 : decode cX10_isSpeech 8 = .ok (.iconst 1, 1) := by decide +kernel
theorem dX10_isSpeech_9 : decode cX10_isSpeech 9 = .ok (.isub, 1) := by decide +kernel
theorem dX10_isSpeech_10 : decode cX10_isSpeech 10 = .ok (.invokestatic 70, 3) := by decide +kernel
theorem dX10_isSpeech_13 : decode cX10_isSpeech 13 = .ok (.ireturn, 1) := by decide +kernel
theorem dX10_all_0 : decode cX10_all 0 = .ok (.iconst 1, 1) := by decide +kernel
theorem dX10_all_1 : decode cX10_all 1 = .ok (.aload_n 0, 1) := by decide +kernel
theorem dX10_all_2 : decode cX10_all 2 = .ok (.getfield 31, 3) := by decide +kernel
theorem dX10_all_5 : decode cX10_all 5 = .ok (.iconst 0, 1) := by decide +kernel
theorem dX10_all_6 : decode cX10_all 6 = .ok (.iaload, 1) := by decide +kernel
theorem dX10_all_7 : decode cX10_all 7 = .ok (.ishl, 1) := by decide +kernel
theorem dX10_all_8 : decode cX10_all 8 = .ok (.iconst 1, 1) := by decide +kernel
theorem dX10_all_9 : decode cX10_all 9 = .ok (.isub, 1) := by decide +kernel
theorem dX10_all_10 : decode cX10_all 10 = .ok (.ireturn, 1) := by decide +kernel
theorem dX10_words_0 : decode cX10_words 0 = .ok (.aload_n 0, 1) := by decide +kernel
theorem dX10_words_1 : decode cX10_words 1 = .ok (.getfield 31, 3) := by decide +kernel
theorem dX10_words_4 : decode cX10_words 4 = .ok (.bipush 20, 2) := by decide +kernel
theorem dX10_words_6 : decode cX10_words 6 = .ok (.iload_n 1, 1) := by decide +kernel
theorem dX10_words_7 : decode cX10_words 7 = .ok (.iadd, 1) := by decide +kernel
theorem dX10_words_8 : decode cX10_words 8 = .ok (.iaload, 1) := by decide +kernel
theorem dX10_words_9 : decode cX10_words 9 = .ok (.istore_n 2, 1) := by decide +kernel
theorem dX10_words_10 : decode cX10_words 10 = .ok (.aload_n 0, 1) := by decide +kernel
theorem dX10_words_11 : decode cX10_words 11 = .ok (.getfield 31, 3) := by decide +kernel
theorem dX10_words_14 : decode cX10_words 14 = .ok (.bipush 8, 2) := by decide +kernel
theorem dX10_words_16 : decode cX10_words 16 = .ok (.iload_n 1, 1) := by decide +kernel
theorem dX10_words_17 : decode cX10_words 17 = .ok (.iadd, 1) := by decide +kernel
theorem dX10_words_18 : decode cX10_words 18 = .ok (.iaload, 1) := by decide +kernel
theorem dX10_words_19 : decode cX10_words 19 = .ok (.tableswitch 37 1 3 #[25, 27, 33], 25) := by decide +kernel
theorem dX10_words_44 : decode cX10_words 44 = .ok (.iload_n 2, 1) := by decide +kernel
theorem dX10_words_45 : decode cX10_words 45 = .ok (.ireturn, 1) := by decide +kernel
theorem dX10_words_46 : decode cX10_words 46 = .ok (.iload_n 2, 1) := by decide +kernel
theorem dX10_words_47 : decode cX10_words 47 = .ok (.iconst 1, 1) := by decide +kernel
theorem dX10_words_48 : decode cX10_words 48 = .ok (.iadd, 1) := by decide +kernel
theorem dX10_words_49 : decode cX10_words 49 = .ok (.iconst 2, 1) := by decide +kernel
theorem dX10_words_50 : decode cX10_words 50 = .ok (.idiv, 1) := by decide +kernel
theorem dX10_words_51 : decode cX10_words 51 = .ok (.ireturn, 1) := by decide +kernel
theorem dX10_words_52 : decode cX10_words 52 = .ok (.iconst 2, 1) := by decide +kernel
theorem dX10_words_53 : decode cX10_words 53 = .ok (.iload_n 2, 1) := by decide +kernel
theorem dX10_words_54 : decode cX10_words 54 = .ok (.imul, 1) := by decide +kernel
theorem dX10_words_55 : decode cX10_words 55 = .ok (.ireturn, 1) := by decide +kernel
theorem dX10_words_56 : decode cX10_words 56 = .ok (.iconst 0, 1) := by decide +kernel
theorem dX10_words_57 : decode cX10_words 57 = .ok (.ireturn, 1) := by decide +kernel
theorem dX10_rest_0 : decode cX10_rest 0 = .ok (.aload_n 0, 1) := by decide +kernel
theorem dX10_rest_1 : decode cX10_rest 1 = .ok (.iload_n 2, 1) := by decide +kernel
theorem dX10_rest_2 : decode cX10_rest 2 = .ok (.invokevirtual 158, 3) := by decide +kernel
theorem dX10_rest_5 : decode cX10_rest 5 = .ok (.aload_n 1, 1) := by decide +kernel
theorem dX10_rest_6 : decode cX10_rest 6 = .ok (.bipush 10, 2) := by decide +kernel
theorem dX10_rest_8 : decode cX10_rest 8 = .ok (.aload_n 0, 1) := by decide +kernel
theorem dX10_rest_9 : decode cX10_rest 9 = .ok (.getfield 31, 3) := by decide +kernel
theorem dX10_rest_12 : decode cX10_rest 12 = .ok (.bipush 14, 2) := by decide +kernel
theorem dX10_rest_14 : decode cX10_rest 14 = .ok (.iload_n 2, 1) := by decide +kernel
theorem dX10_rest_15 : decode cX10_rest 15 = .ok (.iadd, 1) := by decide +kernel
theorem dX10_rest_16 : decode cX10_rest 16 = .ok (.iaload, 1) := by decide +kernel
theorem dX10_rest_17 : decode cX10_rest 17 = .ok (.iadd, 1) := by decide +kernel
theorem dX10_rest_18 : decode cX10_rest 18 = .ok (.iaload, 1) := by decide +kernel
theorem dX10_rest_19 : decode cX10_rest 19 = .ok (.isub, 1) := by decide +kernel
theorem dX10_rest_20 : decode cX10_rest 20 = .ok (.istore_n 3, 1) := by decide +kernel
theorem dX10_rest_21 : decode cX10_rest 21 = .ok (.iload_n 3, 1) := by decide +kernel
theorem dX10_rest_22 : decode cX10_rest 22 = .ok (.ifCond .ge 7, 3) := by decide +kernel
theorem dX10_rest_25 : decode cX10_rest 25 = .ok (.iconst 0, 1) := by decide +kernel
theorem dX10_rest_26 : decode cX10_rest 26 = .ok (.goto 4, 3) := by decide +kernel
theorem dX10_rest_29 : decode cX10_rest 29 = .ok (.iload_n 3, 1) := by decide +kernel
theorem dX10_rest_30 : decode cX10_rest 30 = .ok (.ireturn, 1) := by decide +kernel
theorem dX10_costs_0 : decode cX10_costs 0 = .ok (.aload_n 0, 1) := by decide +kernel
theorem dX10_costs_1 : decode cX10_costs 1 = .ok (.getfield 31, 3) := by decide +kernel
theorem dX10_costs_4 : decode cX10_costs 4 = .ok (.bipush 8, 2) := by decide +kernel
theorem dX10_costs_6 : decode cX10_costs 6 = .ok (.iload_n 2, 1) := by decide +kernel
theorem dX10_costs_7 : decode cX10_costs 7 = .ok (.iadd, 1) := by decide +kernel
theorem dX10_costs_8 : decode cX10_costs 8 = .ok (.iaload, 1) := by decide +kernel
theorem dX10_costs_9 : decode cX10_costs 9 = .ok (.iconst 4, 1) := by decide +kernel
theorem dX10_costs_10 : decode cX10_costs 10 = .ok (.if_icmp .ne 7, 3) := by decide +kernel
theorem dX10_costs_13 : decode cX10_costs 13 = .ok (.iconst 1, 1) := by decide +kernel
theorem dX10_costs_14 : decode cX10_costs 14 = .ok (.goto 31, 3) := by decide +kernel
theorem dX10_costs_17 : decode cX10_costs 17 = .ok (.aload_n 0, 1) := by decide +kernel
theorem dX10_costs_18 : decode cX10_costs 18 = .ok (.getfield 31, 3) := by decide +kernel
theorem dX10_costs_21 : decode cX10_costs 21 = .ok (.bipush 8, 2) := by decide +kernel
theorem dX10_costs_23 : decode cX10_costs 23 = .ok (.iload_n 2, 1) := by decide +kernel
theorem dX10_costs_24 : decode cX10_costs 24 = .ok (.iadd, 1) := by decide +kernel
theorem dX10_costs_25 : decode cX10_costs 25 = .ok (.iaload, 1) := by decide +kernel
theorem dX10_costs_26 : decode cX10_costs 26 = .ok (.iconst 5, 1) := by decide +kernel
theorem dX10_costs_27 : decode cX10_costs 27 = .ok (.if_icmp .ne 17, 3) := by decide +kernel
theorem dX10_costs_30 : decode cX10_costs 30 = .ok (.iconst 1, 1) := by decide +kernel
theorem dX10_costs_31 : decode cX10_costs 31 = .ok (.aload_n 0, 1) := by decide +kernel
theorem dX10_costs_32 : decode cX10_costs 32 = .ok (.getfield 31, 3) := by decide +kernel
theorem dX10_costs_35 : decode cX10_costs 35 = .ok (.bipush 20, 2) := by decide +kernel
theorem dX10_costs_37 : decode cX10_costs 37 = .ok (.iload_n 2, 1) := by decide +kernel
theorem dX10_costs_38 : decode cX10_costs 38 = .ok (.iadd, 1) := by decide +kernel
theorem dX10_costs_39 : decode cX10_costs 39 = .ok (.iaload, 1) := by decide +kernel
theorem dX10_costs_40 : decode cX10_costs 40 = .ok (.iadd, 1) := by decide +kernel
theorem dX10_costs_41 : decode cX10_costs 41 = .ok (.goto 4, 3) := by decide +kernel
theorem dX10_costs_44 : decode cX10_costs 44 = .ok (.iconst 0, 1) := by decide +kernel
theorem dX10_costs_45 : decode cX10_costs 45 = .ok (.istore_n 3, 1) := by decide +kernel
theorem dX10_costs_46 : decode cX10_costs 46 = .ok (.aload_n 0, 1) := by decide +kernel
theorem dX10_costs_47 : decode cX10_costs 47 = .ok (.aload_n 1, 1) := by decide +kernel
theorem dX10_costs_48 : decode cX10_costs 48 = .ok (.iload_n 2, 1) := by decide +kernel
theorem dX10_costs_49 : decode cX10_costs 49 = .ok (.invokevirtual 161, 3) := by decide +kernel
theorem dX10_costs_52 : decode cX10_costs 52 = .ok (.aload_n 1, 1) := by decide +kernel
theorem dX10_costs_53 : decode cX10_costs 53 = .ok (.iconst 3, 1) := by decide +kernel
theorem dX10_costs_54 : decode cX10_costs 54 = .ok (.iaload, 1) := by decide +kernel
theorem dX10_costs_55 : decode cX10_costs 55 = .ok (.imul, 1) := by decide +kernel
theorem dX10_costs_56 : decode cX10_costs 56 = .ok (.iload_n 3, 1) := by decide +kernel
theorem dX10_costs_57 : decode cX10_costs 57 = .ok (.iadd, 1) := by decide +kernel
theorem dX10_costs_58 : decode cX10_costs 58 = .ok (.ireturn, 1) := by decide +kernel
theorem dX10_can_0 : decode cX10_can 0 = .ok (.aload_n 1, 1) := by decide +kernel
theorem dX10_can_1 : decode cX10_can 1 = .ok (.iconst 4, 1) := by decide +kernel
theorem dX10_can_2 : decode cX10_can 2 = .ok (.iaload, 1) := by decide +kernel
theorem dX10_can_3 : decode cX10_can 3 = .ok (.iload_n 2, 1) := by decide +kernel
theorem dX10_can_4 : decode cX10_can 4 = .ok (.invokestatic 165, 3) := by decide +kernel
theorem dX10_can_7 : decode cX10_can 7 = .ok (.ifCond .ne 41, 3) := by decide +kernel
theorem dX10_can_10 : decode cX10_can 10 = .ok (.aload_n 0, 1) := by decide +kernel
theorem dX10_can_11 : decode cX10_can 11 = .ok (.aload_n 1, 1) := by decide +kernel
theorem dX10_can_12 : decode cX10_can 12 = .ok (.iload_n 2, 1) := by decide +kernel
theorem dX10_can_13 : decode cX10_can 13 = .ok (.invokevirtual 161, 3) := by decide +kernel
theorem dX10_can_16 : decode cX10_can 16 = .ok (.aload_n 1, 1) := by decide +kernel
theorem dX10_can_17 : decode cX10_can 17 = .ok (.iconst 1, 1) := by decide +kernel
theorem dX10_can_18 : decode cX10_can 18 = .ok (.iaload, 1) := by decide +kernel
theorem dX10_can_19 : decode cX10_can 19 = .ok (.if_icmp .gt 29, 3) := by decide +kernel
theorem dX10_can_22 : decode cX10_can 22 = .ok (.aload_n 0, 1) := by decide +kernel
theorem dX10_can_23 : decode cX10_can 23 = .ok (.aload_n 1, 1) := by decide +kernel
theorem dX10_can_24 : decode cX10_can 24 = .ok (.iload_n 2, 1) := by decide +kernel
theorem dX10_can_25 : decode cX10_can 25 = .ok (.invokevirtual 169, 3) := by decide +kernel
theorem dX10_can_28 : decode cX10_can 28 = .ok (.aload_n 1, 1) := by decide +kernel
theorem dX10_can_29 : decode cX10_can 29 = .ok (.iconst 5, 1) := by decide +kernel
theorem dX10_can_30 : decode cX10_can 30 = .ok (.aload_n 0, 1) := by decide +kernel
theorem dX10_can_31 : decode cX10_can 31 = .ok (.getfield 31, 3) := by decide +kernel
theorem dX10_can_34 : decode cX10_can 34 = .ok (.bipush 14, 2) := by decide +kernel
theorem dX10_can_36 : decode cX10_can 36 = .ok (.iload_n 2, 1) := by decide +kernel
theorem dX10_can_37 : decode cX10_can 37 = .ok (.iadd, 1) := by decide +kernel
theorem dX10_can_38 : decode cX10_can 38 = .ok (.iaload, 1) := by decide +kernel
theorem dX10_can_39 : decode cX10_can 39 = .ok (.iadd, 1) := by decide +kernel
theorem dX10_can_40 : decode cX10_can 40 = .ok (.iaload, 1) := by decide +kernel
theorem dX10_can_41 : decode cX10_can 41 = .ok (.if_icmp .gt 7, 3) := by decide +kernel
theorem dX10_can_44 : decode cX10_can 44 = .ok (.iconst 1, 1) := by decide +kernel
theorem dX10_can_45 : decode cX10_can 45 = .ok (.goto 4, 3) := by decide +kernel
theorem dX10_can_48 : decode cX10_can 48 = .ok (.iconst 0, 1) := by decide +kernel
theorem dX10_can_49 : decode cX10_can 49 = .ok (.ireturn, 1) := by decide +kernel
theorem dX10_beside_0 : decode cX10_beside 0 = .ok (.aload_n 0, 1) := by decide +kernel
theorem dX10_beside_1 : decode cX10_beside 1 = .ok (.getfield 31, 3) := by decide +kernel
theorem dX10_beside_4 : decode cX10_beside 4 = .ok (.iconst 0, 1) := by decide +kernel
theorem dX10_beside_5 : decode cX10_beside 5 = .ok (.iaload, 1) := by decide +kernel
theorem dX10_beside_6 : decode cX10_beside 6 = .ok (.istore_n 3, 1) := by decide +kernel
theorem dX10_beside_7 : decode cX10_beside 7 = .ok (.iload_n 1, 1) := by decide +kernel
theorem dX10_beside_8 : decode cX10_beside 8 = .ok (.istore 4, 2) := by decide +kernel
theorem dX10_beside_10 : decode cX10_beside 10 = .ok (.iconst 0, 1) := by decide +kernel
theorem dX10_beside_11 : decode cX10_beside 11 = .ok (.istore 5, 2) := by decide +kernel
theorem dX10_beside_13 : decode cX10_beside 13 = .ok (.iload 5, 2) := by decide +kernel
theorem dX10_beside_15 : decode cX10_beside 15 = .ok (.iload_n 3, 1) := by decide +kernel
theorem dX10_beside_16 : decode cX10_beside 16 = .ok (.if_icmp .ge 46, 3) := by decide +kernel
theorem dX10_beside_19 : decode cX10_beside 19 = .ok (.iload 4, 2) := by decide +kernel
theorem dX10_beside_21 : decode cX10_beside 21 = .ok (.iload_n 1, 1) := by decide +kernel
theorem dX10_beside_22 : decode cX10_beside 22 = .ok (.iload 5, 2) := by decide +kernel
theorem dX10_beside_24 : decode cX10_beside 24 = .ok (.invokestatic 165, 3) := by decide +kernel
theorem dX10_beside_27 : decode cX10_beside 27 = .ok (.ifCond .eq 25, 3) := by decide +kernel
theorem dX10_beside_30 : decode cX10_beside 30 = .ok (.iconst 1, 1) := by decide +kernel
theorem dX10_beside_31 : decode cX10_beside 31 = .ok (.iload 5, 2) := by decide +kernel
theorem dX10_beside_33 : decode cX10_beside 33 = .ok (.iconst 1, 1) := by decide +kernel
theorem dX10_beside_34 : decode cX10_beside 34 = .ok (.iadd, 1) := by decide +kernel
theorem dX10_beside_35 : decode cX10_beside 35 = .ok (.iload_n 3, 1) := by decide +kernel
theorem dX10_beside_36 : decode cX10_beside 36 = .ok (.irem, 1) := by decide +kernel
theorem dX10_beside_37 : decode cX10_beside 37 = .ok (.ishl, 1) := by decide +kernel
theorem dX10_beside_38 : decode cX10_beside 38 = .ok (.iconst 1, 1) := by decide +kernel
theorem dX10_beside_39 : decode cX10_beside 39 = .ok (.iload 5, 2) := by decide +kernel
theorem dX10_beside_41 : decode cX10_beside 41 = .ok (.iload_n 3, 1) := by decide +kernel
theorem dX10_beside_42 : decode cX10_beside 42 = .ok (.iadd, 1) := by decide +kernel
theorem dX10_beside_43 : decode cX10_beside 43 = .ok (.iconst 1, 1) := by decide +kernel
theorem dX10_beside_44 : decode cX10_beside 44 = .ok (.isub, 1) := by decide +kernel
theorem dX10_beside_45 : decode cX10_beside 45 = .ok (.iload_n 3, 1) := by decide +kernel
theorem dX10_beside_46 : decode cX10_beside 46 = .ok (.irem, 1) := by decide +kernel
theorem dX10_beside_47 : decode cX10_beside 47 = .ok (.ishl, 1) := by decide +kernel
theorem dX10_beside_48 : decode cX10_beside 48 = .ok (.ior, 1) := by decide +kernel
theorem dX10_beside_49 : decode cX10_beside 49 = .ok (.goto 4, 3) := by decide +kernel
theorem dX10_beside_52 : decode cX10_beside 52 = .ok (.iconst 0, 1) := by decide +kernel
theorem dX10_beside_53 : decode cX10_beside 53 = .ok (.ior, 1) := by decide +kernel
theorem dX10_beside_54 : decode cX10_beside 54 = .ok (.istore 4, 2) := by decide +kernel
theorem dX10_beside_56 : decode cX10_beside 56 = .ok (.iinc 5 1, 3) := by decide +kernel
theorem dX10_beside_59 : decode cX10_beside 59 = .ok (.goto (-46), 3) := by decide +kernel
theorem dX10_beside_62 : decode cX10_beside 62 = .ok (.iload_n 1, 1) := by decide +kernel
theorem dX10_beside_63 : decode cX10_beside 63 = .ok (.iload 4, 2) := by decide +kernel
theorem dX10_beside_65 : decode cX10_beside 65 = .ok (.iload_n 2, 1) := by decide +kernel
theorem dX10_beside_66 : decode cX10_beside 66 = .ok (.iconst (-1), 1) := by decide +kernel
theorem dX10_beside_67 : decode cX10_beside 67 = .ok (.ixor, 1) := by decide +kernel
theorem dX10_beside_68 : decode cX10_beside 68 = .ok (.iand, 1) := by decide +kernel
theorem dX10_beside_69 : decode cX10_beside 69 = .ok (.ior, 1) := by decide +kernel
theorem dX10_beside_70 : decode cX10_beside 70 = .ok (.ireturn, 1) := by decide +kernel
theorem dX10_firstTo_0 : decode cX10_firstTo 0 = .ok (.iload_n 1, 1) := by decide +kernel
theorem dX10_firstTo_1 : decode cX10_firstTo 1 = .ok (.iconst 4, 1) := by decide +kernel
theorem dX10_firstTo_2 : decode cX10_firstTo 2 = .ok (.if_icmp .eq 8, 3) := by decide +kernel
theorem dX10_firstTo_5 : decode cX10_firstTo 5 = .ok (.iload_n 1, 1) := by decide +kernel
theorem dX10_firstTo_6 : decode cX10_firstTo 6 = .ok (.iconst 5, 1) := by decide +kernel
theorem dX10_firstTo_7 : decode cX10_firstTo 7 = .ok (.if_icmp .ne 14, 3) := by decide +kernel
theorem dX10_firstTo_10 : decode cX10_firstTo 10 = .ok (.aload_n 0, 1) := by decide +kernel
theorem dX10_firstTo_11 : decode cX10_firstTo 11 = .ok (.iconst 1, 1) := by decide +kernel
theorem dX10_firstTo_12 : decode cX10_firstTo 12 = .ok (.iload_n 2, 1) := by decide +kernel
theorem dX10_firstTo_13 : decode cX10_firstTo 13 = .ok (.ishl, 1) := by decide +kernel
theorem dX10_firstTo_14 : decode cX10_firstTo 14 = .ok (.iload_n 3, 1) := by decide +kernel
theorem dX10_firstTo_15 : decode cX10_firstTo 15 = .ok (.invokevirtual 172, 3) := by decide +kernel
theorem dX10_firstTo_18 : decode cX10_firstTo 18 = .ok (.goto 7, 3) := by decide +kernel
theorem dX10_firstTo_21 : decode cX10_firstTo 21 = .ok (.aload_n 0, 1) := by decide +kernel
theorem dX10_firstTo_22 : decode cX10_firstTo 22 = .ok (.invokevirtual 176, 3) := by decide +kernel
theorem dX10_firstTo_25 : decode cX10_firstTo 25 = .ok (.ireturn, 1) := by decide +kernel
theorem dX10_onward_0 : decode cX10_onward 0 = .ok (.iload_n 1, 1) := by decide +kernel
theorem dX10_onward_1 : decode cX10_onward 1 = .ok (.iconst 4, 1) := by decide +kernel
theorem dX10_onward_2 : decode cX10_onward 2 = .ok (.if_icmp .eq 8, 3) := by decide +kernel
theorem dX10_onward_5 : decode cX10_onward 5 = .ok (.iload_n 1, 1) := by decide +kernel
theorem dX10_onward_6 : decode cX10_onward 6 = .ok (.iconst 5, 1) := by decide +kernel
theorem dX10_onward_7 : decode cX10_onward 7 = .ok (.if_icmp .ne 12, 3) := by decide +kernel
theorem dX10_onward_10 : decode cX10_onward 10 = .ok (.aload_n 0, 1) := by decide +kernel
theorem dX10_onward_11 : decode cX10_onward 11 = .ok (.iload_n 2, 1) := by decide +kernel
theorem dX10_onward_12 : decode cX10_onward 12 = .ok (.iload_n 3, 1) := by decide +kernel
theorem dX10_onward_13 : decode cX10_onward 13 = .ok (.invokevirtual 172, 3) := by decide +kernel
theorem dX10_onward_16 : decode cX10_onward 16 = .ok (.goto 4, 3) := by decide +kernel
theorem dX10_onward_19 : decode cX10_onward 19 = .ok (.iload_n 2, 1) := by decide +kernel
theorem dX10_onward_20 : decode cX10_onward 20 = .ok (.istore 4, 2) := by decide +kernel
theorem dX10_onward_22 : decode cX10_onward 22 = .ok (.iload_n 1, 1) := by decide +kernel
theorem dX10_onward_23 : decode cX10_onward 23 = .ok (.iconst 5, 1) := by decide +kernel
theorem dX10_onward_24 : decode cX10_onward 24 = .ok (.if_icmp .ne 13, 3) := by decide +kernel
theorem dX10_onward_27 : decode cX10_onward 27 = .ok (.aload_n 0, 1) := by decide +kernel
theorem dX10_onward_28 : decode cX10_onward 28 = .ok (.iload 4, 2) := by decide +kernel
theorem dX10_onward_30 : decode cX10_onward 30 = .ok (.iload_n 3, 1) := by decide +kernel
theorem dX10_onward_31 : decode cX10_onward 31 = .ok (.invokevirtual 172, 3) := by decide +kernel
theorem dX10_onward_34 : decode cX10_onward 34 = .ok (.goto 5, 3) := by decide +kernel
theorem dX10_onward_37 : decode cX10_onward 37 = .ok (.iload 4, 2) := by decide +kernel
theorem dX10_onward_39 : decode cX10_onward 39 = .ok (.ireturn, 1) := by decide +kernel
theorem dX10_says_0 : decode cX10_says 0 = .ok (.aload_n 0, 1) := by decide +kernel
theorem dX10_says_1 : decode cX10_says 1 = .ok (.getfield 31, 3) := by decide +kernel
theorem dX10_says_4 : decode cX10_says 4 = .ok (.bipush 14, 2) := by decide +kernel
theorem dX10_says_6 : decode cX10_says 6 = .ok (.iload_n 2, 1) := by decide +kernel
theorem dX10_says_7 : decode cX10_says 7 = .ok (.iadd, 1) := by decide +kernel
theorem dX10_says_8 : decode cX10_says 8 = .ok (.iaload, 1) := by decide +kernel
theorem dX10_says_9 : decode cX10_says 9 = .ok (.istore_n 3, 1) := by decide +kernel
theorem dX10_says_10 : decode cX10_says 10 = .ok (.aload_n 0, 1) := by decide +kernel
theorem dX10_says_11 : decode cX10_says 11 = .ok (.aload_n 1, 1) := by decide +kernel
theorem dX10_says_12 : decode cX10_says 12 = .ok (.iload_n 2, 1) := by decide +kernel
theorem dX10_says_13 : decode cX10_says 13 = .ok (.invokevirtual 161, 3) := by decide +kernel
theorem dX10_says_16 : decode cX10_says 16 = .ok (.istore 4, 2) := by decide +kernel
theorem dX10_says_18 : decode cX10_says 18 = .ok (.aload_n 1, 1) := by decide +kernel
theorem dX10_says_19 : decode cX10_says 19 = .ok (.iconst 5, 1) := by decide +kernel
theorem dX10_says_20 : decode cX10_says 20 = .ok (.iload_n 3, 1) := by decide +kernel
theorem dX10_says_21 : decode cX10_says 21 = .ok (.iadd, 1) := by decide +kernel
theorem dX10_says_22 : decode cX10_says 22 = .ok (.dup2, 1) := by decide +kernel
theorem dX10_says_23 : decode cX10_says 23 = .ok (.iaload, 1) := by decide +kernel
theorem dX10_says_24 : decode cX10_says 24 = .ok (.aload_n 0, 1) := by decide +kernel
theorem dX10_says_25 : decode cX10_says 25 = .ok (.aload_n 1, 1) := by decide +kernel
theorem dX10_says_26 : decode cX10_says 26 = .ok (.iload_n 2, 1) := by decide +kernel
theorem dX10_says_27 : decode cX10_says 27 = .ok (.invokevirtual 169, 3) := by decide +kernel
theorem dX10_says_30 : decode cX10_says 30 = .ok (.isub, 1) := by decide +kernel
theorem dX10_says_31 : decode cX10_says 31 = .ok (.iastore, 1) := by decide +kernel
theorem dX10_says_32 : decode cX10_says 32 = .ok (.aload_n 1, 1) := by decide +kernel
theorem dX10_says_33 : decode cX10_says 33 = .ok (.bipush 10, 2) := by decide +kernel
theorem dX10_says_35 : decode cX10_says 35 = .ok (.iload_n 3, 1) := by decide +kernel
theorem dX10_says_36 : decode cX10_says 36 = .ok (.iadd, 1) := by decide +kernel
theorem dX10_says_37 : decode cX10_says 37 = .ok (.dup2, 1) := by decide +kernel
theorem dX10_says_38 : decode cX10_says 38 = .ok (.iaload, 1) := by decide +kernel
theorem dX10_says_39 : decode cX10_says 39 = .ok (.aload_n 0, 1) := by decide +kernel
theorem dX10_says_40 : decode cX10_says 40 = .ok (.iload_n 2, 1) := by decide +kernel
theorem dX10_says_41 : decode cX10_says 41 = .ok (.invokevirtual 158, 3) := by decide +kernel
theorem dX10_says_44 : decode cX10_says 44 = .ok (.iload 4, 2) := by decide +kernel
theorem dX10_says_46 : decode cX10_says 46 = .ok (.isub, 1) := by decide +kernel
theorem dX10_says_47 : decode cX10_says 47 = .ok (.isub, 1) := by decide +kernel
theorem dX10_says_48 : decode cX10_says 48 = .ok (.iastore, 1) := by decide +kernel
theorem dX10_says_49 : decode cX10_says 49 = .ok (.aload_n 1, 1) := by decide +kernel
theorem dX10_says_50 : decode cX10_says 50 = .ok (.iconst 1, 1) := by decide +kernel
theorem dX10_says_51 : decode cX10_says 51 = .ok (.dup2, 1) := by decide +kernel
theorem dX10_says_52 : decode cX10_says 52 = .ok (.iaload, 1) := by decide +kernel
theorem dX10_says_53 : decode cX10_says 53 = .ok (.iload 4, 2) := by decide +kernel
theorem dX10_says_55 : decode cX10_says 55 = .ok (.isub, 1) := by decide +kernel
theorem dX10_says_56 : decode cX10_says 56 = .ok (.iastore, 1) := by decide +kernel
theorem dX10_says_57 : decode cX10_says 57 = .ok (.aload_n 1, 1) := by decide +kernel
theorem dX10_says_58 : decode cX10_says 58 = .ok (.iconst 4, 1) := by decide +kernel
theorem dX10_says_59 : decode cX10_says 59 = .ok (.dup2, 1) := by decide +kernel
theorem dX10_says_60 : decode cX10_says 60 = .ok (.iaload, 1) := by decide +kernel
theorem dX10_says_61 : decode cX10_says 61 = .ok (.iconst 1, 1) := by decide +kernel
theorem dX10_says_62 : decode cX10_says 62 = .ok (.iload_n 2, 1) := by decide +kernel
theorem dX10_says_63 : decode cX10_says 63 = .ok (.ishl, 1) := by decide +kernel
theorem dX10_says_64 : decode cX10_says 64 = .ok (.ior, 1) := by decide +kernel
theorem dX10_says_65 : decode cX10_says 65 = .ok (.iastore, 1) := by decide +kernel
theorem dX10_says_66 : decode cX10_says 66 = .ok (.aload_n 1, 1) := by decide +kernel
theorem dX10_says_67 : decode cX10_says 67 = .ok (.bipush 15, 2) := by decide +kernel
theorem dX10_says_69 : decode cX10_says 69 = .ok (.iload_n 2, 1) := by decide +kernel
theorem dX10_says_70 : decode cX10_says 70 = .ok (.iadd, 1) := by decide +kernel
theorem dX10_says_71 : decode cX10_says 71 = .ok (.aload_n 0, 1) := by decide +kernel
theorem dX10_says_72 : decode cX10_says 72 = .ok (.aload_n 0, 1) := by decide +kernel
theorem dX10_says_73 : decode cX10_says 73 = .ok (.getfield 31, 3) := by decide +kernel
theorem dX10_says_76 : decode cX10_says 76 = .ok (.bipush 8, 2) := by decide +kernel
theorem dX10_says_78 : decode cX10_says 78 = .ok (.iload_n 2, 1) := by decide +kernel
theorem dX10_says_79 : decode cX10_says 79 = .ok (.iadd, 1) := by decide +kernel
theorem dX10_says_80 : decode cX10_says 80 = .ok (.iaload, 1) := by decide +kernel
theorem dX10_says_81 : decode cX10_says 81 = .ok (.iload_n 3, 1) := by decide +kernel
theorem dX10_says_82 : decode cX10_says 82 = .ok (.iconst 0, 1) := by decide +kernel
theorem dX10_says_83 : decode cX10_says 83 = .ok (.invokevirtual 180, 3) := by decide +kernel
theorem dX10_says_86 : decode cX10_says 86 = .ok (.iastore, 1) := by decide +kernel
theorem dX10_says_87 : decode cX10_says 87 = .ok (.iload 4, 2) := by decide +kernel
theorem dX10_says_89 : decode cX10_says 89 = .ok (.ireturn, 1) := by decide +kernel
theorem dX10_capped_0 : decode cX10_capped 0 = .ok (.iload_n 0, 1) := by decide +kernel
theorem dX10_capped_1 : decode cX10_capped 1 = .ok (.iload_n 1, 1) := by decide +kernel
theorem dX10_capped_2 : decode cX10_capped 2 = .ok (.if_icmp .le 7, 3) := by decide +kernel
theorem dX10_capped_5 : decode cX10_capped 5 = .ok (.iload_n 1, 1) := by decide +kernel
theorem dX10_capped_6 : decode cX10_capped 6 = .ok (.goto 4, 3) := by decide +kernel
theorem dX10_capped_9 : decode cX10_capped 9 = .ok (.iload_n 0, 1) := by decide +kernel
theorem dX10_capped_10 : decode cX10_capped 10 = .ok (.ireturn, 1) := by decide +kernel
theorem dX10_passes_0 : decode cX10_passes 0 = .ok (.iconst 0, 1) := by decide +kernel
theorem dX10_passes_1 : decode cX10_passes 1 = .ok (.istore_n 2, 1) := by decide +kernel
theorem dX10_passes_2 : decode cX10_passes 2 = .ok (.iload_n 2, 1) := by decide +kernel
theorem dX10_passes_3 : decode cX10_passes 3 = .ok (.aload_n 0, 1) := by decide +kernel
theorem dX10_passes_4 : decode cX10_passes 4 = .ok (.getfield 31, 3) := by decide +kernel
theorem dX10_passes_7 : decode cX10_passes 7 = .ok (.iconst 1, 1) := by decide +kernel
theorem dX10_passes_8 : decode cX10_passes 8 = .ok (.iaload, 1) := by decide +kernel
theorem dX10_passes_9 : decode cX10_passes 9 = .ok (.if_icmp .ge 54, 3) := by decide +kernel
theorem dX10_passes_12 : decode cX10_passes 12 = .ok (.aload_n 1, 1) := by decide +kernel
theorem dX10_passes_13 : decode cX10_passes 13 = .ok (.bipush 15, 2) := by decide +kernel
theorem dX10_passes_15 : decode cX10_passes 15 = .ok (.iload_n 2, 1) := by decide +kernel
theorem dX10_passes_16 : decode cX10_passes 16 = .ok (.iadd, 1) := by decide +kernel
theorem dX10_passes_17 : decode cX10_passes 17 = .ok (.aload_n 1, 1) := by decide +kernel
theorem dX10_passes_18 : decode cX10_passes 18 = .ok (.iconst 4, 1) := by decide +kernel
theorem dX10_passes_19 : decode cX10_passes 19 = .ok (.iaload, 1) := by decide +kernel
theorem dX10_passes_20 : decode cX10_passes 20 = .ok (.iload_n 2, 1) := by decide +kernel
theorem dX10_passes_21 : decode cX10_passes 21 = .ok (.invokestatic 165, 3) := by decide +kernel
theorem dX10_passes_24 : decode cX10_passes 24 = .ok (.ifCond .eq 26, 3) := by decide +kernel
theorem dX10_passes_27 : decode cX10_passes 27 = .ok (.aload_n 0, 1) := by decide +kernel
theorem dX10_passes_28 : decode cX10_passes 28 = .ok (.aload_n 0, 1) := by decide +kernel
theorem dX10_passes_29 : decode cX10_passes 29 = .ok (.getfield 31, 3) := by decide +kernel
theorem dX10_passes_32 : decode cX10_passes 32 = .ok (.bipush 8, 2) := by decide +kernel
theorem dX10_passes_34 : decode cX10_passes 34 = .ok (.iload_n 2, 1) := by decide +kernel
theorem dX10_passes_35 : decode cX10_passes 35 = .ok (.iadd, 1) := by decide +kernel
theorem dX10_passes_36 : decode cX10_passes 36 = .ok (.iaload, 1) := by decide +kernel
theorem dX10_passes_37 : decode cX10_passes 37 = .ok (.aload_n 1, 1) := by decide +kernel
theorem dX10_passes_38 : decode cX10_passes 38 = .ok (.bipush 15, 2) := by decide +kernel
theorem dX10_passes_40 : decode cX10_passes 40 = .ok (.iload_n 2, 1) := by decide +kernel
theorem dX10_passes_41 : decode cX10_passes 41 = .ok (.iadd, 1) := by decide +kernel
theorem dX10_passes_42 : decode cX10_passes 42 = .ok (.iaload, 1) := by decide +kernel
theorem dX10_passes_43 : decode cX10_passes 43 = .ok (.iconst 0, 1) := by decide +kernel
theorem dX10_passes_44 : decode cX10_passes 44 = .ok (.invokevirtual 184, 3) := by decide +kernel
theorem dX10_passes_47 : decode cX10_passes 47 = .ok (.goto 9, 3) := by decide +kernel
theorem dX10_passes_50 : decode cX10_passes 50 = .ok (.aload_n 1, 1) := by decide +kernel
theorem dX10_passes_51 : decode cX10_passes 51 = .ok (.bipush 15, 2) := by decide +kernel
theorem dX10_passes_53 : decode cX10_passes 53 = .ok (.iload_n 2, 1) := by decide +kernel
theorem dX10_passes_54 : decode cX10_passes 54 = .ok (.iadd, 1) := by decide +kernel
theorem dX10_passes_55 : decode cX10_passes 55 = .ok (.iaload, 1) := by decide +kernel
theorem dX10_passes_56 : decode cX10_passes 56 = .ok (.iastore, 1) := by decide +kernel
theorem dX10_passes_57 : decode cX10_passes 57 = .ok (.iinc 2 1, 3) := by decide +kernel
theorem dX10_passes_60 : decode cX10_passes 60 = .ok (.goto (-58), 3) := by decide +kernel
theorem dX10_passes_63 : decode cX10_passes 63 = .ok (.aload_n 1, 1) := by decide +kernel
theorem dX10_passes_64 : decode cX10_passes 64 = .ok (.iconst 2, 1) := by decide +kernel
theorem dX10_passes_65 : decode cX10_passes 65 = .ok (.aload_n 1, 1) := by decide +kernel
theorem dX10_passes_66 : decode cX10_passes 66 = .ok (.iconst 2, 1) := by decide +kernel
theorem dX10_passes_67 : decode cX10_passes 67 = .ok (.iaload, 1) := by decide +kernel
theorem dX10_passes_68 : decode cX10_passes 68 = .ok (.aload_n 1, 1) := by decide +kernel
theorem dX10_passes_69 : decode cX10_passes 69 = .ok (.iconst 1, 1) := by decide +kernel
theorem dX10_passes_70 : decode cX10_passes 70 = .ok (.iaload, 1) := by decide +kernel
theorem dX10_passes_71 : decode cX10_passes 71 = .ok (.iadd, 1) := by decide +kernel
theorem dX10_passes_72 : decode cX10_passes 72 = .ok (.sipush 999, 3) := by decide +kernel
theorem dX10_passes_75 : decode cX10_passes 75 = .ok (.invokestatic 187, 3) := by decide +kernel
theorem dX10_passes_78 : decode cX10_passes 78 = .ok (.iastore, 1) := by decide +kernel
theorem dX10_passes_79 : decode cX10_passes 79 = .ok (.aload_n 1, 1) := by decide +kernel
theorem dX10_passes_80 : decode cX10_passes 80 = .ok (.iconst 1, 1) := by decide +kernel
theorem dX10_passes_81 : decode cX10_passes 81 = .ok (.aload_n 0, 1) := by decide +kernel
theorem dX10_passes_82 : decode cX10_passes 82 = .ok (.getfield 31, 3) := by decide +kernel
theorem dX10_passes_85 : decode cX10_passes 85 = .ok (.iconst 2, 1) := by decide +kernel
theorem dX10_passes_86 : decode cX10_passes 86 = .ok (.iaload, 1) := by decide +kernel
theorem dX10_passes_87 : decode cX10_passes 87 = .ok (.iastore, 1) := by decide +kernel
theorem dX10_passes_88 : decode cX10_passes 88 = .ok (.iconst 0, 1) := by decide +kernel
theorem dX10_passes_89 : decode cX10_passes 89 = .ok (.istore_n 2, 1) := by decide +kernel
theorem dX10_passes_90 : decode cX10_passes 90 = .ok (.iload_n 2, 1) := by decide +kernel
theorem dX10_passes_91 : decode cX10_passes 91 = .ok (.aload_n 0, 1) := by decide +kernel
theorem dX10_passes_92 : decode cX10_passes 92 = .ok (.getfield 31, 3) := by decide +kernel
theorem dX10_passes_95 : decode cX10_passes 95 = .ok (.iconst 0, 1) := by decide +kernel
theorem dX10_passes_96 : decode cX10_passes 96 = .ok (.iaload, 1) := by decide +kernel
theorem dX10_passes_97 : decode cX10_passes 97 = .ok (.if_icmp .ge 33, 3) := by decide +kernel
theorem dX10_passes_100 : decode cX10_passes 100 = .ok (.aload_n 1, 1) := by decide +kernel
theorem dX10_passes_101 : decode cX10_passes 101 = .ok (.iconst 5, 1) := by decide +kernel
theorem dX10_passes_102 : decode cX10_passes 102 = .ok (.iload_n 2, 1) := by decide +kernel
theorem dX10_passes_103 : decode cX10_passes 103 = .ok (.iadd, 1) := by decide +kernel
theorem dX10_passes_104 : decode cX10_passes 104 = .ok (.aload_n 1, 1) := by decide +kernel
theorem dX10_passes_105 : decode cX10_passes 105 = .ok (.iconst 5, 1) := by decide +kernel
theorem dX10_passes_106 : decode cX10_passes 106 = .ok (.iload_n 2, 1) := by decide +kernel
theorem dX10_passes_107 : decode cX10_passes 107 = .ok (.iadd, 1) := by decide +kernel
theorem dX10_passes_108 : decode cX10_passes 108 = .ok (.iaload, 1) := by decide +kernel
theorem dX10_passes_109 : decode cX10_passes 109 = .ok (.aload_n 0, 1) := by decide +kernel
theorem dX10_passes_110 : decode cX10_passes 110 = .ok (.getfield 31, 3) := by decide +kernel
theorem dX10_passes_113 : decode cX10_passes 113 = .ok (.iconst 3, 1) := by decide +kernel
theorem dX10_passes_114 : decode cX10_passes 114 = .ok (.iload_n 2, 1) := by decide +kernel
theorem dX10_passes_115 : decode cX10_passes 115 = .ok (.iadd, 1) := by decide +kernel
theorem dX10_passes_116 : decode cX10_passes 116 = .ok (.iaload, 1) := by decide +kernel
theorem dX10_passes_117 : decode cX10_passes 117 = .ok (.iadd, 1) := by decide +kernel
theorem dX10_passes_118 : decode cX10_passes 118 = .ok (.bipush 99, 2) := by decide +kernel
theorem dX10_passes_120 : decode cX10_passes 120 = .ok (.invokestatic 187, 3) := by decide +kernel
theorem dX10_passes_123 : decode cX10_passes 123 = .ok (.iastore, 1) := by decide +kernel
theorem dX10_passes_124 : decode cX10_passes 124 = .ok (.iinc 2 1, 3) := by decide +kernel
theorem dX10_passes_127 : decode cX10_passes 127 = .ok (.goto (-37), 3) := by decide +kernel
theorem dX10_passes_130 : decode cX10_passes 130 = .ok (.aload_n 1, 1) := by decide +kernel
theorem dX10_passes_131 : decode cX10_passes 131 = .ok (.iconst 0, 1) := by decide +kernel
theorem dX10_passes_132 : decode cX10_passes 132 = .ok (.dup2, 1) := by decide +kernel
theorem dX10_passes_133 : decode cX10_passes 133 = .ok (.iaload, 1) := by decide +kernel
theorem dX10_passes_134 : decode cX10_passes 134 = .ok (.iconst 1, 1) := by decide +kernel
theorem dX10_passes_135 : decode cX10_passes 135 = .ok (.iadd, 1) := by decide +kernel
theorem dX10_passes_136 : decode cX10_passes 136 = .ok (.iastore, 1) := by decide +kernel
theorem dX10_passes_137 : decode cX10_passes 137 = .ok (.return_, 1) := by decide +kernel
theorem dX10_remember_0 : decode cX10_remember 0 = .ok (.iconst 0, 1) := by decide +kernel
theorem dX10_remember_1 : decode cX10_remember 1 = .ok (.istore_n 1, 1) := by decide +kernel
theorem dX10_remember_2 : decode cX10_remember 2 = .ok (.iload_n 1, 1) := by decide +kernel
theorem dX10_remember_3 : decode cX10_remember 3 = .ok (.bipush 21, 2) := by decide +kernel
theorem dX10_remember_5 : decode cX10_remember 5 = .ok (.if_icmp .ge 29, 3) := by decide +kernel
theorem dX10_remember_8 : decode cX10_remember 8 = .ok (.aload_n 0, 1) := by decide +kernel
theorem dX10_remember_9 : decode cX10_remember 9 = .ok (.getfield 40, 3) := by decide +kernel
theorem dX10_remember_12 : decode cX10_remember 12 = .ok (.bipush 21, 2) := by decide +kernel
theorem dX10_remember_14 : decode cX10_remember 14 = .ok (.aload_n 0, 1) := by decide +kernel
theorem dX10_remember_15 : decode cX10_remember 15 = .ok (.getfield 190, 3) := by decide +kernel
theorem dX10_remember_18 : decode cX10_remember 18 = .ok (.imul, 1) := by decide +kernel
theorem dX10_remember_19 : decode cX10_remember 19 = .ok (.iload_n 1, 1) := by decide +kernel
theorem dX10_remember_20 : decode cX10_remember 20 = .ok (.iadd, 1) := by decide +kernel
theorem dX10_remember_21 : decode cX10_remember 21 = .ok (.aload_n 0, 1) := by decide +kernel
theorem dX10_remember_22 : decode cX10_remember 22 = .ok (.getfield 34, 3) := by decide +kernel
theorem dX10_remember_25 : decode cX10_remember 25 = .ok (.iload_n 1, 1) := by decide +kernel
theorem dX10_remember_26 : decode cX10_remember 26 = .ok (.iaload, 1) := by decide +kernel
theorem dX10_remember_27 : decode cX10_remember 27 = .ok (.iastore, 1) := by decide +kernel
theorem dX10_remember_28 : decode cX10_remember 28 = .ok (.iinc 1 1, 3) := by decide +kernel
theorem dX10_remember_31 : decode cX10_remember 31 = .ok (.goto (-29), 3) := by decide +kernel
theorem dX10_remember_34 : decode cX10_remember 34 = .ok (.aload_n 0, 1) := by decide +kernel
theorem dX10_remember_35 : decode cX10_remember 35 = .ok (.aload_n 0, 1) := by decide +kernel
theorem dX10_remember_36 : decode cX10_remember 36 = .ok (.getfield 190, 3) := by decide +kernel
theorem dX10_remember_39 : decode cX10_remember 39 = .ok (.iconst 1, 1) := by decide +kernel
theorem dX10_remember_40 : decode cX10_remember 40 = .ok (.iadd, 1) := by decide +kernel
theorem dX10_remember_41 : decode cX10_remember 41 = .ok (.bipush 24, 2) := by decide +kernel
theorem dX10_remember_43 : decode cX10_remember 43 = .ok (.irem, 1) := by decide +kernel
theorem dX10_remember_44 : decode cX10_remember 44 = .ok (.putfield 190, 3) := by decide +kernel
theorem dX10_remember_47 : decode cX10_remember 47 = .ok (.aload_n 0, 1) := by decide +kernel
theorem dX10_remember_48 : decode cX10_remember 48 = .ok (.dup, 1) := by decide +kernel
theorem dX10_remember_49 : decode cX10_remember 49 = .ok (.getfield 155, 3) := by decide +kernel
theorem dX10_remember_52 : decode cX10_remember 52 = .ok (.aload_n 0, 1) := by decide +kernel
theorem dX10_remember_53 : decode cX10_remember 53 = .ok (.getfield 155, 3) := by decide +kernel
theorem dX10_remember_56 : decode cX10_remember 56 = .ok (.bipush 24, 2) := by decide +kernel
theorem dX10_remember_58 : decode cX10_remember 58 = .ok (.if_icmp .ge 7, 3) := by decide +kernel
theorem dX10_remember_61 : decode cX10_remember 61 = .ok (.iconst 1, 1) := by decide +kernel
theorem dX10_remember_62 : decode cX10_remember 62 = .ok (.goto 4, 3) := by decide +kernel
theorem dX10_remember_65 : decode cX10_remember 65 = .ok (.iconst 0, 1) := by decide +kernel
theorem dX10_remember_66 : decode cX10_remember 66 = .ok (.iadd, 1) := by decide +kernel
theorem dX10_remember_67 : decode cX10_remember 67 = .ok (.putfield 155, 3) := by decide +kernel
theorem dX10_remember_70 : decode cX10_remember 70 = .ok (.return_, 1) := by decide +kernel
theorem dX10_undo_0 : decode cX10_undo 0 = .ok (.aload_n 0, 1) := by decide +kernel
theorem dX10_undo_1 : decode cX10_undo 1 = .ok (.getfield 155, 3) := by decide +kernel
theorem dX10_undo_4 : decode cX10_undo 4 = .ok (.ifCond .ne 6, 3) := by decide +kernel
theorem dX10_undo_7 : decode cX10_undo 7 = .ok (.ldc 193, 2) := by decide +kernel
theorem dX10_undo_9 : decode cX10_undo 9 = .ok (.ireturn, 1) := by decide +kernel
theorem dX10_undo_10 : decode cX10_undo 10 = .ok (.aload_n 0, 1) := by decide +kernel
theorem dX10_undo_11 : decode cX10_undo 11 = .ok (.aload_n 0, 1) := by decide +kernel
theorem dX10_undo_12 : decode cX10_undo 12 = .ok (.getfield 190, 3) := by decide +kernel
theorem dX10_undo_15 : decode cX10_undo 15 = .ok (.bipush 24, 2) := by decide +kernel
theorem dX10_undo_17 : decode cX10_undo 17 = .ok (.iadd, 1) := by decide +kernel
theorem dX10_undo_18 : decode cX10_undo 18 = .ok (.iconst 1, 1) := by decide +kernel
theorem dX10_undo_19 : decode cX10_undo 19 = .ok (.isub, 1) := by decide +kernel
theorem dX10_undo_20 : decode cX10_undo 20 = .ok (.bipush 24, 2) := by decide +kernel
theorem dX10_undo_22 : decode cX10_undo 22 = .ok (.irem, 1) := by decide +kernel
theorem dX10_undo_23 : decode cX10_undo 23 = .ok (.putfield 190, 3) := by decide +kernel
theorem dX10_undo_26 : decode cX10_undo 26 = .ok (.aload_n 0, 1) := by decide +kernel
theorem dX10_undo_27 : decode cX10_undo 27 = .ok (.dup, 1) := by decide +kernel
theorem dX10_undo_28 : decode cX10_undo 28 = .ok (.getfield 155, 3) := by decide +kernel
theorem dX10_undo_31 : decode cX10_undo 31 = .ok (.iconst 1, 1) := by decide +kernel
theorem dX10_undo_32 : decode cX10_undo 32 = .ok (.isub, 1) := by decide +kernel
theorem dX10_undo_33 : decode cX10_undo 33 = .ok (.putfield 155, 3) := by decide +kernel
theorem dX10_undo_36 : decode cX10_undo 36 = .ok (.iconst 0, 1) := by decide +kernel
theorem dX10_undo_37 : decode cX10_undo 37 = .ok (.istore_n 1, 1) := by decide +kernel
theorem dX10_undo_38 : decode cX10_undo 38 = .ok (.iload_n 1, 1) := by decide +kernel
theorem dX10_undo_39 : decode cX10_undo 39 = .ok (.bipush 21, 2) := by decide +kernel
theorem dX10_undo_41 : decode cX10_undo 41 = .ok (.if_icmp .ge 29, 3) := by decide +kernel
theorem dX10_undo_44 : decode cX10_undo 44 = .ok (.aload_n 0, 1) := by decide +kernel
theorem dX10_undo_45 : decode cX10_undo 45 = .ok (.getfield 34, 3) := by decide +kernel
theorem dX10_undo_48 : decode cX10_undo 48 = .ok (.iload_n 1, 1) := by decide +kernel
theorem dX10_undo_49 : decode cX10_undo 49 = .ok (.aload_n 0, 1) := by decide +kernel
theorem dX10_undo_50 : decode cX10_undo 50 = .ok (.getfield 40, 3) := by decide +kernel
theorem dX10_undo_53 : decode cX10_undo 53 = .ok (.bipush 21, 2) := by decide +kernel
theorem dX10_undo_55 : decode cX10_undo 55 = .ok (.aload_n 0, 1) := by decide +kernel
theorem dX10_undo_56 : decode cX10_undo 56 = .ok (.getfield 190, 3) := by decide +kernel
theorem dX10_undo_59 : decode cX10_undo 59 = .ok (.imul, 1) := by decide +kernel
theorem dX10_undo_60 : decode cX10_undo 60 = .ok (.iload_n 1, 1) := by decide +kernel
theorem dX10_undo_61 : decode cX10_undo 61 = .ok (.iadd, 1) := by decide +kernel
theorem dX10_undo_62 : decode cX10_undo 62 = .ok (.iaload, 1) := by decide +kernel
theorem dX10_undo_63 : decode cX10_undo 63 = .ok (.iastore, 1) := by decide +kernel
theorem dX10_undo_64 : decode cX10_undo 64 = .ok (.iinc 1 1, 3) := by decide +kernel
theorem dX10_undo_67 : decode cX10_undo 67 = .ok (.goto (-29), 3) := by decide +kernel
theorem dX10_undo_70 : decode cX10_undo 70 = .ok (.aload_n 0, 1) := by decide +kernel
theorem dX10_undo_71 : decode cX10_undo 71 = .ok (.getfield 155, 3) := by decide +kernel
theorem dX10_undo_74 : decode cX10_undo 74 = .ok (.ireturn, 1) := by decide +kernel
theorem dX10_need_0 : decode cX10_need 0 = .ok (.aload_n 0, 1) := by decide +kernel
theorem dX10_need_1 : decode cX10_need 1 = .ok (.getfield 151, 3) := by decide +kernel
theorem dX10_need_4 : decode cX10_need 4 = .ok (.ifCond .ne 8, 3) := by decide +kernel
theorem dX10_need_7 : decode cX10_need 7 = .ok (.ldc 193, 2) := by decide +kernel
theorem dX10_need_9 : decode cX10_need 9 = .ok (.goto 13, 3) := by decide +kernel
theorem dX10_need_12 : decode cX10_need 12 = .ok (.iload_n 1, 1) := by decide +kernel
theorem dX10_need_13 : decode cX10_need 13 = .ok (.ifCond .eq 7, 3) := by decide +kernel
theorem dX10_need_16 : decode cX10_need 16 = .ok (.iconst 0, 1) := by decide +kernel
theorem dX10_need_17 : decode cX10_need 17 = .ok (.goto 5, 3) := by decide +kernel
theorem dX10_need_20 : decode cX10_need 20 = .ok (.ldc 78, 2) := by decide +kernel
theorem dX10_need_22 : decode cX10_need 22 = .ok (.ireturn, 1) := by decide +kernel
theorem dX10_weeks_0 : decode cX10_weeks 0 = .ok (.aload_n 0, 1) := by decide +kernel
theorem dX10_weeks_1 : decode cX10_weeks 1 = .ok (.iload_n 1, 1) := by decide +kernel
theorem dX10_weeks_2 : decode cX10_weeks 2 = .ok (.iconst 1, 1) := by decide +kernel
theorem dX10_weeks_3 : decode cX10_weeks 3 = .ok (.bipush 24, 2) := by decide +kernel
theorem dX10_weeks_5 : decode cX10_weeks 5 = .ok (.invokestatic 70, 3) := by decide +kernel
theorem dX10_weeks_8 : decode cX10_weeks 8 = .ok (.invokevirtual 194, 3) := by decide +kernel
theorem dX10_weeks_11 : decode cX10_weeks 11 = .ok (.istore_n 2, 1) := by decide +kernel
theorem dX10_weeks_12 : decode cX10_weeks 12 = .ok (.iload_n 2, 1) := by decide +kernel
theorem dX10_weeks_13 : decode cX10_weeks 13 = .ok (.ifCond .ge 5, 3) := by decide +kernel
theorem dX10_weeks_16 : decode cX10_weeks 16 = .ok (.iload_n 2, 1) := by decide +kernel
theorem dX10_weeks_17 : decode cX10_weeks 17 = .ok (.ireturn, 1) := by decide +kernel
theorem dX10_weeks_18 : decode cX10_weeks 18 = .ok (.aload_n 0, 1) := by decide +kernel
theorem dX10_weeks_19 : decode cX10_weeks 19 = .ok (.getfield 34, 3) := by decide +kernel
theorem dX10_weeks_22 : decode cX10_weeks 22 = .ok (.iconst 0, 1) := by decide +kernel
theorem dX10_weeks_23 : decode cX10_weeks 23 = .ok (.iaload, 1) := by decide +kernel
theorem dX10_weeks_24 : decode cX10_weeks 24 = .ok (.iload_n 1, 1) := by decide +kernel
theorem dX10_weeks_25 : decode cX10_weeks 25 = .ok (.iadd, 1) := by decide +kernel
theorem dX10_weeks_26 : decode cX10_weeks 26 = .ok (.sipush 999, 3) := by decide +kernel
theorem dX10_weeks_29 : decode cX10_weeks 29 = .ok (.if_icmp .le 6, 3) := by decide +kernel
theorem dX10_weeks_32 : decode cX10_weeks 32 = .ok (.ldc 92, 2) := by decide +kernel
theorem dX10_weeks_34 : decode cX10_weeks 34 = .ok (.ireturn, 1) := by decide +kernel
theorem dX10_weeks_35 : decode cX10_weeks 35 = .ok (.iconst 0, 1) := by decide +kernel
theorem dX10_weeks_36 : decode cX10_weeks 36 = .ok (.istore_n 3, 1) := by decide +kernel
theorem dX10_weeks_37 : decode cX10_weeks 37 = .ok (.iload_n 3, 1) := by decide +kernel
theorem dX10_weeks_38 : decode cX10_weeks 38 = .ok (.iload_n 1, 1) := by decide +kernel
theorem dX10_weeks_39 : decode cX10_weeks 39 = .ok (.if_icmp .ge 21, 3) := by decide +kernel
theorem dX10_weeks_42 : decode cX10_weeks 42 = .ok (.aload_n 0, 1) := by decide +kernel
theorem dX10_weeks_43 : decode cX10_weeks 43 = .ok (.invokevirtual 198, 3) := by decide +kernel
theorem dX10_weeks_46 : decode cX10_weeks 46 = .ok (.aload_n 0, 1) := by decide +kernel
theorem dX10_weeks_47 : decode cX10_weeks 47 = .ok (.aload_n 0, 1) := by decide +kernel
theorem dX10_weeks_48 : decode cX10_weeks 48 = .ok (.getfield 34, 3) := by decide +kernel
theorem dX10_weeks_51 : decode cX10_weeks 51 = .ok (.invokevirtual 201, 3) := by decide +kernel
theorem dX10_weeks_54 : decode cX10_weeks 54 = .ok (.iinc 3 1, 3) := by decide +kernel
theorem dX10_weeks_57 : decode cX10_weeks 57 = .ok (.goto (-20), 3) := by decide +kernel
theorem dX10_weeks_60 : decode cX10_weeks 60 = .ok (.aload_n 0, 1) := by decide +kernel
theorem dX10_weeks_61 : decode cX10_weeks 61 = .ok (.getfield 34, 3) := by decide +kernel
theorem dX10_weeks_64 : decode cX10_weeks 64 = .ok (.iconst 2, 1) := by decide +kernel
theorem dX10_weeks_65 : decode cX10_weeks 65 = .ok (.iaload, 1) := by decide +kernel
theorem dX10_weeks_66 : decode cX10_weeks 66 = .ok (.ireturn, 1) := by decide +kernel
theorem dX10_say_0 : decode cX10_say 0 = .ok (.aload_n 0, 1) := by decide +kernel
theorem dX10_say_1 : decode cX10_say 1 = .ok (.iload_n 1, 1) := by decide +kernel
theorem dX10_say_2 : decode cX10_say 2 = .ok (.invokevirtual 205, 3) := by decide +kernel
theorem dX10_say_5 : decode cX10_say 5 = .ok (.ifCond .ne 6, 3) := by decide +kernel
theorem dX10_say_8 : decode cX10_say 8 = .ok (.ldc 78, 2) := by decide +kernel
theorem dX10_say_10 : decode cX10_say 10 = .ok (.ireturn, 1) := by decide +kernel
theorem dX10_say_11 : decode cX10_say 11 = .ok (.aload_n 0, 1) := by decide +kernel
theorem dX10_say_12 : decode cX10_say 12 = .ok (.aload_n 0, 1) := by decide +kernel
theorem dX10_say_13 : decode cX10_say 13 = .ok (.getfield 34, 3) := by decide +kernel
theorem dX10_say_16 : decode cX10_say 16 = .ok (.iload_n 1, 1) := by decide +kernel
theorem dX10_say_17 : decode cX10_say 17 = .ok (.invokevirtual 208, 3) := by decide +kernel
theorem dX10_say_20 : decode cX10_say 20 = .ok (.ifCond .ne 6, 3) := by decide +kernel
theorem dX10_say_23 : decode cX10_say 23 = .ok (.ldc 193, 2) := by decide +kernel
theorem dX10_say_25 : decode cX10_say 25 = .ok (.ireturn, 1) := by decide +kernel
theorem dX10_say_26 : decode cX10_say 26 = .ok (.aload_n 0, 1) := by decide +kernel
theorem dX10_say_27 : decode cX10_say 27 = .ok (.invokevirtual 198, 3) := by decide +kernel
theorem dX10_say_30 : decode cX10_say 30 = .ok (.aload_n 0, 1) := by decide +kernel
theorem dX10_say_31 : decode cX10_say 31 = .ok (.aload_n 0, 1) := by decide +kernel
theorem dX10_say_32 : decode cX10_say 32 = .ok (.getfield 34, 3) := by decide +kernel
theorem dX10_say_35 : decode cX10_say 35 = .ok (.iload_n 1, 1) := by decide +kernel
theorem dX10_say_36 : decode cX10_say 36 = .ok (.invokevirtual 212, 3) := by decide +kernel
theorem dX10_say_39 : decode cX10_say 39 = .ok (.ireturn, 1) := by decide +kernel
theorem dX10_buy_0 : decode cX10_buy 0 = .ok (.aload_n 0, 1) := by decide +kernel
theorem dX10_buy_1 : decode cX10_buy 1 = .ok (.iload_n 1, 1) := by decide +kernel
theorem dX10_buy_2 : decode cX10_buy 2 = .ok (.invokevirtual 215, 3) := by decide +kernel
theorem dX10_buy_5 : decode cX10_buy 5 = .ok (.ifCond .eq 13, 3) := by decide +kernel
theorem dX10_buy_8 : decode cX10_buy 8 = .ok (.iload_n 2, 1) := by decide +kernel
theorem dX10_buy_9 : decode cX10_buy 9 = .ok (.iconst 1, 1) := by decide +kernel
theorem dX10_buy_10 : decode cX10_buy 10 = .ok (.bipush 60, 2) := by decide +kernel
theorem dX10_buy_12 : decode cX10_buy 12 = .ok (.invokestatic 70, 3) := by decide +kernel
theorem dX10_buy_15 : decode cX10_buy 15 = .ok (.ifCond .ne 6, 3) := by decide +kernel
theorem dX10_buy_18 : decode cX10_buy 18 = .ok (.ldc 78, 2) := by decide +kernel
theorem dX10_buy_20 : decode cX10_buy 20 = .ok (.ireturn, 1) := by decide +kernel
theorem dX10_buy_21 : decode cX10_buy 21 = .ok (.iload_n 2, 1) := by decide +kernel
theorem dX10_buy_22 : decode cX10_buy 22 = .ok (.aload_n 0, 1) := by decide +kernel
theorem dX10_buy_23 : decode cX10_buy 23 = .ok (.getfield 34, 3) := by decide +kernel
theorem dX10_buy_26 : decode cX10_buy 26 = .ok (.iconst 1, 1) := by decide +kernel
theorem dX10_buy_27 : decode cX10_buy 27 = .ok (.iaload, 1) := by decide +kernel
theorem dX10_buy_28 : decode cX10_buy 28 = .ok (.if_icmp .gt 38, 3) := by decide +kernel
theorem dX10_buy_31 : decode cX10_buy 31 = .ok (.iload_n 2, 1) := by decide +kernel
theorem dX10_buy_32 : decode cX10_buy 32 = .ok (.aload_n 0, 1) := by decide +kernel
theorem dX10_buy_33 : decode cX10_buy 33 = .ok (.getfield 34, 3) := by decide +kernel
theorem dX10_buy_36 : decode cX10_buy 36 = .ok (.iconst 3, 1) := by decide +kernel
theorem dX10_buy_37 : decode cX10_buy 37 = .ok (.iaload, 1) := by decide +kernel
theorem dX10_buy_38 : decode cX10_buy 38 = .ok (.imul, 1) := by decide +kernel
theorem dX10_buy_39 : decode cX10_buy 39 = .ok (.aload_n 0, 1) := by decide +kernel
theorem dX10_buy_40 : decode cX10_buy 40 = .ok (.getfield 34, 3) := by decide +kernel
theorem dX10_buy_43 : decode cX10_buy 43 = .ok (.iconst 5, 1) := by decide +kernel
theorem dX10_buy_44 : decode cX10_buy 44 = .ok (.iload_n 1, 1) := by decide +kernel
theorem dX10_buy_45 : decode cX10_buy 45 = .ok (.iadd, 1) := by decide +kernel
theorem dX10_buy_46 : decode cX10_buy 46 = .ok (.iaload, 1) := by decide +kernel
theorem dX10_buy_47 : decode cX10_buy 47 = .ok (.if_icmp .gt 19, 3) := by decide +kernel
theorem dX10_buy_50 : decode cX10_buy 50 = .ok (.aload_n 0, 1) := by decide +kernel
theorem dX10_buy_51 : decode cX10_buy 51 = .ok (.getfield 34, 3) := by decide +kernel
theorem dX10_buy_54 : decode cX10_buy 54 = .ok (.bipush 10, 2) := by decide +kernel
theorem dX10_buy_56 : decode cX10_buy 56 = .ok (.iload_n 1, 1) := by decide +kernel
theorem dX10_buy_57 : decode cX10_buy 57 = .ok (.iadd, 1) := by decide +kernel
theorem dX10_buy_58 : decode cX10_buy 58 = .ok (.iaload, 1) := by decide +kernel
theorem dX10_buy_59 : decode cX10_buy 59 = .ok (.iload_n 2, 1) := by decide +kernel
theorem dX10_buy_60 : decode cX10_buy 60 = .ok (.iadd, 1) := by decide +kernel
theorem dX10_buy_61 : decode cX10_buy 61 = .ok (.bipush 99, 2) := by decide +kernel
theorem dX10_buy_63 : decode cX10_buy 63 = .ok (.if_icmp .le 6, 3) := by decide +kernel
theorem dX10_buy_66 : decode cX10_buy 66 = .ok (.ldc 193, 2) := by decide +kernel
theorem dX10_buy_68 : decode cX10_buy 68 = .ok (.ireturn, 1) := by decide +kernel
theorem dX10_buy_69 : decode cX10_buy 69 = .ok (.aload_n 0, 1) := by decide +kernel
theorem dX10_buy_70 : decode cX10_buy 70 = .ok (.invokevirtual 198, 3) := by decide +kernel
theorem dX10_buy_73 : decode cX10_buy 73 = .ok (.aload_n 0, 1) := by decide +kernel
theorem dX10_buy_74 : decode cX10_buy 74 = .ok (.getfield 34, 3) := by decide +kernel
theorem dX10_buy_77 : decode cX10_buy 77 = .ok (.iconst 1, 1) := by decide +kernel
theorem dX10_buy_78 : decode cX10_buy 78 = .ok (.dup2, 1) := by decide +kernel
theorem dX10_buy_79 : decode cX10_buy 79 = .ok (.iaload, 1) := by decide +kernel
theorem dX10_buy_80 : decode cX10_buy 80 = .ok (.iload_n 2, 1) := by decide +kernel
theorem dX10_buy_81 : decode cX10_buy 81 = .ok (.isub, 1) := by decide +kernel
theorem dX10_buy_82 : decode cX10_buy 82 = .ok (.iastore, 1) := by decide +kernel
theorem dX10_buy_83 : decode cX10_buy 83 = .ok (.aload_n 0, 1) := by decide +kernel
theorem dX10_buy_84 : decode cX10_buy 84 = .ok (.getfield 34, 3) := by decide +kernel
theorem dX10_buy_87 : decode cX10_buy 87 = .ok (.iconst 5, 1) := by decide +kernel
theorem dX10_buy_88 : decode cX10_buy 88 = .ok (.iload_n 1, 1) := by decide +kernel
theorem dX10_buy_89 : decode cX10_buy 89 = .ok (.iadd, 1) := by decide +kernel
theorem dX10_buy_90 : decode cX10_buy 90 = .ok (.dup2, 1) := by decide +kernel
theorem dX10_buy_91 : decode cX10_buy 91 = .ok (.iaload, 1) := by decide +kernel
theorem dX10_buy_92 : decode cX10_buy 92 = .ok (.iload_n 2, 1) := by decide +kernel
theorem dX10_buy_93 : decode cX10_buy 93 = .ok (.aload_n 0, 1) := by decide +kernel
theorem dX10_buy_94 : decode cX10_buy 94 = .ok (.getfield 34, 3) := by decide +kernel
theorem dX10_buy_97 : decode cX10_buy 97 = .ok (.iconst 3, 1) := by decide +kernel
theorem dX10_buy_98 : decode cX10_buy 98 = .ok (.iaload, 1) := by decide +kernel
theorem dX10_buy_99 : decode cX10_buy 99 = .ok (.imul, 1) := by decide +kernel
theorem dX10_buy_100 : decode cX10_buy 100 = .ok (.isub, 1) := by decide +kernel
theorem dX10_buy_101 : decode cX10_buy 101 = .ok (.iastore, 1) := by decide +kernel
theorem dX10_buy_102 : decode cX10_buy 102 = .ok (.aload_n 0, 1) := by decide +kernel
theorem dX10_buy_103 : decode cX10_buy 103 = .ok (.getfield 34, 3) := by decide +kernel
theorem dX10_buy_106 : decode cX10_buy 106 = .ok (.bipush 10, 2) := by decide +kernel
theorem dX10_buy_108 : decode cX10_buy 108 = .ok (.iload_n 1, 1) := by decide +kernel
theorem dX10_buy_109 : decode cX10_buy 109 = .ok (.iadd, 1) := by decide +kernel
theorem dX10_buy_110 : decode cX10_buy 110 = .ok (.dup2, 1) := by decide +kernel
theorem dX10_buy_111 : decode cX10_buy 111 = .ok (.iaload, 1) := by decide +kernel
theorem dX10_buy_112 : decode cX10_buy 112 = .ok (.iload_n 2, 1) := by decide +kernel
theorem dX10_buy_113 : decode cX10_buy 113 = .ok (.iadd, 1) := by decide +kernel
theorem dX10_buy_114 : decode cX10_buy 114 = .ok (.iastore, 1) := by decide +kernel
theorem dX10_buy_115 : decode cX10_buy 115 = .ok (.aload_n 0, 1) := by decide +kernel
theorem dX10_buy_116 : decode cX10_buy 116 = .ok (.getfield 34, 3) := by decide +kernel
theorem dX10_buy_119 : decode cX10_buy 119 = .ok (.bipush 10, 2) := by decide +kernel
theorem dX10_buy_121 : decode cX10_buy 121 = .ok (.iload_n 1, 1) := by decide +kernel
theorem dX10_buy_122 : decode cX10_buy 122 = .ok (.iadd, 1) := by decide +kernel
theorem dX10_buy_123 : decode cX10_buy 123 = .ok (.iaload, 1) := by decide +kernel
theorem dX10_buy_124 : decode cX10_buy 124 = .ok (.ireturn, 1) := by decide +kernel
theorem dX10_letOut_0 : decode cX10_letOut 0 = .ok (.aload_n 0, 1) := by decide +kernel
theorem dX10_letOut_1 : decode cX10_letOut 1 = .ok (.iload_n 1, 1) := by decide +kernel
theorem dX10_letOut_2 : decode cX10_letOut 2 = .ok (.iconst 1, 1) := by decide +kernel
theorem dX10_letOut_3 : decode cX10_letOut 3 = .ok (.bipush 99, 2) := by decide +kernel
theorem dX10_letOut_5 : decode cX10_letOut 5 = .ok (.invokestatic 70, 3) := by decide +kernel
theorem dX10_letOut_8 : decode cX10_letOut 8 = .ok (.invokevirtual 194, 3) := by decide +kernel
theorem dX10_letOut_11 : decode cX10_letOut 11 = .ok (.istore_n 2, 1) := by decide +kernel
theorem dX10_letOut_12 : decode cX10_letOut 12 = .ok (.iload_n 2, 1) := by decide +kernel
theorem dX10_letOut_13 : decode cX10_letOut 13 = .ok (.ifCond .ge 5, 3) := by decide +kernel
theorem dX10_letOut_16 : decode cX10_letOut 16 = .ok (.iload_n 2, 1) := by decide +kernel
theorem dX10_letOut_17 : decode cX10_letOut 17 = .ok (.ireturn, 1) := by decide +kernel
theorem dX10_letOut_18 : decode cX10_letOut 18 = .ok (.iload_n 1, 1) := by decide +kernel
theorem dX10_letOut_19 : decode cX10_letOut 19 = .ok (.aload_n 0, 1) := by decide +kernel
theorem dX10_letOut_20 : decode cX10_letOut 20 = .ok (.getfield 34, 3) := by decide +kernel
theorem dX10_letOut_23 : decode cX10_letOut 23 = .ok (.iconst 2, 1) := by decide +kernel
theorem dX10_letOut_24 : decode cX10_letOut 24 = .ok (.iaload, 1) := by decide +kernel
theorem dX10_letOut_25 : decode cX10_letOut 25 = .ok (.if_icmp .gt 16, 3) := by decide +kernel
theorem dX10_letOut_28 : decode cX10_letOut 28 = .ok (.aload_n 0, 1) := by decide +kernel
theorem dX10_letOut_29 : decode cX10_letOut 29 = .ok (.getfield 34, 3) := by decide +kernel
theorem dX10_letOut_32 : decode cX10_letOut 32 = .ok (.iconst 1, 1) := by decide +kernel
theorem dX10_letOut_33 : decode cX10_letOut 33 = .ok (.iaload, 1) := by decide +kernel
theorem dX10_letOut_34 : decode cX10_letOut 34 = .ok (.iload_n 1, 1) := by decide +kernel
theorem dX10_letOut_35 : decode cX10_letOut 35 = .ok (.iadd, 1) := by decide +kernel
theorem dX10_letOut_36 : decode cX10_letOut 36 = .ok (.bipush 99, 2) := by decide +kernel
theorem dX10_letOut_38 : decode cX10_letOut 38 = .ok (.if_icmp .le 6, 3) := by decide +kernel
theorem dX10_letOut_41 : decode cX10_letOut 41 = .ok (.ldc 193, 2) := by decide +kernel
theorem dX10_letOut_43 : decode cX10_letOut 43 = .ok (.ireturn, 1) := by decide +kernel
theorem dX10_letOut_44 : decode cX10_letOut 44 = .ok (.aload_n 0, 1) := by decide +kernel
theorem dX10_letOut_45 : decode cX10_letOut 45 = .ok (.invokevirtual 198, 3) := by decide +kernel
theorem dX10_letOut_48 : decode cX10_letOut 48 = .ok (.aload_n 0, 1) := by decide +kernel
theorem dX10_letOut_49 : decode cX10_letOut 49 = .ok (.getfield 34, 3) := by decide +kernel
theorem dX10_letOut_52 : decode cX10_letOut 52 = .ok (.iconst 2, 1) := by decide +kernel
theorem dX10_letOut_53 : decode cX10_letOut 53 = .ok (.dup2, 1) := by decide +kernel
theorem dX10_letOut_54 : decode cX10_letOut 54 = .ok (.iaload, 1) := by decide +kernel
theorem dX10_letOut_55 : decode cX10_letOut 55 = .ok (.iload_n 1, 1) := by decide +kernel
theorem dX10_letOut_56 : decode cX10_letOut 56 = .ok (.isub, 1) := by decide +kernel
theorem dX10_letOut_57 : decode cX10_letOut 57 = .ok (.iastore, 1) := by decide +kernel
theorem dX10_letOut_58 : decode cX10_letOut 58 = .ok (.aload_n 0, 1) := by decide +kernel
theorem dX10_letOut_59 : decode cX10_letOut 59 = .ok (.getfield 34, 3) := by decide +kernel
theorem dX10_letOut_62 : decode cX10_letOut 62 = .ok (.iconst 1, 1) := by decide +kernel
theorem dX10_letOut_63 : decode cX10_letOut 63 = .ok (.dup2, 1) := by decide +kernel
theorem dX10_letOut_64 : decode cX10_letOut 64 = .ok (.iaload, 1) := by decide +kernel
theorem dX10_letOut_65 : decode cX10_letOut 65 = .ok (.iload_n 1, 1) := by decide +kernel
theorem dX10_letOut_66 : decode cX10_letOut 66 = .ok (.iadd, 1) := by decide +kernel
theorem dX10_letOut_67 : decode cX10_letOut 67 = .ok (.iastore, 1) := by decide +kernel
theorem dX10_letOut_68 : decode cX10_letOut 68 = .ok (.aload_n 0, 1) := by decide +kernel
theorem dX10_letOut_69 : decode cX10_letOut 69 = .ok (.getfield 34, 3) := by decide +kernel
theorem dX10_letOut_72 : decode cX10_letOut 72 = .ok (.iconst 1, 1) := by decide +kernel
theorem dX10_letOut_73 : decode cX10_letOut 73 = .ok (.iaload, 1) := by decide +kernel
theorem dX10_letOut_74 : decode cX10_letOut 74 = .ok (.ireturn, 1) := by decide +kernel
theorem dX10_price_0 : decode cX10_price 0 = .ok (.aload_n 0, 1) := by decide +kernel
theorem dX10_price_1 : decode cX10_price 1 = .ok (.iload_n 1, 1) := by decide +kernel
theorem dX10_price_2 : decode cX10_price 2 = .ok (.iconst 1, 1) := by decide +kernel
theorem dX10_price_3 : decode cX10_price 3 = .ok (.bipush 9, 2) := by decide +kernel
theorem dX10_price_5 : decode cX10_price 5 = .ok (.invokestatic 70, 3) := by decide +kernel
theorem dX10_price_8 : decode cX10_price 8 = .ok (.invokevirtual 194, 3) := by decide +kernel
theorem dX10_price_11 : decode cX10_price 11 = .ok (.istore_n 2, 1) := by decide +kernel
theorem dX10_price_12 : decode cX10_price 12 = .ok (.iload_n 2, 1) := by decide +kernel
theorem dX10_price_13 : decode cX10_price 13 = .ok (.ifCond .ge 5, 3) := by decide +kernel
theorem dX10_price_16 : decode cX10_price 16 = .ok (.iload_n 2, 1) := by decide +kernel
theorem dX10_price_17 : decode cX10_price 17 = .ok (.ireturn, 1) := by decide +kernel
theorem dX10_price_18 : decode cX10_price 18 = .ok (.aload_n 0, 1) := by decide +kernel
theorem dX10_price_19 : decode cX10_price 19 = .ok (.invokevirtual 198, 3) := by decide +kernel
theorem dX10_price_22 : decode cX10_price 22 = .ok (.aload_n 0, 1) := by decide +kernel
theorem dX10_price_23 : decode cX10_price 23 = .ok (.getfield 34, 3) := by decide +kernel
theorem dX10_price_26 : decode cX10_price 26 = .ok (.iconst 3, 1) := by decide +kernel
theorem dX10_price_27 : decode cX10_price 27 = .ok (.iaload, 1) := by decide +kernel
theorem dX10_price_28 : decode cX10_price 28 = .ok (.istore_n 3, 1) := by decide +kernel
theorem dX10_price_29 : decode cX10_price 29 = .ok (.aload_n 0, 1) := by decide +kernel
theorem dX10_price_30 : decode cX10_price 30 = .ok (.getfield 34, 3) := by decide +kernel
theorem dX10_price_33 : decode cX10_price 33 = .ok (.iconst 3, 1) := by decide +kernel
theorem dX10_price_34 : decode cX10_price 34 = .ok (.iload_n 1, 1) := by decide +kernel
theorem dX10_price_35 : decode cX10_price 35 = .ok (.iastore, 1) := by decide +kernel
theorem dX10_price_36 : decode cX10_price 36 = .ok (.iload_n 3, 1) := by decide +kernel
theorem dX10_price_37 : decode cX10_price 37 = .ok (.ireturn, 1) := by decide +kernel
theorem dX10_clearTo_0 : decode cX10_clearTo 0 = .ok (.aload_n 0, 1) := by decide +kernel
theorem dX10_clearTo_1 : decode cX10_clearTo 1 = .ok (.getfield 31, 3) := by decide +kernel
theorem dX10_clearTo_4 : decode cX10_clearTo 4 = .ok (.bipush 26, 2) := by decide +kernel
theorem dX10_clearTo_6 : decode cX10_clearTo 6 = .ok (.iload_n 2, 1) := by decide +kernel
theorem dX10_clearTo_7 : decode cX10_clearTo 7 = .ok (.iadd, 1) := by decide +kernel
theorem dX10_clearTo_8 : decode cX10_clearTo 8 = .ok (.iaload, 1) := by decide +kernel
theorem dX10_clearTo_9 : decode cX10_clearTo 9 = .ok (.istore_n 3, 1) := by decide +kernel
theorem dX10_clearTo_10 : decode cX10_clearTo 10 = .ok (.iload_n 3, 1) := by decide +kernel
theorem dX10_clearTo_11 : decode cX10_clearTo 11 = .ok (.ldc 133, 2) := by decide +kernel
theorem dX10_clearTo_13 : decode cX10_clearTo 13 = .ok (.if_icmp .ne 12, 3) := by decide +kernel
theorem dX10_clearTo_16 : decode cX10_clearTo 16 = .ok (.aload_n 1, 1) := by decide +kernel
theorem dX10_clearTo_17 : decode cX10_clearTo 17 = .ok (.bipush 15, 2) := by decide +kernel
theorem dX10_clearTo_19 : decode cX10_clearTo 19 = .ok (.iload_n 2, 1) := by decide +kernel
theorem dX10_clearTo_20 : decode cX10_clearTo 20 = .ok (.iadd, 1) := by decide +kernel
theorem dX10_clearTo_21 : decode cX10_clearTo 21 = .ok (.iaload, 1) := by decide +kernel
theorem dX10_clearTo_22 : decode cX10_clearTo 22 = .ok (.goto 16, 3) := by decide +kernel
theorem dX10_clearTo_25 : decode cX10_clearTo 25 = .ok (.aload_n 1, 1) := by decide +kernel
theorem dX10_clearTo_26 : decode cX10_clearTo 26 = .ok (.bipush 15, 2) := by decide +kernel
theorem dX10_clearTo_28 : decode cX10_clearTo 28 = .ok (.iload_n 2, 1) := by decide +kernel
theorem dX10_clearTo_29 : decode cX10_clearTo 29 = .ok (.iadd, 1) := by decide +kernel
theorem dX10_clearTo_30 : decode cX10_clearTo 30 = .ok (.iaload, 1) := by decide +kernel
theorem dX10_clearTo_31 : decode cX10_clearTo 31 = .ok (.aload_n 1, 1) := by decide +kernel
theorem dX10_clearTo_32 : decode cX10_clearTo 32 = .ok (.bipush 15, 2) := by decide +kernel
theorem dX10_clearTo_34 : decode cX10_clearTo 34 = .ok (.iload_n 3, 1) := by decide +kernel
theorem dX10_clearTo_35 : decode cX10_clearTo 35 = .ok (.iadd, 1) := by decide +kernel
theorem dX10_clearTo_36 : decode cX10_clearTo 36 = .ok (.iaload, 1) := by decide +kernel
theorem dX10_clearTo_37 : decode cX10_clearTo 37 = .ok (.iand, 1) := by decide +kernel
theorem dX10_clearTo_38 : decode cX10_clearTo 38 = .ok (.ireturn, 1) := by decide +kernel
theorem dX10_speech_0 : decode cX10_speech 0 = .ok (.aload_n 0, 1) := by decide +kernel
theorem dX10_speech_1 : decode cX10_speech 1 = .ok (.iload_n 1, 1) := by decide +kernel
theorem dX10_speech_2 : decode cX10_speech 2 = .ok (.invokevirtual 205, 3) := by decide +kernel
theorem dX10_speech_5 : decode cX10_speech 5 = .ok (.ifCond .ne 6, 3) := by decide +kernel
theorem dX10_speech_8 : decode cX10_speech 8 = .ok (.ldc 78, 2) := by decide +kernel
theorem dX10_speech_10 : decode cX10_speech 10 = .ok (.ireturn, 1) := by decide +kernel
theorem dX10_speech_11 : decode cX10_speech 11 = .ok (.iload_n 2, 1) := by decide +kernel
theorem dX10_speech_12 : decode cX10_speech 12 = .ok (.tableswitch 147 0 8 #[52, 62, 72, 82, 88, 98, 116, 126, 136], 52) := by decide +kernel
theorem dX10_speech_64 : decode cX10_speech 64 = .ok (.aload_n 0, 1) := by decide +kernel
theorem dX10_speech_65 : decode cX10_speech 65 = .ok (.getfield 31, 3) := by decide +kernel
theorem dX10_speech_68 : decode cX10_speech 68 = .ok (.bipush 14, 2) := by decide +kernel
theorem dX10_speech_70 : decode cX10_speech 70 = .ok (.iload_n 1, 1) := by decide +kernel
theorem dX10_speech_71 : decode cX10_speech 71 = .ok (.iadd, 1) := by decide +kernel
theorem dX10_speech_72 : decode cX10_speech 72 = .ok (.iaload, 1) := by decide +kernel
theorem dX10_speech_73 : decode cX10_speech 73 = .ok (.ireturn, 1) := by decide +kernel
theorem dX10_speech_74 : decode cX10_speech 74 = .ok (.aload_n 0, 1) := by decide +kernel
theorem dX10_speech_75 : decode cX10_speech 75 = .ok (.getfield 31, 3) := by decide +kernel
theorem dX10_speech_78 : decode cX10_speech 78 = .ok (.bipush 20, 2) := by decide +kernel
theorem dX10_speech_80 : decode cX10_speech 80 = .ok (.iload_n 1, 1) := by decide +kernel
theorem dX10_speech_81 : decode cX10_speech 81 = .ok (.iadd, 1) := by decide +kernel
theorem dX10_speech_82 : decode cX10_speech 82 = .ok (.iaload, 1) := by decide +kernel
theorem dX10_speech_83 : decode cX10_speech 83 = .ok (.ireturn, 1) := by decide +kernel
theorem dX10_speech_84 : decode cX10_speech 84 = .ok (.aload_n 0, 1) := by decide +kernel
theorem dX10_speech_85 : decode cX10_speech 85 = .ok (.getfield 31, 3) := by decide +kernel
theorem dX10_speech_88 : decode cX10_speech 88 = .ok (.bipush 26, 2) := by decide +kernel
theorem dX10_speech_90 : decode cX10_speech 90 = .ok (.iload_n 1, 1) := by decide +kernel
theorem dX10_speech_91 : decode cX10_speech 91 = .ok (.iadd, 1) := by decide +kernel
theorem dX10_speech_92 : decode cX10_speech 92 = .ok (.iaload, 1) := by decide +kernel
theorem dX10_speech_93 : decode cX10_speech 93 = .ok (.ireturn, 1) := by decide +kernel
theorem dX10_speech_94 : decode cX10_speech 94 = .ok (.aload_n 0, 1) := by decide +kernel
theorem dX10_speech_95 : decode cX10_speech 95 = .ok (.iload_n 1, 1) := by decide +kernel
theorem dX10_speech_96 : decode cX10_speech 96 = .ok (.invokevirtual 158, 3) := by decide +kernel
theorem dX10_speech_99 : decode cX10_speech 99 = .ok (.ireturn, 1) := by decide +kernel
theorem dX10_speech_100 : decode cX10_speech 100 = .ok (.aload_n 0, 1) := by decide +kernel
theorem dX10_speech_101 : decode cX10_speech 101 = .ok (.aload_n 0, 1) := by decide +kernel
theorem dX10_speech_102 : decode cX10_speech 102 = .ok (.getfield 34, 3) := by decide +kernel
theorem dX10_speech_105 : decode cX10_speech 105 = .ok (.iload_n 1, 1) := by decide +kernel
theorem dX10_speech_106 : decode cX10_speech 106 = .ok (.invokevirtual 169, 3) := by decide +kernel
theorem dX10_speech_109 : decode cX10_speech 109 = .ok (.ireturn, 1) := by decide +kernel
theorem dX10_speech_110 : decode cX10_speech 110 = .ok (.aload_n 0, 1) := by decide +kernel
theorem dX10_speech_111 : decode cX10_speech 111 = .ok (.aload_n 0, 1) := by decide +kernel
theorem dX10_speech_112 : decode cX10_speech 112 = .ok (.getfield 34, 3) := by decide +kernel
theorem dX10_speech_115 : decode cX10_speech 115 = .ok (.iload_n 1, 1) := by decide +kernel
theorem dX10_speech_116 : decode cX10_speech 116 = .ok (.invokevirtual 208, 3) := by decide +kernel
theorem dX10_speech_119 : decode cX10_speech 119 = .ok (.ifCond .eq 7, 3) := by decide +kernel
theorem dX10_speech_122 : decode cX10_speech 122 = .ok (.iconst 1, 1) := by decide +kernel
theorem dX10_speech_123 : decode cX10_speech 123 = .ok (.goto 4, 3) := by decide +kernel
theorem dX10_speech_126 : decode cX10_speech 126 = .ok (.iconst 0, 1) := by decide +kernel
theorem dX10_speech_127 : decode cX10_speech 127 = .ok (.ireturn, 1) := by decide +kernel
theorem dX10_speech_128 : decode cX10_speech 128 = .ok (.aload_n 0, 1) := by decide +kernel
theorem dX10_speech_129 : decode cX10_speech 129 = .ok (.getfield 34, 3) := by decide +kernel
theorem dX10_speech_132 : decode cX10_speech 132 = .ok (.bipush 15, 2) := by decide +kernel
theorem dX10_speech_134 : decode cX10_speech 134 = .ok (.iload_n 1, 1) := by decide +kernel
theorem dX10_speech_135 : decode cX10_speech 135 = .ok (.iadd, 1) := by decide +kernel
theorem dX10_speech_136 : decode cX10_speech 136 = .ok (.iaload, 1) := by decide +kernel
theorem dX10_speech_137 : decode cX10_speech 137 = .ok (.ireturn, 1) := by decide +kernel
theorem dX10_speech_138 : decode cX10_speech 138 = .ok (.aload_n 0, 1) := by decide +kernel
theorem dX10_speech_139 : decode cX10_speech 139 = .ok (.aload_n 0, 1) := by decide +kernel
theorem dX10_speech_140 : decode cX10_speech 140 = .ok (.getfield 34, 3) := by decide +kernel
theorem dX10_speech_143 : decode cX10_speech 143 = .ok (.iload_n 1, 1) := by decide +kernel
theorem dX10_speech_144 : decode cX10_speech 144 = .ok (.invokevirtual 218, 3) := by decide +kernel
theorem dX10_speech_147 : decode cX10_speech 147 = .ok (.ireturn, 1) := by decide +kernel
theorem dX10_speech_148 : decode cX10_speech 148 = .ok (.aload_n 0, 1) := by decide +kernel
theorem dX10_speech_149 : decode cX10_speech 149 = .ok (.getfield 34, 3) := by decide +kernel
theorem dX10_speech_152 : decode cX10_speech 152 = .ok (.iconst 4, 1) := by decide +kernel
theorem dX10_speech_153 : decode cX10_speech 153 = .ok (.iaload, 1) := by decide +kernel
theorem dX10_speech_154 : decode cX10_speech 154 = .ok (.iload_n 1, 1) := by decide +kernel
theorem dX10_speech_155 : decode cX10_speech 155 = .ok (.ishr, 1) := by decide +kernel
theorem dX10_speech_156 : decode cX10_speech 156 = .ok (.iconst 1, 1) := by decide +kernel
theorem dX10_speech_157 : decode cX10_speech 157 = .ok (.iand, 1) := by decide +kernel
theorem dX10_speech_158 : decode cX10_speech 158 = .ok (.ireturn, 1) := by decide +kernel
theorem dX10_speech_159 : decode cX10_speech 159 = .ok (.ldc 78, 2) := by decide +kernel
theorem dX10_speech_161 : decode cX10_speech 161 = .ok (.ireturn, 1) := by decide +kernel
theorem dX10_person_0 : decode cX10_person 0 = .ok (.aload_n 0, 1) := by decide +kernel
theorem dX10_person_1 : decode cX10_person 1 = .ok (.iload_n 1, 1) := by decide +kernel
theorem dX10_person_2 : decode cX10_person 2 = .ok (.invokevirtual 215, 3) := by decide +kernel
theorem dX10_person_5 : decode cX10_person 5 = .ok (.ifCond .eq 12, 3) := by decide +kernel
theorem dX10_person_8 : decode cX10_person 8 = .ok (.iload_n 2, 1) := by decide +kernel
theorem dX10_person_9 : decode cX10_person 9 = .ok (.iconst 0, 1) := by decide +kernel
theorem dX10_person_10 : decode cX10_person 10 = .ok (.iconst 4, 1) := by decide +kernel
theorem dX10_person_11 : decode cX10_person 11 = .ok (.invokestatic 70, 3) := by decide +kernel
theorem dX10_person_14 : decode cX10_person 14 = .ok (.ifCond .ne 6, 3) := by decide +kernel
theorem dX10_person_17 : decode cX10_person 17 = .ok (.ldc 78, 2) := by decide +kernel
theorem dX10_person_19 : decode cX10_person 19 = .ok (.ireturn, 1) := by decide +kernel
theorem dX10_person_20 : decode cX10_person 20 = .ok (.iconst 0, 1) := by decide +kernel
theorem dX10_person_21 : decode cX10_person 21 = .ok (.istore_n 3, 1) := by decide +kernel
theorem dX10_person_22 : decode cX10_person 22 = .ok (.iconst 0, 1) := by decide +kernel
theorem dX10_person_23 : decode cX10_person 23 = .ok (.istore 4, 2) := by decide +kernel
theorem dX10_person_25 : decode cX10_person 25 = .ok (.iconst 0, 1) := by decide +kernel
theorem dX10_person_26 : decode cX10_person 26 = .ok (.istore 5, 2) := by decide +kernel
theorem dX10_person_28 : decode cX10_person 28 = .ok (.iload 5, 2) := by decide +kernel
theorem dX10_person_30 : decode cX10_person 30 = .ok (.aload_n 0, 1) := by decide +kernel
theorem dX10_person_31 : decode cX10_person 31 = .ok (.getfield 31, 3) := by decide +kernel
theorem dX10_person_34 : decode cX10_person 34 = .ok (.iconst 1, 1) := by decide +kernel
theorem dX10_person_35 : decode cX10_person 35 = .ok (.iaload, 1) := by decide +kernel
theorem dX10_person_36 : decode cX10_person 36 = .ok (.if_icmp .ge 67, 3) := by decide +kernel
theorem dX10_person_39 : decode cX10_person 39 = .ok (.iload_n 3, 1) := by decide +kernel
theorem dX10_person_40 : decode cX10_person 40 = .ok (.aload_n 0, 1) := by decide +kernel
theorem dX10_person_41 : decode cX10_person 41 = .ok (.getfield 34, 3) := by decide +kernel
theorem dX10_person_44 : decode cX10_person 44 = .ok (.bipush 15, 2) := by decide +kernel
theorem dX10_person_46 : decode cX10_person 46 = .ok (.iload 5, 2) := by decide +kernel
theorem dX10_person_48 : decode cX10_person 48 = .ok (.iadd, 1) := by decide +kernel
theorem dX10_person_49 : decode cX10_person 49 = .ok (.iaload, 1) := by decide +kernel
theorem dX10_person_50 : decode cX10_person 50 = .ok (.iload_n 1, 1) := by decide +kernel
theorem dX10_person_51 : decode cX10_person 51 = .ok (.invokestatic 165, 3) := by decide +kernel
theorem dX10_person_54 : decode cX10_person 54 = .ok (.ifCond .eq 10, 3) := by decide +kernel
theorem dX10_person_57 : decode cX10_person 57 = .ok (.iconst 1, 1) := by decide +kernel
theorem dX10_person_58 : decode cX10_person 58 = .ok (.iload 5, 2) := by decide +kernel
theorem dX10_person_60 : decode cX10_person 60 = .ok (.ishl, 1) := by decide +kernel
theorem dX10_person_61 : decode cX10_person 61 = .ok (.goto 4, 3) := by decide +kernel
theorem dX10_person_64 : decode cX10_person 64 = .ok (.iconst 0, 1) := by decide +kernel
theorem dX10_person_65 : decode cX10_person 65 = .ok (.ior, 1) := by decide +kernel
theorem dX10_person_66 : decode cX10_person 66 = .ok (.istore_n 3, 1) := by decide +kernel
theorem dX10_person_67 : decode cX10_person 67 = .ok (.iload 4, 2) := by decide +kernel
theorem dX10_person_69 : decode cX10_person 69 = .ok (.aload_n 0, 1) := by decide +kernel
theorem dX10_person_70 : decode cX10_person 70 = .ok (.aload_n 0, 1) := by decide +kernel
theorem dX10_person_71 : decode cX10_person 71 = .ok (.getfield 34, 3) := by decide +kernel
theorem dX10_person_74 : decode cX10_person 74 = .ok (.iload 5, 2) := by decide +kernel
theorem dX10_person_76 : decode cX10_person 76 = .ok (.invokevirtual 218, 3) := by decide +kernel
theorem dX10_person_79 : decode cX10_person 79 = .ok (.iload_n 1, 1) := by decide +kernel
theorem dX10_person_80 : decode cX10_person 80 = .ok (.invokestatic 165, 3) := by decide +kernel
theorem dX10_person_83 : decode cX10_person 83 = .ok (.ifCond .eq 10, 3) := by decide +kernel
theorem dX10_person_86 : decode cX10_person 86 = .ok (.iconst 1, 1) := by decide +kernel
theorem dX10_person_87 : decode cX10_person 87 = .ok (.iload 5, 2) := by decide +kernel
theorem dX10_person_89 : decode cX10_person 89 = .ok (.ishl, 1) := by decide +kernel
theorem dX10_person_90 : decode cX10_person 90 = .ok (.goto 4, 3) := by decide +kernel
theorem dX10_person_93 : decode cX10_person 93 = .ok (.iconst 0, 1) := by decide +kernel
theorem dX10_person_94 : decode cX10_person 94 = .ok (.ior, 1) := by decide +kernel
theorem dX10_person_95 : decode cX10_person 95 = .ok (.istore 4, 2) := by decide +kernel
theorem dX10_person_97 : decode cX10_person 97 = .ok (.iinc 5 1, 3) := by decide +kernel
theorem dX10_person_100 : decode cX10_person 100 = .ok (.goto (-72), 3) := by decide +kernel
theorem dX10_person_103 : decode cX10_person 103 = .ok (.iload_n 2, 1) := by decide +kernel
theorem dX10_person_104 : decode cX10_person 104 = .ok (.ifCond .ne 14, 3) := by decide +kernel
theorem dX10_person_107 : decode cX10_person 107 = .ok (.aload_n 0, 1) := by decide +kernel
theorem dX10_person_108 : decode cX10_person 108 = .ok (.getfield 34, 3) := by decide +kernel
theorem dX10_person_111 : decode cX10_person 111 = .ok (.iconst 5, 1) := by decide +kernel
theorem dX10_person_112 : decode cX10_person 112 = .ok (.iload_n 1, 1) := by decide +kernel
theorem dX10_person_113 : decode cX10_person 113 = .ok (.iadd, 1) := by decide +kernel
theorem dX10_person_114 : decode cX10_person 114 = .ok (.iaload, 1) := by decide +kernel
theorem dX10_person_115 : decode cX10_person 115 = .ok (.goto 47, 3) := by decide +kernel
theorem dX10_person_118 : decode cX10_person 118 = .ok (.iload_n 2, 1) := by decide +kernel
theorem dX10_person_119 : decode cX10_person 119 = .ok (.iconst 1, 1) := by decide +kernel
theorem dX10_person_120 : decode cX10_person 120 = .ok (.if_icmp .ne 14, 3) := by decide +kernel
theorem dX10_person_123 : decode cX10_person 123 = .ok (.aload_n 0, 1) := by decide +kernel
theorem dX10_person_124 : decode cX10_person 124 = .ok (.getfield 31, 3) := by decide +kernel
theorem dX10_person_127 : decode cX10_person 127 = .ok (.iconst 3, 1) := by decide +kernel
theorem dX10_person_128 : decode cX10_person 128 = .ok (.iload_n 1, 1) := by decide +kernel
theorem dX10_person_129 : decode cX10_person 129 = .ok (.iadd, 1) := by decide +kernel
theorem dX10_person_130 : decode cX10_person 130 = .ok (.iaload, 1) := by decide +kernel
theorem dX10_person_131 : decode cX10_person 131 = .ok (.goto 31, 3) := by decide +kernel
theorem dX10_person_134 : decode cX10_person 134 = .ok (.iload_n 2, 1) := by decide +kernel
theorem dX10_person_135 : decode cX10_person 135 = .ok (.iconst 2, 1) := by decide +kernel
theorem dX10_person_136 : decode cX10_person 136 = .ok (.if_icmp .ne 15, 3) := by decide +kernel
theorem dX10_person_139 : decode cX10_person 139 = .ok (.aload_n 0, 1) := by decide +kernel
theorem dX10_person_140 : decode cX10_person 140 = .ok (.getfield 34, 3) := by decide +kernel
theorem dX10_person_143 : decode cX10_person 143 = .ok (.bipush 10, 2) := by decide +kernel
theorem dX10_person_145 : decode cX10_person 145 = .ok (.iload_n 1, 1) := by decide +kernel
theorem dX10_person_146 : decode cX10_person 146 = .ok (.iadd, 1) := by decide +kernel
theorem dX10_person_147 : decode cX10_person 147 = .ok (.iaload, 1) := by decide +kernel
theorem dX10_person_148 : decode cX10_person 148 = .ok (.goto 14, 3) := by decide +kernel
theorem dX10_person_151 : decode cX10_person 151 = .ok (.iload_n 2, 1) := by decide +kernel
theorem dX10_person_152 : decode cX10_person 152 = .ok (.iconst 3, 1) := by decide +kernel
theorem dX10_person_153 : decode cX10_person 153 = .ok (.if_icmp .ne 7, 3) := by decide +kernel
theorem dX10_person_156 : decode cX10_person 156 = .ok (.iload_n 3, 1) := by decide +kernel
theorem dX10_person_157 : decode cX10_person 157 = .ok (.goto 5, 3) := by decide +kernel
theorem dX10_person_160 : decode cX10_person 160 = .ok (.iload 4, 2) := by decide +kernel
theorem dX10_person_162 : decode cX10_person 162 = .ok (.ireturn, 1) := by decide +kernel
theorem dX10_stand_0 : decode cX10_stand 0 = .ok (.aload_n 0, 1) := by decide +kernel
theorem dX10_stand_1 : decode cX10_stand 1 = .ok (.iload_n 1, 1) := by decide +kernel
theorem dX10_stand_2 : decode cX10_stand 2 = .ok (.iconst 0, 1) := by decide +kernel
theorem dX10_stand_3 : decode cX10_stand 3 = .ok (.iconst 4, 1) := by decide +kernel
theorem dX10_stand_4 : decode cX10_stand 4 = .ok (.invokestatic 70, 3) := by decide +kernel
theorem dX10_stand_7 : decode cX10_stand 7 = .ok (.invokevirtual 194, 3) := by decide +kernel
theorem dX10_stand_10 : decode cX10_stand 10 = .ok (.istore_n 2, 1) := by decide +kernel
theorem dX10_stand_11 : decode cX10_stand 11 = .ok (.iload_n 2, 1) := by decide +kernel
theorem dX10_stand_12 : decode cX10_stand 12 = .ok (.ifCond .ge 5, 3) := by decide +kernel
theorem dX10_stand_15 : decode cX10_stand 15 = .ok (.iload_n 2, 1) := by decide +kernel
theorem dX10_stand_16 : decode cX10_stand 16 = .ok (.ireturn, 1) := by decide +kernel
theorem dX10_stand_17 : decode cX10_stand 17 = .ok (.iload_n 1, 1) := by decide +kernel
theorem dX10_stand_18 : decode cX10_stand 18 = .ok (.ifCond .ne 12, 3) := by decide +kernel
theorem dX10_stand_21 : decode cX10_stand 21 = .ok (.aload_n 0, 1) := by decide +kernel
theorem dX10_stand_22 : decode cX10_stand 22 = .ok (.getfield 34, 3) := by decide +kernel
theorem dX10_stand_25 : decode cX10_stand 25 = .ok (.iconst 1, 1) := by decide +kernel
theorem dX10_stand_26 : decode cX10_stand 26 = .ok (.iaload, 1) := by decide +kernel
theorem dX10_stand_27 : decode cX10_stand 27 = .ok (.goto 51, 3) := by decide +kernel
theorem dX10_stand_30 : decode cX10_stand 30 = .ok (.iload_n 1, 1) := by decide +kernel
theorem dX10_stand_31 : decode cX10_stand 31 = .ok (.iconst 1, 1) := by decide +kernel
theorem dX10_stand_32 : decode cX10_stand 32 = .ok (.if_icmp .ne 12, 3) := by decide +kernel
theorem dX10_stand_35 : decode cX10_stand 35 = .ok (.aload_n 0, 1) := by decide +kernel
theorem dX10_stand_36 : decode cX10_stand 36 = .ok (.getfield 34, 3) := by decide +kernel
theorem dX10_stand_39 : decode cX10_stand 39 = .ok (.iconst 2, 1) := by decide +kernel
theorem dX10_stand_40 : decode cX10_stand 40 = .ok (.iaload, 1) := by decide +kernel
theorem dX10_stand_41 : decode cX10_stand 41 = .ok (.goto 37, 3) := by decide +kernel
theorem dX10_stand_44 : decode cX10_stand 44 = .ok (.iload_n 1, 1) := by decide +kernel
theorem dX10_stand_45 : decode cX10_stand 45 = .ok (.iconst 2, 1) := by decide +kernel
theorem dX10_stand_46 : decode cX10_stand 46 = .ok (.if_icmp .ne 12, 3) := by decide +kernel
theorem dX10_stand_49 : decode cX10_stand 49 = .ok (.aload_n 0, 1) := by decide +kernel
theorem dX10_stand_50 : decode cX10_stand 50 = .ok (.getfield 34, 3) := by decide +kernel
theorem dX10_stand_53 : decode cX10_stand 53 = .ok (.iconst 3, 1) := by decide +kernel
theorem dX10_stand_54 : decode cX10_stand 54 = .ok (.iaload, 1) := by decide +kernel
theorem dX10_stand_55 : decode cX10_stand 55 = .ok (.goto 23, 3) := by decide +kernel
theorem dX10_stand_58 : decode cX10_stand 58 = .ok (.iload_n 1, 1) := by decide +kernel
theorem dX10_stand_59 : decode cX10_stand 59 = .ok (.iconst 3, 1) := by decide +kernel
theorem dX10_stand_60 : decode cX10_stand 60 = .ok (.if_icmp .ne 12, 3) := by decide +kernel
theorem dX10_stand_63 : decode cX10_stand 63 = .ok (.aload_n 0, 1) := by decide +kernel
theorem dX10_stand_64 : decode cX10_stand 64 = .ok (.getfield 31, 3) := by decide +kernel
theorem dX10_stand_67 : decode cX10_stand 67 = .ok (.iconst 2, 1) := by decide +kernel
theorem dX10_stand_68 : decode cX10_stand 68 = .ok (.iaload, 1) := by decide +kernel
theorem dX10_stand_69 : decode cX10_stand 69 = .ok (.goto 9, 3) := by decide +kernel
theorem dX10_stand_72 : decode cX10_stand 72 = .ok (.aload_n 0, 1) := by decide +kernel
theorem dX10_stand_73 : decode cX10_stand 73 = .ok (.getfield 34, 3) := by decide +kernel
theorem dX10_stand_76 : decode cX10_stand 76 = .ok (.iconst 4, 1) := by decide +kernel
theorem dX10_stand_77 : decode cX10_stand 77 = .ok (.iaload, 1) := by decide +kernel
theorem dX10_stand_78 : decode cX10_stand 78 = .ok (.ireturn, 1) := by decide +kernel
theorem dX10_copyNow_0 : decode cX10_copyNow 0 = .ok (.iconst 0, 1) := by decide +kernel
theorem dX10_copyNow_1 : decode cX10_copyNow 1 = .ok (.istore_n 1, 1) := by decide +kernel
theorem dX10_copyNow_2 : decode cX10_copyNow 2 = .ok (.iload_n 1, 1) := by decide +kernel
theorem dX10_copyNow_3 : decode cX10_copyNow 3 = .ok (.bipush 21, 2) := by decide +kernel
theorem dX10_copyNow_5 : decode cX10_copyNow 5 = .ok (.if_icmp .ge 21, 3) := by decide +kernel
theorem dX10_copyNow_8 : decode cX10_copyNow 8 = .ok (.aload_n 0, 1) := by decide +kernel
theorem dX10_copyNow_9 : decode cX10_copyNow 9 = .ok (.getfield 37, 3) := by decide +kernel
theorem dX10_copyNow_12 : decode cX10_copyNow 12 = .ok (.iload_n 1, 1) := by decide +kernel
theorem dX10_copyNow_13 : decode cX10_copyNow 13 = .ok (.aload_n 0, 1) := by decide +kernel
theorem dX10_copyNow_14 : decode cX10_copyNow 14 = .ok (.getfield 34, 3) := by decide +kernel
theorem dX10_copyNow_17 : decode cX10_copyNow 17 = .ok (.iload_n 1, 1) := by decide +kernel
theorem dX10_copyNow_18 : decode cX10_copyNow 18 = .ok (.iaload, 1) := by decide +kernel
theorem dX10_copyNow_19 : decode cX10_copyNow 19 = .ok (.iastore, 1) := by decide +kernel
theorem dX10_copyNow_20 : decode cX10_copyNow 20 = .ok (.iinc 1 1, 3) := by decide +kernel
theorem dX10_copyNow_23 : decode cX10_copyNow 23 = .ok (.goto (-21), 3) := by decide +kernel
theorem dX10_copyNow_26 : decode cX10_copyNow 26 = .ok (.return_, 1) := by decide +kernel
theorem dX10_ahead_0 : decode cX10_ahead 0 = .ok (.aload_n 0, 1) := by decide +kernel
theorem dX10_ahead_1 : decode cX10_ahead 1 = .ok (.invokevirtual 221, 3) := by decide +kernel
theorem dX10_ahead_4 : decode cX10_ahead 4 = .ok (.iconst 0, 1) := by decide +kernel
theorem dX10_ahead_5 : decode cX10_ahead 5 = .ok (.istore_n 2, 1) := by decide +kernel
theorem dX10_ahead_6 : decode cX10_ahead 6 = .ok (.iload_n 2, 1) := by decide +kernel
theorem dX10_ahead_7 : decode cX10_ahead 7 = .ok (.iload_n 1, 1) := by decide +kernel
theorem dX10_ahead_8 : decode cX10_ahead 8 = .ok (.if_icmp .ge 17, 3) := by decide +kernel
theorem dX10_ahead_11 : decode cX10_ahead 11 = .ok (.aload_n 0, 1) := by decide +kernel
theorem dX10_ahead_12 : decode cX10_ahead 12 = .ok (.aload_n 0, 1) := by decide +kernel
theorem dX10_ahead_13 : decode cX10_ahead 13 = .ok (.getfield 37, 3) := by decide +kernel
theorem dX10_ahead_16 : decode cX10_ahead 16 = .ok (.invokevirtual 201, 3) := by decide +kernel
theorem dX10_ahead_19 : decode cX10_ahead 19 = .ok (.iinc 2 1, 3) := by decide +kernel
theorem dX10_ahead_22 : decode cX10_ahead 22 = .ok (.goto (-16), 3) := by decide +kernel
theorem dX10_ahead_25 : decode cX10_ahead 25 = .ok (.return_, 1) := by decide +kernel
theorem dX10_isAhead_0 : decode cX10_isAhead 0 = .ok (.iload_n 0, 1) := by decide +kernel
theorem dX10_isAhead_1 : decode cX10_isAhead 1 = .ok (.iconst 0, 1) := by decide +kernel
theorem dX10_isAhead_2 : decode cX10_isAhead 2 = .ok (.bipush 60, 2) := by decide +kernel
theorem dX10_isAhead_4 : decode cX10_isAhead 4 = .ok (.invokestatic 70, 3) := by decide +kernel
theorem dX10_isAhead_7 : decode cX10_isAhead 7 = .ok (.ireturn, 1) := by decide +kernel
theorem dX10_purse_0 : decode cX10_purse 0 = .ok (.aload_n 0, 1) := by decide +kernel
theorem dX10_purse_1 : decode cX10_purse 1 = .ok (.iload_n 1, 1) := by decide +kernel
theorem dX10_purse_2 : decode cX10_purse 2 = .ok (.invokevirtual 215, 3) := by decide +kernel
theorem dX10_purse_5 : decode cX10_purse 5 = .ok (.ifCond .eq 10, 3) := by decide +kernel
theorem dX10_purse_8 : decode cX10_purse 8 = .ok (.iload_n 2, 1) := by decide +kernel
theorem dX10_purse_9 : decode cX10_purse 9 = .ok (.invokestatic 224, 3) := by decide +kernel
theorem dX10_purse_12 : decode cX10_purse 12 = .ok (.ifCond .ne 6, 3) := by decide +kernel
theorem dX10_purse_15 : decode cX10_purse 15 = .ok (.ldc 78, 2) := by decide +kernel
theorem dX10_purse_17 : decode cX10_purse 17 = .ok (.ireturn, 1) := by decide +kernel
theorem dX10_purse_18 : decode cX10_purse 18 = .ok (.aload_n 0, 1) := by decide +kernel
theorem dX10_purse_19 : decode cX10_purse 19 = .ok (.iload_n 2, 1) := by decide +kernel
theorem dX10_purse_20 : decode cX10_purse 20 = .ok (.invokevirtual 227, 3) := by decide +kernel
theorem dX10_purse_23 : decode cX10_purse 23 = .ok (.aload_n 0, 1) := by decide +kernel
theorem dX10_purse_24 : decode cX10_purse 24 = .ok (.getfield 37, 3) := by decide +kernel
theorem dX10_purse_27 : decode cX10_purse 27 = .ok (.iconst 5, 1) := by decide +kernel
theorem dX10_purse_28 : decode cX10_purse 28 = .ok (.iload_n 1, 1) := by decide +kernel
theorem dX10_purse_29 : decode cX10_purse 29 = .ok (.iadd, 1) := by decide +kernel
theorem dX10_purse_30 : decode cX10_purse 30 = .ok (.iaload, 1) := by decide +kernel
theorem dX10_purse_31 : decode cX10_purse 31 = .ok (.ireturn, 1) := by decide +kernel
theorem dX10_hill_0 : decode cX10_hill 0 = .ok (.aload_n 0, 1) := by decide +kernel
theorem dX10_hill_1 : decode cX10_hill 1 = .ok (.iload_n 1, 1) := by decide +kernel
theorem dX10_hill_2 : decode cX10_hill 2 = .ok (.invokestatic 224, 3) := by decide +kernel
theorem dX10_hill_5 : decode cX10_hill 5 = .ok (.invokevirtual 194, 3) := by decide +kernel
theorem dX10_hill_8 : decode cX10_hill 8 = .ok (.istore_n 2, 1) := by decide +kernel
theorem dX10_hill_9 : decode cX10_hill 9 = .ok (.iload_n 2, 1) := by decide +kernel
theorem dX10_hill_10 : decode cX10_hill 10 = .ok (.ifCond .ge 5, 3) := by decide +kernel
theorem dX10_hill_13 : decode cX10_hill 13 = .ok (.iload_n 2, 1) := by decide +kernel
theorem dX10_hill_14 : decode cX10_hill 14 = .ok (.ireturn, 1) := by decide +kernel
theorem dX10_hill_15 : decode cX10_hill 15 = .ok (.aload_n 0, 1) := by decide +kernel
theorem dX10_hill_16 : decode cX10_hill 16 = .ok (.iload_n 1, 1) := by decide +kernel
theorem dX10_hill_17 : decode cX10_hill 17 = .ok (.invokevirtual 227, 3) := by decide +kernel
theorem dX10_hill_20 : decode cX10_hill 20 = .ok (.aload_n 0, 1) := by decide +kernel
theorem dX10_hill_21 : decode cX10_hill 21 = .ok (.getfield 37, 3) := by decide +kernel
theorem dX10_hill_24 : decode cX10_hill 24 = .ok (.iconst 2, 1) := by decide +kernel
theorem dX10_hill_25 : decode cX10_hill 25 = .ok (.iaload, 1) := by decide +kernel
theorem dX10_hill_26 : decode cX10_hill 26 = .ok (.ireturn, 1) := by decide +kernel
theorem dX10_known_0 : decode cX10_known 0 = .ok (.aload_n 0, 1) := by decide +kernel
theorem dX10_known_1 : decode cX10_known 1 = .ok (.iload_n 1, 1) := by decide +kernel
theorem dX10_known_2 : decode cX10_known 2 = .ok (.invokevirtual 205, 3) := by decide +kernel
theorem dX10_known_5 : decode cX10_known 5 = .ok (.ifCond .eq 10, 3) := by decide +kernel
theorem dX10_known_8 : decode cX10_known 8 = .ok (.iload_n 2, 1) := by decide +kernel
theorem dX10_known_9 : decode cX10_known 9 = .ok (.invokestatic 224, 3) := by decide +kernel
theorem dX10_known_12 : decode cX10_known 12 = .ok (.ifCond .ne 6, 3) := by decide +kernel
theorem dX10_known_15 : decode cX10_known 15 = .ok (.ldc 78, 2) := by decide +kernel
theorem dX10_known_17 : decode cX10_known 17 = .ok (.ireturn, 1) := by decide +kernel
theorem dX10_known_18 : decode cX10_known 18 = .ok (.aload_n 0, 1) := by decide +kernel
theorem dX10_known_19 : decode cX10_known 19 = .ok (.iload_n 2, 1) := by decide +kernel
theorem dX10_known_20 : decode cX10_known 20 = .ok (.invokevirtual 227, 3) := by decide +kernel
theorem dX10_known_23 : decode cX10_known 23 = .ok (.aload_n 0, 1) := by decide +kernel
theorem dX10_known_24 : decode cX10_known 24 = .ok (.getfield 37, 3) := by decide +kernel
theorem dX10_known_27 : decode cX10_known 27 = .ok (.bipush 15, 2) := by decide +kernel
theorem dX10_known_29 : decode cX10_known 29 = .ok (.iload_n 1, 1) := by decide +kernel
theorem dX10_known_30 : decode cX10_known 30 = .ok (.iadd, 1) := by decide +kernel
theorem dX10_known_31 : decode cX10_known 31 = .ok (.iaload, 1) := by decide +kernel
theorem dX10_known_32 : decode cX10_known 32 = .ok (.ireturn, 1) := by decide +kernel
theorem dX10_allKnow_0 : decode cX10_allKnow 0 = .ok (.aload_n 0, 1) := by decide +kernel
theorem dX10_allKnow_1 : decode cX10_allKnow 1 = .ok (.iload_n 1, 1) := by decide +kernel
theorem dX10_allKnow_2 : decode cX10_allKnow 2 = .ok (.invokevirtual 205, 3) := by decide +kernel
theorem dX10_allKnow_5 : decode cX10_allKnow 5 = .ok (.ifCond .ne 6, 3) := by decide +kernel
theorem dX10_allKnow_8 : decode cX10_allKnow 8 = .ok (.ldc 78, 2) := by decide +kernel
theorem dX10_allKnow_10 : decode cX10_allKnow 10 = .ok (.ireturn, 1) := by decide +kernel
theorem dX10_allKnow_11 : decode cX10_allKnow 11 = .ok (.aload_n 0, 1) := by decide +kernel
theorem dX10_allKnow_12 : decode cX10_allKnow 12 = .ok (.invokevirtual 221, 3) := by decide +kernel
theorem dX10_allKnow_15 : decode cX10_allKnow 15 = .ok (.iconst 0, 1) := by decide +kernel
theorem dX10_allKnow_16 : decode cX10_allKnow 16 = .ok (.istore_n 2, 1) := by decide +kernel
theorem dX10_allKnow_17 : decode cX10_allKnow 17 = .ok (.iload_n 2, 1) := by decide +kernel
theorem dX10_allKnow_18 : decode cX10_allKnow 18 = .ok (.bipush 60, 2) := by decide +kernel
theorem dX10_allKnow_20 : decode cX10_allKnow 20 = .ok (.if_icmp .gt 35, 3) := by decide +kernel
theorem dX10_allKnow_23 : decode cX10_allKnow 23 = .ok (.aload_n 0, 1) := by decide +kernel
theorem dX10_allKnow_24 : decode cX10_allKnow 24 = .ok (.getfield 37, 3) := by decide +kernel
theorem dX10_allKnow_27 : decode cX10_allKnow 27 = .ok (.bipush 15, 2) := by decide +kernel
theorem dX10_allKnow_29 : decode cX10_allKnow 29 = .ok (.iload_n 1, 1) := by decide +kernel
theorem dX10_allKnow_30 : decode cX10_allKnow 30 = .ok (.iadd, 1) := by decide +kernel
theorem dX10_allKnow_31 : decode cX10_allKnow 31 = .ok (.iaload, 1) := by decide +kernel
theorem dX10_allKnow_32 : decode cX10_allKnow 32 = .ok (.aload_n 0, 1) := by decide +kernel
theorem dX10_allKnow_33 : decode cX10_allKnow 33 = .ok (.invokevirtual 176, 3) := by decide +kernel
theorem dX10_allKnow_36 : decode cX10_allKnow 36 = .ok (.if_icmp .ne 5, 3) := by decide +kernel
theorem dX10_allKnow_39 : decode cX10_allKnow 39 = .ok (.iload_n 2, 1) := by decide +kernel
theorem dX10_allKnow_40 : decode cX10_allKnow 40 = .ok (.ireturn, 1) := by decide +kernel
theorem dX10_allKnow_41 : decode cX10_allKnow 41 = .ok (.aload_n 0, 1) := by decide +kernel
theorem dX10_allKnow_42 : decode cX10_allKnow 42 = .ok (.aload_n 0, 1) := by decide +kernel
theorem dX10_allKnow_43 : decode cX10_allKnow 43 = .ok (.getfield 37, 3) := by decide +kernel
theorem dX10_allKnow_46 : decode cX10_allKnow 46 = .ok (.invokevirtual 201, 3) := by decide +kernel
theorem dX10_allKnow_49 : decode cX10_allKnow 49 = .ok (.iinc 2 1, 3) := by decide +kernel
theorem dX10_allKnow_52 : decode cX10_allKnow 52 = .ok (.goto (-35), 3) := by decide +kernel
theorem dX10_allKnow_55 : decode cX10_allKnow 55 = .ok (.ldc 133, 2) := by decide +kernel
theorem dX10_allKnow_57 : decode cX10_allKnow 57 = .ok (.ireturn, 1) := by decide +kernel
theorem dX10_when_0 : decode cX10_when 0 = .ok (.aload_n 0, 1) := by decide +kernel
theorem dX10_when_1 : decode cX10_when 1 = .ok (.iload_n 1, 1) := by decide +kernel
theorem dX10_when_2 : decode cX10_when 2 = .ok (.invokevirtual 205, 3) := by decide +kernel
theorem dX10_when_5 : decode cX10_when 5 = .ok (.ifCond .ne 6, 3) := by decide +kernel
theorem dX10_when_8 : decode cX10_when 8 = .ok (.ldc 78, 2) := by decide +kernel
theorem dX10_when_10 : decode cX10_when 10 = .ok (.ireturn, 1) := by decide +kernel
theorem dX10_when_11 : decode cX10_when 11 = .ok (.aload_n 0, 1) := by decide +kernel
theorem dX10_when_12 : decode cX10_when 12 = .ok (.getfield 34, 3) := by decide +kernel
theorem dX10_when_15 : decode cX10_when 15 = .ok (.iconst 4, 1) := by decide +kernel
theorem dX10_when_16 : decode cX10_when 16 = .ok (.iaload, 1) := by decide +kernel
theorem dX10_when_17 : decode cX10_when 17 = .ok (.iload_n 1, 1) := by decide +kernel
theorem dX10_when_18 : decode cX10_when 18 = .ok (.invokestatic 165, 3) := by decide +kernel
theorem dX10_when_21 : decode cX10_when 21 = .ok (.ifCond .eq 6, 3) := by decide +kernel
theorem dX10_when_24 : decode cX10_when 24 = .ok (.ldc 193, 2) := by decide +kernel
theorem dX10_when_26 : decode cX10_when 26 = .ok (.ireturn, 1) := by decide +kernel
theorem dX10_when_27 : decode cX10_when 27 = .ok (.aload_n 0, 1) := by decide +kernel
theorem dX10_when_28 : decode cX10_when 28 = .ok (.invokevirtual 221, 3) := by decide +kernel
theorem dX10_when_31 : decode cX10_when 31 = .ok (.iconst 0, 1) := by decide +kernel
theorem dX10_when_32 : decode cX10_when 32 = .ok (.istore_n 2, 1) := by decide +kernel
theorem dX10_when_33 : decode cX10_when 33 = .ok (.iload_n 2, 1) := by decide +kernel
theorem dX10_when_34 : decode cX10_when 34 = .ok (.bipush 60, 2) := by decide +kernel
theorem dX10_when_36 : decode cX10_when 36 = .ok (.if_icmp .gt 31, 3) := by decide +kernel
theorem dX10_when_39 : decode cX10_when 39 = .ok (.aload_n 0, 1) := by decide +kernel
theorem dX10_when_40 : decode cX10_when 40 = .ok (.aload_n 0, 1) := by decide +kernel
theorem dX10_when_41 : decode cX10_when 41 = .ok (.getfield 37, 3) := by decide +kernel
theorem dX10_when_44 : decode cX10_when 44 = .ok (.iload_n 1, 1) := by decide +kernel
theorem dX10_when_45 : decode cX10_when 45 = .ok (.invokevirtual 208, 3) := by decide +kernel
theorem dX10_when_48 : decode cX10_when 48 = .ok (.ifCond .eq 5, 3) := by decide +kernel
theorem dX10_when_51 : decode cX10_when 51 = .ok (.iload_n 2, 1) := by decide +kernel
theorem dX10_when_52 : decode cX10_when 52 = .ok (.ireturn, 1) := by decide +kernel
theorem dX10_when_53 : decode cX10_when 53 = .ok (.aload_n 0, 1) := by decide +kernel
theorem dX10_when_54 : decode cX10_when 54 = .ok (.aload_n 0, 1) := by decide +kernel
theorem dX10_when_55 : decode cX10_when 55 = .ok (.getfield 37, 3) := by decide +kernel
theorem dX10_when_58 : decode cX10_when 58 = .ok (.invokevirtual 201, 3) := by decide +kernel
theorem dX10_when_61 : decode cX10_when 61 = .ok (.iinc 2 1, 3) := by decide +kernel
theorem dX10_when_64 : decode cX10_when 64 = .ok (.goto (-31), 3) := by decide +kernel
theorem dX10_when_67 : decode cX10_when 67 = .ok (.ldc 133, 2) := by decide +kernel
theorem dX10_when_69 : decode cX10_when 69 = .ok (.ireturn, 1) := by decide +kernel
theorem dX10_saidAll_0 : decode cX10_saidAll 0 = .ok (.aload_n 0, 1) := by decide +kernel
theorem dX10_saidAll_1 : decode cX10_saidAll 1 = .ok (.invokevirtual 221, 3) := by decide +kernel
theorem dX10_saidAll_4 : decode cX10_saidAll 4 = .ok (.iconst 0, 1) := by decide +kernel
theorem dX10_saidAll_5 : decode cX10_saidAll 5 = .ok (.istore_n 2, 1) := by decide +kernel
theorem dX10_saidAll_6 : decode cX10_saidAll 6 = .ok (.iconst 1, 1) := by decide +kernel
theorem dX10_saidAll_7 : decode cX10_saidAll 7 = .ok (.istore_n 3, 1) := by decide +kernel
end
section
theorem dX10_saidAll_8 : decode cX10_saidAll 8 = .ok (.iconst 0, 1) := by decide +kernel
theorem dX10_saidAll_9 : decode cX10_saidAll 9 = .ok (.istore 4, 2) := by decide +kernel
theorem dX10_saidAll_11 : decode cX10_saidAll 11 = .ok (.iload 4, 2) := by decide +kernel
theorem dX10_saidAll_13 : decode cX10_saidAll 13 = .ok (.aload_n 0, 1) := by decide +kernel
theorem dX10_saidAll_14 : decode cX10_saidAll 14 = .ok (.getfield 31, 3) := by decide +kernel
theorem dX10_saidAll_17 : decode cX10_saidAll 17 = .ok (.iconst 1, 1) := by decide +kernel
theorem dX10_saidAll_18 : decode cX10_saidAll 18 = .ok (.iaload, 1) := by decide +kernel
theorem dX10_saidAll_19 : decode cX10_saidAll 19 = .ok (.if_icmp .ge 54, 3) := by decide +kernel
theorem dX10_saidAll_22 : decode cX10_saidAll 22 = .ok (.iload_n 3, 1) := by decide +kernel
theorem dX10_saidAll_23 : decode cX10_saidAll 23 = .ok (.ifCond .eq 50, 3) := by decide +kernel
theorem dX10_saidAll_26 : decode cX10_saidAll 26 = .ok (.iload_n 1, 1) := by decide +kernel
theorem dX10_saidAll_27 : decode cX10_saidAll 27 = .ok (.iload 4, 2) := by decide +kernel
theorem dX10_saidAll_29 : decode cX10_saidAll 29 = .ok (.invokestatic 165, 3) := by decide +kernel
theorem dX10_saidAll_32 : decode cX10_saidAll 32 = .ok (.ifCond .eq 35, 3) := by decide +kernel
theorem dX10_saidAll_35 : decode cX10_saidAll 35 = .ok (.aload_n 0, 1) := by decide +kernel
theorem dX10_saidAll_36 : decode cX10_saidAll 36 = .ok (.aload_n 0, 1) := by decide +kernel
theorem dX10_saidAll_37 : decode cX10_saidAll 37 = .ok (.getfield 37, 3) := by decide +kernel
theorem dX10_saidAll_40 : decode cX10_saidAll 40 = .ok (.iload 4, 2) := by decide +kernel
theorem dX10_saidAll_42 : decode cX10_saidAll 42 = .ok (.invokevirtual 208, 3) := by decide +kernel
theorem dX10_saidAll_45 : decode cX10_saidAll 45 = .ok (.istore_n 3, 1) := by decide +kernel
theorem dX10_saidAll_46 : decode cX10_saidAll 46 = .ok (.iload_n 2, 1) := by decide +kernel
theorem dX10_saidAll_47 : decode cX10_saidAll 47 = .ok (.iload_n 3, 1) := by decide +kernel
theorem dX10_saidAll_48 : decode cX10_saidAll 48 = .ok (.ifCond .eq 16, 3) := by decide +kernel
theorem dX10_saidAll_51 : decode cX10_saidAll 51 = .ok (.aload_n 0, 1) := by decide +kernel
theorem dX10_saidAll_52 : decode cX10_saidAll 52 = .ok (.aload_n 0, 1) := by decide +kernel
theorem dX10_saidAll_53 : decode cX10_saidAll 53 = .ok (.getfield 37, 3) := by decide +kernel
theorem dX10_saidAll_56 : decode cX10_saidAll 56 = .ok (.iload 4, 2) := by decide +kernel
theorem dX10_saidAll_58 : decode cX10_saidAll 58 = .ok (.invokevirtual 212, 3) := by decide +kernel
theorem dX10_saidAll_61 : decode cX10_saidAll 61 = .ok (.goto 4, 3) := by decide +kernel
theorem dX10_saidAll_64 : decode cX10_saidAll 64 = .ok (.iconst 0, 1) := by decide +kernel
theorem dX10_saidAll_65 : decode cX10_saidAll 65 = .ok (.iadd, 1) := by decide +kernel
theorem dX10_saidAll_66 : decode cX10_saidAll 66 = .ok (.istore_n 2, 1) := by decide +kernel
theorem dX10_saidAll_67 : decode cX10_saidAll 67 = .ok (.iinc 4 1, 3) := by decide +kernel
theorem dX10_saidAll_70 : decode cX10_saidAll 70 = .ok (.goto (-59), 3) := by decide +kernel
theorem dX10_saidAll_73 : decode cX10_saidAll 73 = .ok (.iload_n 3, 1) := by decide +kernel
theorem dX10_saidAll_74 : decode cX10_saidAll 74 = .ok (.ifCond .eq 7, 3) := by decide +kernel
theorem dX10_saidAll_77 : decode cX10_saidAll 77 = .ok (.iload_n 2, 1) := by decide +kernel
theorem dX10_saidAll_78 : decode cX10_saidAll 78 = .ok (.goto 4, 3) := by decide +kernel
theorem dX10_saidAll_81 : decode cX10_saidAll 81 = .ok (.iconst (-1), 1) := by decide +kernel
theorem dX10_saidAll_82 : decode cX10_saidAll 82 = .ok (.ireturn, 1) := by decide +kernel
theorem dX10_most_0 : decode cX10_most 0 = .ok (.aload_n 0, 1) := by decide +kernel
theorem dX10_most_1 : decode cX10_most 1 = .ok (.iload_n 1, 1) := by decide +kernel
theorem dX10_most_2 : decode cX10_most 2 = .ok (.iconst 0, 1) := by decide +kernel
theorem dX10_most_3 : decode cX10_most 3 = .ok (.iconst 2, 1) := by decide +kernel
theorem dX10_most_4 : decode cX10_most 4 = .ok (.invokestatic 70, 3) := by decide +kernel
theorem dX10_most_7 : decode cX10_most 7 = .ok (.invokevirtual 194, 3) := by decide +kernel
theorem dX10_most_10 : decode cX10_most 10 = .ok (.istore_n 2, 1) := by decide +kernel
theorem dX10_most_11 : decode cX10_most 11 = .ok (.iload_n 2, 1) := by decide +kernel
theorem dX10_most_12 : decode cX10_most 12 = .ok (.ifCond .ge 5, 3) := by decide +kernel
theorem dX10_most_15 : decode cX10_most 15 = .ok (.iload_n 2, 1) := by decide +kernel
theorem dX10_most_16 : decode cX10_most 16 = .ok (.ireturn, 1) := by decide +kernel
theorem dX10_most_17 : decode cX10_most 17 = .ok (.iconst 0, 1) := by decide +kernel
theorem dX10_most_18 : decode cX10_most 18 = .ok (.istore_n 3, 1) := by decide +kernel
theorem dX10_most_19 : decode cX10_most 19 = .ok (.iconst 0, 1) := by decide +kernel
theorem dX10_most_20 : decode cX10_most 20 = .ok (.istore 4, 2) := by decide +kernel
theorem dX10_most_22 : decode cX10_most 22 = .ok (.iconst 1, 1) := by decide +kernel
theorem dX10_most_23 : decode cX10_most 23 = .ok (.istore 5, 2) := by decide +kernel
theorem dX10_most_25 : decode cX10_most 25 = .ok (.iload 5, 2) := by decide +kernel
theorem dX10_most_27 : decode cX10_most 27 = .ok (.iconst 1, 1) := by decide +kernel
theorem dX10_most_28 : decode cX10_most 28 = .ok (.aload_n 0, 1) := by decide +kernel
theorem dX10_most_29 : decode cX10_most 29 = .ok (.getfield 31, 3) := by decide +kernel
theorem dX10_most_32 : decode cX10_most 32 = .ok (.iconst 1, 1) := by decide +kernel
theorem dX10_most_33 : decode cX10_most 33 = .ok (.iaload, 1) := by decide +kernel
theorem dX10_most_34 : decode cX10_most 34 = .ok (.ishl, 1) := by decide +kernel
theorem dX10_most_35 : decode cX10_most 35 = .ok (.if_icmp .ge 86, 3) := by decide +kernel
theorem dX10_most_38 : decode cX10_most 38 = .ok (.aload_n 0, 1) := by decide +kernel
theorem dX10_most_39 : decode cX10_most 39 = .ok (.iload 5, 2) := by decide +kernel
theorem dX10_most_41 : decode cX10_most 41 = .ok (.invokevirtual 231, 3) := by decide +kernel
theorem dX10_most_44 : decode cX10_most 44 = .ok (.istore 6, 2) := by decide +kernel
theorem dX10_most_46 : decode cX10_most 46 = .ok (.iload 6, 2) := by decide +kernel
theorem dX10_most_48 : decode cX10_most 48 = .ok (.ifCond .lt 38, 3) := by decide +kernel
theorem dX10_most_51 : decode cX10_most 51 = .ok (.iload 5, 2) := by decide +kernel
theorem dX10_most_53 : decode cX10_most 53 = .ok (.invokestatic 234, 3) := by decide +kernel
theorem dX10_most_56 : decode cX10_most 56 = .ok (.iload_n 3, 1) := by decide +kernel
theorem dX10_most_57 : decode cX10_most 57 = .ok (.invokestatic 234, 3) := by decide +kernel
theorem dX10_most_60 : decode cX10_most 60 = .ok (.if_icmp .gt 22, 3) := by decide +kernel
theorem dX10_most_63 : decode cX10_most 63 = .ok (.iload 5, 2) := by decide +kernel
theorem dX10_most_65 : decode cX10_most 65 = .ok (.invokestatic 234, 3) := by decide +kernel
theorem dX10_most_68 : decode cX10_most 68 = .ok (.iload_n 3, 1) := by decide +kernel
theorem dX10_most_69 : decode cX10_most 69 = .ok (.invokestatic 234, 3) := by decide +kernel
theorem dX10_most_72 : decode cX10_most 72 = .ok (.if_icmp .ne 14, 3) := by decide +kernel
theorem dX10_most_75 : decode cX10_most 75 = .ok (.iload 6, 2) := by decide +kernel
theorem dX10_most_77 : decode cX10_most 77 = .ok (.iload 4, 2) := by decide +kernel
theorem dX10_most_79 : decode cX10_most 79 = .ok (.if_icmp .ge 7, 3) := by decide +kernel
theorem dX10_most_82 : decode cX10_most 82 = .ok (.iconst 1, 1) := by decide +kernel
theorem dX10_most_83 : decode cX10_most 83 = .ok (.goto 4, 3) := by decide +kernel
theorem dX10_most_86 : decode cX10_most 86 = .ok (.iconst 0, 1) := by decide +kernel
theorem dX10_most_87 : decode cX10_most 87 = .ok (.istore 7, 2) := by decide +kernel
theorem dX10_most_89 : decode cX10_most 89 = .ok (.iload 7, 2) := by decide +kernel
theorem dX10_most_91 : decode cX10_most 91 = .ok (.ifCond .eq 8, 3) := by decide +kernel
theorem dX10_most_94 : decode cX10_most 94 = .ok (.iload 5, 2) := by decide +kernel
theorem dX10_most_96 : decode cX10_most 96 = .ok (.goto 4, 3) := by decide +kernel
theorem dX10_most_99 : decode cX10_most 99 = .ok (.iload_n 3, 1) := by decide +kernel
theorem dX10_most_100 : decode cX10_most 100 = .ok (.istore_n 3, 1) := by decide +kernel
theorem dX10_most_101 : decode cX10_most 101 = .ok (.iload 7, 2) := by decide +kernel
theorem dX10_most_103 : decode cX10_most 103 = .ok (.ifCond .eq 8, 3) := by decide +kernel
theorem dX10_most_106 : decode cX10_most 106 = .ok (.iload 6, 2) := by decide +kernel
theorem dX10_most_108 : decode cX10_most 108 = .ok (.goto 5, 3) := by decide +kernel
theorem dX10_most_111 : decode cX10_most 111 = .ok (.iload 4, 2) := by decide +kernel
theorem dX10_most_113 : decode cX10_most 113 = .ok (.istore 4, 2) := by decide +kernel
theorem dX10_most_115 : decode cX10_most 115 = .ok (.iinc 5 1, 3) := by decide +kernel
theorem dX10_most_118 : decode cX10_most 118 = .ok (.goto (-93), 3) := by decide +kernel
theorem dX10_most_121 : decode cX10_most 121 = .ok (.aload_n 0, 1) := by decide +kernel
theorem dX10_most_122 : decode cX10_most 122 = .ok (.iload_n 3, 1) := by decide +kernel
theorem dX10_most_123 : decode cX10_most 123 = .ok (.invokevirtual 231, 3) := by decide +kernel
theorem dX10_most_126 : decode cX10_most 126 = .ok (.pop, 1) := by decide +kernel
theorem dX10_most_127 : decode cX10_most 127 = .ok (.aload_n 0, 1) := by decide +kernel
theorem dX10_most_128 : decode cX10_most 128 = .ok (.invokevirtual 176, 3) := by decide +kernel
theorem dX10_most_131 : decode cX10_most 131 = .ok (.istore 5, 2) := by decide +kernel
theorem dX10_most_133 : decode cX10_most 133 = .ok (.iconst 0, 1) := by decide +kernel
theorem dX10_most_134 : decode cX10_most 134 = .ok (.istore 6, 2) := by decide +kernel
theorem dX10_most_136 : decode cX10_most 136 = .ok (.iload 6, 2) := by decide +kernel
theorem dX10_most_138 : decode cX10_most 138 = .ok (.aload_n 0, 1) := by decide +kernel
theorem dX10_most_139 : decode cX10_most 139 = .ok (.getfield 31, 3) := by decide +kernel
theorem dX10_most_142 : decode cX10_most 142 = .ok (.iconst 1, 1) := by decide +kernel
theorem dX10_most_143 : decode cX10_most 143 = .ok (.iaload, 1) := by decide +kernel
theorem dX10_most_144 : decode cX10_most 144 = .ok (.if_icmp .ge 40, 3) := by decide +kernel
theorem dX10_most_147 : decode cX10_most 147 = .ok (.iload 5, 2) := by decide +kernel
theorem dX10_most_149 : decode cX10_most 149 = .ok (.iload_n 3, 1) := by decide +kernel
theorem dX10_most_150 : decode cX10_most 150 = .ok (.iload 6, 2) := by decide +kernel
theorem dX10_most_152 : decode cX10_most 152 = .ok (.invokestatic 165, 3) := by decide +kernel
theorem dX10_most_155 : decode cX10_most 155 = .ok (.ifCond .eq 16, 3) := by decide +kernel
theorem dX10_most_158 : decode cX10_most 158 = .ok (.aload_n 0, 1) := by decide +kernel
theorem dX10_most_159 : decode cX10_most 159 = .ok (.aload_n 0, 1) := by decide +kernel
theorem dX10_most_160 : decode cX10_most 160 = .ok (.getfield 37, 3) := by decide +kernel
theorem dX10_most_163 : decode cX10_most 163 = .ok (.iload 6, 2) := by decide +kernel
theorem dX10_most_165 : decode cX10_most 165 = .ok (.invokevirtual 218, 3) := by decide +kernel
theorem dX10_most_168 : decode cX10_most 168 = .ok (.goto 7, 3) := by decide +kernel
theorem dX10_most_171 : decode cX10_most 171 = .ok (.aload_n 0, 1) := by decide +kernel
theorem dX10_most_172 : decode cX10_most 172 = .ok (.invokevirtual 176, 3) := by decide +kernel
theorem dX10_most_175 : decode cX10_most 175 = .ok (.iand, 1) := by decide +kernel
theorem dX10_most_176 : decode cX10_most 176 = .ok (.istore 5, 2) := by decide +kernel
theorem dX10_most_178 : decode cX10_most 178 = .ok (.iinc 6 1, 3) := by decide +kernel
theorem dX10_most_181 : decode cX10_most 181 = .ok (.goto (-45), 3) := by decide +kernel
theorem dX10_most_184 : decode cX10_most 184 = .ok (.iload_n 1, 1) := by decide +kernel
theorem dX10_most_185 : decode cX10_most 185 = .ok (.ifCond .ne 7, 3) := by decide +kernel
theorem dX10_most_188 : decode cX10_most 188 = .ok (.iload_n 3, 1) := by decide +kernel
theorem dX10_most_189 : decode cX10_most 189 = .ok (.goto 18, 3) := by decide +kernel
theorem dX10_most_192 : decode cX10_most 192 = .ok (.iload_n 1, 1) := by decide +kernel
theorem dX10_most_193 : decode cX10_most 193 = .ok (.iconst 1, 1) := by decide +kernel
theorem dX10_most_194 : decode cX10_most 194 = .ok (.if_icmp .ne 8, 3) := by decide +kernel
theorem dX10_most_197 : decode cX10_most 197 = .ok (.iload 4, 2) := by decide +kernel
theorem dX10_most_199 : decode cX10_most 199 = .ok (.goto 8, 3) := by decide +kernel
theorem dX10_most_202 : decode cX10_most 202 = .ok (.iload 5, 2) := by decide +kernel
theorem dX10_most_204 : decode cX10_most 204 = .ok (.invokestatic 234, 3) := by decide +kernel
theorem dX10_most_207 : decode cX10_most 207 = .ok (.ireturn, 1) := by decide +kernel
theorem dX10_weeksOf_0 : decode cX10_weeksOf 0 = .ok (.iload_n 1, 1) := by decide +kernel
theorem dX10_weeksOf_1 : decode cX10_weeksOf 1 = .ok (.istore_n 3, 1) := by decide +kernel
theorem dX10_weeksOf_2 : decode cX10_weeksOf 2 = .ok (.aload_n 0, 1) := by decide +kernel
theorem dX10_weeksOf_3 : decode cX10_weeksOf 3 = .ok (.getfield 34, 3) := by decide +kernel
theorem dX10_weeksOf_6 : decode cX10_weeksOf 6 = .ok (.iconst 4, 1) := by decide +kernel
theorem dX10_weeksOf_7 : decode cX10_weeksOf 7 = .ok (.iaload, 1) := by decide +kernel
theorem dX10_weeksOf_8 : decode cX10_weeksOf 8 = .ok (.istore 4, 2) := by decide +kernel
theorem dX10_weeksOf_10 : decode cX10_weeksOf 10 = .ok (.iconst 1, 1) := by decide +kernel
theorem dX10_weeksOf_11 : decode cX10_weeksOf 11 = .ok (.istore 5, 2) := by decide +kernel
theorem dX10_weeksOf_13 : decode cX10_weeksOf 13 = .ok (.iload_n 2, 1) := by decide +kernel
theorem dX10_weeksOf_14 : decode cX10_weeksOf 14 = .ok (.iconst 1, 1) := by decide +kernel
theorem dX10_weeksOf_15 : decode cX10_weeksOf 15 = .ok (.isub, 1) := by decide +kernel
theorem dX10_weeksOf_16 : decode cX10_weeksOf 16 = .ok (.istore 6, 2) := by decide +kernel
theorem dX10_weeksOf_18 : decode cX10_weeksOf 18 = .ok (.iload 6, 2) := by decide +kernel
theorem dX10_weeksOf_20 : decode cX10_weeksOf 20 = .ok (.ifCond .lt 74, 3) := by decide +kernel
theorem dX10_weeksOf_23 : decode cX10_weeksOf 23 = .ok (.aload_n 0, 1) := by decide +kernel
theorem dX10_weeksOf_24 : decode cX10_weeksOf 24 = .ok (.getfield 43, 3) := by decide +kernel
theorem dX10_weeksOf_27 : decode cX10_weeksOf 27 = .ok (.iload 6, 2) := by decide +kernel
theorem dX10_weeksOf_29 : decode cX10_weeksOf 29 = .ok (.iload_n 3, 1) := by decide +kernel
theorem dX10_weeksOf_30 : decode cX10_weeksOf 30 = .ok (.aload_n 0, 1) := by decide +kernel
theorem dX10_weeksOf_31 : decode cX10_weeksOf 31 = .ok (.getfield 31, 3) := by decide +kernel
theorem dX10_weeksOf_34 : decode cX10_weeksOf 34 = .ok (.iconst 1, 1) := by decide +kernel
theorem dX10_weeksOf_35 : decode cX10_weeksOf 35 = .ok (.iaload, 1) := by decide +kernel
theorem dX10_weeksOf_36 : decode cX10_weeksOf 36 = .ok (.irem, 1) := by decide +kernel
theorem dX10_weeksOf_37 : decode cX10_weeksOf 37 = .ok (.iastore, 1) := by decide +kernel
theorem dX10_weeksOf_38 : decode cX10_weeksOf 38 = .ok (.iload_n 3, 1) := by decide +kernel
theorem dX10_weeksOf_39 : decode cX10_weeksOf 39 = .ok (.aload_n 0, 1) := by decide +kernel
theorem dX10_weeksOf_40 : decode cX10_weeksOf 40 = .ok (.getfield 31, 3) := by decide +kernel
theorem dX10_weeksOf_43 : decode cX10_weeksOf 43 = .ok (.iconst 1, 1) := by decide +kernel
theorem dX10_weeksOf_44 : decode cX10_weeksOf 44 = .ok (.iaload, 1) := by decide +kernel
theorem dX10_weeksOf_45 : decode cX10_weeksOf 45 = .ok (.idiv, 1) := by decide +kernel
theorem dX10_weeksOf_46 : decode cX10_weeksOf 46 = .ok (.istore_n 3, 1) := by decide +kernel
theorem dX10_weeksOf_47 : decode cX10_weeksOf 47 = .ok (.iload 5, 2) := by decide +kernel
theorem dX10_weeksOf_49 : decode cX10_weeksOf 49 = .ok (.ifCond .eq 22, 3) := by decide +kernel
theorem dX10_weeksOf_52 : decode cX10_weeksOf 52 = .ok (.iload 4, 2) := by decide +kernel
theorem dX10_weeksOf_54 : decode cX10_weeksOf 54 = .ok (.aload_n 0, 1) := by decide +kernel
theorem dX10_weeksOf_55 : decode cX10_weeksOf 55 = .ok (.getfield 43, 3) := by decide +kernel
theorem dX10_weeksOf_58 : decode cX10_weeksOf 58 = .ok (.iload 6, 2) := by decide +kernel
theorem dX10_weeksOf_60 : decode cX10_weeksOf 60 = .ok (.iaload, 1) := by decide +kernel
theorem dX10_weeksOf_61 : decode cX10_weeksOf 61 = .ok (.invokestatic 165, 3) := by decide +kernel
theorem dX10_weeksOf_64 : decode cX10_weeksOf 64 = .ok (.ifCond .ne 7, 3) := by decide +kernel
theorem dX10_weeksOf_67 : decode cX10_weeksOf 67 = .ok (.iconst 1, 1) := by decide +kernel
theorem dX10_weeksOf_68 : decode cX10_weeksOf 68 = .ok (.goto 4, 3) := by decide +kernel
theorem dX10_weeksOf_71 : decode cX10_weeksOf 71 = .ok (.iconst 0, 1) := by decide +kernel
theorem dX10_weeksOf_72 : decode cX10_weeksOf 72 = .ok (.istore 5, 2) := by decide +kernel
theorem dX10_weeksOf_74 : decode cX10_weeksOf 74 = .ok (.iload 4, 2) := by decide +kernel
theorem dX10_weeksOf_76 : decode cX10_weeksOf 76 = .ok (.iconst 1, 1) := by decide +kernel
theorem dX10_weeksOf_77 : decode cX10_weeksOf 77 = .ok (.aload_n 0, 1) := by decide +kernel
theorem dX10_weeksOf_78 : decode cX10_weeksOf 78 = .ok (.getfield 43, 3) := by decide +kernel
theorem dX10_weeksOf_81 : decode cX10_weeksOf 81 = .ok (.iload 6, 2) := by decide +kernel
theorem dX10_weeksOf_83 : decode cX10_weeksOf 83 = .ok (.iaload, 1) := by decide +kernel
theorem dX10_weeksOf_84 : decode cX10_weeksOf 84 = .ok (.ishl, 1) := by decide +kernel
theorem dX10_weeksOf_85 : decode cX10_weeksOf 85 = .ok (.ior, 1) := by decide +kernel
theorem dX10_weeksOf_86 : decode cX10_weeksOf 86 = .ok (.istore 4, 2) := by decide +kernel
theorem dX10_weeksOf_88 : decode cX10_weeksOf 88 = .ok (.iinc 6 (-1), 3) := by decide +kernel
theorem dX10_weeksOf_91 : decode cX10_weeksOf 91 = .ok (.goto (-73), 3) := by decide +kernel
theorem dX10_weeksOf_94 : decode cX10_weeksOf 94 = .ok (.aload_n 0, 1) := by decide +kernel
theorem dX10_weeksOf_95 : decode cX10_weeksOf 95 = .ok (.invokevirtual 221, 3) := by decide +kernel
theorem dX10_weeksOf_98 : decode cX10_weeksOf 98 = .ok (.iconst 0, 1) := by decide +kernel
theorem dX10_weeksOf_99 : decode cX10_weeksOf 99 = .ok (.istore 6, 2) := by decide +kernel
theorem dX10_weeksOf_101 : decode cX10_weeksOf 101 = .ok (.iconst 0, 1) := by decide +kernel
theorem dX10_weeksOf_102 : decode cX10_weeksOf 102 = .ok (.istore 7, 2) := by decide +kernel
theorem dX10_weeksOf_104 : decode cX10_weeksOf 104 = .ok (.iload 7, 2) := by decide +kernel
theorem dX10_weeksOf_106 : decode cX10_weeksOf 106 = .ok (.iload_n 2, 1) := by decide +kernel
theorem dX10_weeksOf_107 : decode cX10_weeksOf 107 = .ok (.if_icmp .ge 88, 3) := by decide +kernel
theorem dX10_weeksOf_110 : decode cX10_weeksOf 110 = .ok (.iload 5, 2) := by decide +kernel
theorem dX10_weeksOf_112 : decode cX10_weeksOf 112 = .ok (.ifCond .eq 83, 3) := by decide +kernel
theorem dX10_weeksOf_115 : decode cX10_weeksOf 115 = .ok (.aload_n 0, 1) := by decide +kernel
theorem dX10_weeksOf_116 : decode cX10_weeksOf 116 = .ok (.aload_n 0, 1) := by decide +kernel
theorem dX10_weeksOf_117 : decode cX10_weeksOf 117 = .ok (.getfield 37, 3) := by decide +kernel
theorem dX10_weeksOf_120 : decode cX10_weeksOf 120 = .ok (.aload_n 0, 1) := by decide +kernel
theorem dX10_weeksOf_121 : decode cX10_weeksOf 121 = .ok (.getfield 43, 3) := by decide +kernel
theorem dX10_weeksOf_124 : decode cX10_weeksOf 124 = .ok (.iload 7, 2) := by decide +kernel
theorem dX10_weeksOf_126 : decode cX10_weeksOf 126 = .ok (.iaload, 1) := by decide +kernel
theorem dX10_weeksOf_127 : decode cX10_weeksOf 127 = .ok (.invokevirtual 208, 3) := by decide +kernel
theorem dX10_weeksOf_130 : decode cX10_weeksOf 130 = .ok (.ifCond .ne 24, 3) := by decide +kernel
theorem dX10_weeksOf_133 : decode cX10_weeksOf 133 = .ok (.iload 6, 2) := by decide +kernel
theorem dX10_weeksOf_135 : decode cX10_weeksOf 135 = .ok (.bipush 60, 2) := by decide +kernel
theorem dX10_weeksOf_137 : decode cX10_weeksOf 137 = .ok (.if_icmp .gt 17, 3) := by decide +kernel
theorem dX10_weeksOf_140 : decode cX10_weeksOf 140 = .ok (.aload_n 0, 1) := by decide +kernel
theorem dX10_weeksOf_141 : decode cX10_weeksOf 141 = .ok (.aload_n 0, 1) := by decide +kernel
theorem dX10_weeksOf_142 : decode cX10_weeksOf 142 = .ok (.getfield 37, 3) := by decide +kernel
theorem dX10_weeksOf_145 : decode cX10_weeksOf 145 = .ok (.invokevirtual 201, 3) := by decide +kernel
theorem dX10_weeksOf_148 : decode cX10_weeksOf 148 = .ok (.iinc 6 1, 3) := by decide +kernel
theorem dX10_weeksOf_151 : decode cX10_weeksOf 151 = .ok (.goto (-36), 3) := by decide +kernel
theorem dX10_weeksOf_154 : decode cX10_weeksOf 154 = .ok (.iload 6, 2) := by decide +kernel
theorem dX10_weeksOf_156 : decode cX10_weeksOf 156 = .ok (.bipush 60, 2) := by decide +kernel
theorem dX10_weeksOf_158 : decode cX10_weeksOf 158 = .ok (.if_icmp .gt 7, 3) := by decide +kernel
theorem dX10_weeksOf_161 : decode cX10_weeksOf 161 = .ok (.iconst 1, 1) := by decide +kernel
theorem dX10_weeksOf_162 : decode cX10_weeksOf 162 = .ok (.goto 4, 3) := by decide +kernel
theorem dX10_weeksOf_165 : decode cX10_weeksOf 165 = .ok (.iconst 0, 1) := by decide +kernel
theorem dX10_weeksOf_166 : decode cX10_weeksOf 166 = .ok (.istore 5, 2) := by decide +kernel
theorem dX10_weeksOf_168 : decode cX10_weeksOf 168 = .ok (.iload 5, 2) := by decide +kernel
theorem dX10_weeksOf_170 : decode cX10_weeksOf 170 = .ok (.ifCond .eq 19, 3) := by decide +kernel
theorem dX10_weeksOf_173 : decode cX10_weeksOf 173 = .ok (.aload_n 0, 1) := by decide +kernel
theorem dX10_weeksOf_174 : decode cX10_weeksOf 174 = .ok (.aload_n 0, 1) := by decide +kernel
theorem dX10_weeksOf_175 : decode cX10_weeksOf 175 = .ok (.getfield 37, 3) := by decide +kernel
theorem dX10_weeksOf_178 : decode cX10_weeksOf 178 = .ok (.aload_n 0, 1) := by decide +kernel
theorem dX10_weeksOf_179 : decode cX10_weeksOf 179 = .ok (.getfield 43, 3) := by decide +kernel
theorem dX10_weeksOf_182 : decode cX10_weeksOf 182 = .ok (.iload 7, 2) := by decide +kernel
theorem dX10_weeksOf_184 : decode cX10_weeksOf 184 = .ok (.iaload, 1) := by decide +kernel
theorem dX10_weeksOf_185 : decode cX10_weeksOf 185 = .ok (.invokevirtual 212, 3) := by decide +kernel
theorem dX10_weeksOf_188 : decode cX10_weeksOf 188 = .ok (.pop, 1) := by decide +kernel
theorem dX10_weeksOf_189 : decode cX10_weeksOf 189 = .ok (.iinc 7 1, 3) := by decide +kernel
theorem dX10_weeksOf_192 : decode cX10_weeksOf 192 = .ok (.goto (-88), 3) := by decide +kernel
theorem dX10_weeksOf_195 : decode cX10_weeksOf 195 = .ok (.iload 5, 2) := by decide +kernel
theorem dX10_weeksOf_197 : decode cX10_weeksOf 197 = .ok (.ifCond .eq 8, 3) := by decide +kernel
theorem dX10_weeksOf_200 : decode cX10_weeksOf 200 = .ok (.iload 6, 2) := by decide +kernel
theorem dX10_weeksOf_202 : decode cX10_weeksOf 202 = .ok (.goto 4, 3) := by decide +kernel
theorem dX10_weeksOf_205 : decode cX10_weeksOf 205 = .ok (.iconst (-1), 1) := by decide +kernel
theorem dX10_weeksOf_206 : decode cX10_weeksOf 206 = .ok (.ireturn, 1) := by decide +kernel
theorem dX10_order_0 : decode cX10_order 0 = .ok (.aload_n 0, 1) := by decide +kernel
theorem dX10_order_1 : decode cX10_order 1 = .ok (.iload_n 1, 1) := by decide +kernel
theorem dX10_order_2 : decode cX10_order 2 = .ok (.iconst (-1), 1) := by decide +kernel
theorem dX10_order_3 : decode cX10_order 3 = .ok (.if_icmp .lt 7, 3) := by decide +kernel
theorem dX10_order_6 : decode cX10_order 6 = .ok (.iconst 1, 1) := by decide +kernel
theorem dX10_order_7 : decode cX10_order 7 = .ok (.goto 4, 3) := by decide +kernel
theorem dX10_order_10 : decode cX10_order 10 = .ok (.iconst 0, 1) := by decide +kernel
theorem dX10_order_11 : decode cX10_order 11 = .ok (.invokevirtual 194, 3) := by decide +kernel
theorem dX10_order_14 : decode cX10_order 14 = .ok (.istore_n 2, 1) := by decide +kernel
theorem dX10_order_15 : decode cX10_order 15 = .ok (.iload_n 2, 1) := by decide +kernel
theorem dX10_order_16 : decode cX10_order 16 = .ok (.ifCond .ge 5, 3) := by decide +kernel
theorem dX10_order_19 : decode cX10_order 19 = .ok (.iload_n 2, 1) := by decide +kernel
theorem dX10_order_20 : decode cX10_order 20 = .ok (.ireturn, 1) := by decide +kernel
theorem dX10_order_21 : decode cX10_order 21 = .ok (.aload_n 0, 1) := by decide +kernel
theorem dX10_order_22 : decode cX10_order 22 = .ok (.getfield 31, 3) := by decide +kernel
theorem dX10_order_25 : decode cX10_order 25 = .ok (.iconst 1, 1) := by decide +kernel
theorem dX10_order_26 : decode cX10_order 26 = .ok (.iaload, 1) := by decide +kernel
theorem dX10_order_27 : decode cX10_order 27 = .ok (.aload_n 0, 1) := by decide +kernel
theorem dX10_order_28 : decode cX10_order 28 = .ok (.getfield 34, 3) := by decide +kernel
theorem dX10_order_31 : decode cX10_order 31 = .ok (.iconst 4, 1) := by decide +kernel
theorem dX10_order_32 : decode cX10_order 32 = .ok (.iaload, 1) := by decide +kernel
theorem dX10_order_33 : decode cX10_order 33 = .ok (.invokestatic 234, 3) := by decide +kernel
theorem dX10_order_36 : decode cX10_order 36 = .ok (.isub, 1) := by decide +kernel
theorem dX10_order_37 : decode cX10_order 37 = .ok (.istore_n 3, 1) := by decide +kernel
theorem dX10_order_38 : decode cX10_order 38 = .ok (.iconst 1, 1) := by decide +kernel
theorem dX10_order_39 : decode cX10_order 39 = .ok (.istore 4, 2) := by decide +kernel
theorem dX10_order_41 : decode cX10_order 41 = .ok (.iconst 0, 1) := by decide +kernel
theorem dX10_order_42 : decode cX10_order 42 = .ok (.istore 5, 2) := by decide +kernel
theorem dX10_order_44 : decode cX10_order 44 = .ok (.iload 5, 2) := by decide +kernel
theorem dX10_order_46 : decode cX10_order 46 = .ok (.iload_n 3, 1) := by decide +kernel
theorem dX10_order_47 : decode cX10_order 47 = .ok (.if_icmp .ge 20, 3) := by decide +kernel
theorem dX10_order_50 : decode cX10_order 50 = .ok (.iload 4, 2) := by decide +kernel
theorem dX10_order_52 : decode cX10_order 52 = .ok (.aload_n 0, 1) := by decide +kernel
theorem dX10_order_53 : decode cX10_order 53 = .ok (.getfield 31, 3) := by decide +kernel
theorem dX10_order_56 : decode cX10_order 56 = .ok (.iconst 1, 1) := by decide +kernel
theorem dX10_order_57 : decode cX10_order 57 = .ok (.iaload, 1) := by decide +kernel
theorem dX10_order_58 : decode cX10_order 58 = .ok (.imul, 1) := by decide +kernel
theorem dX10_order_59 : decode cX10_order 59 = .ok (.istore 4, 2) := by decide +kernel
theorem dX10_order_61 : decode cX10_order 61 = .ok (.iinc 5 1, 3) := by decide +kernel
theorem dX10_order_64 : decode cX10_order 64 = .ok (.goto (-20), 3) := by decide +kernel
theorem dX10_order_67 : decode cX10_order 67 = .ok (.ldc 133, 2) := by decide +kernel
theorem dX10_order_69 : decode cX10_order 69 = .ok (.istore 5, 2) := by decide +kernel
theorem dX10_order_71 : decode cX10_order 71 = .ok (.bipush 61, 2) := by decide +kernel
theorem dX10_order_73 : decode cX10_order 73 = .ok (.istore 6, 2) := by decide +kernel
theorem dX10_order_75 : decode cX10_order 75 = .ok (.iconst 0, 1) := by decide +kernel
theorem dX10_order_76 : decode cX10_order 76 = .ok (.istore 7, 2) := by decide +kernel
theorem dX10_order_78 : decode cX10_order 78 = .ok (.iload 7, 2) := by decide +kernel
theorem dX10_order_80 : decode cX10_order 80 = .ok (.iload 4, 2) := by decide +kernel
theorem dX10_order_82 : decode cX10_order 82 = .ok (.if_icmp .ge 65, 3) := by decide +kernel
theorem dX10_order_85 : decode cX10_order 85 = .ok (.aload_n 0, 1) := by decide +kernel
theorem dX10_order_86 : decode cX10_order 86 = .ok (.iload 7, 2) := by decide +kernel
theorem dX10_order_88 : decode cX10_order 88 = .ok (.iload_n 3, 1) := by decide +kernel
theorem dX10_order_89 : decode cX10_order 89 = .ok (.invokevirtual 237, 3) := by decide +kernel
theorem dX10_order_92 : decode cX10_order 92 = .ok (.istore 8, 2) := by decide +kernel
theorem dX10_order_94 : decode cX10_order 94 = .ok (.iload 8, 2) := by decide +kernel
theorem dX10_order_96 : decode cX10_order 96 = .ok (.ifCond .lt 14, 3) := by decide +kernel
theorem dX10_order_99 : decode cX10_order 99 = .ok (.iload 8, 2) := by decide +kernel
theorem dX10_order_101 : decode cX10_order 101 = .ok (.iload 6, 2) := by decide +kernel
theorem dX10_order_103 : decode cX10_order 103 = .ok (.if_icmp .ge 7, 3) := by decide +kernel
theorem dX10_order_106 : decode cX10_order 106 = .ok (.iconst 1, 1) := by decide +kernel
theorem dX10_order_107 : decode cX10_order 107 = .ok (.goto 4, 3) := by decide +kernel
theorem dX10_order_110 : decode cX10_order 110 = .ok (.iconst 0, 1) := by decide +kernel
theorem dX10_order_111 : decode cX10_order 111 = .ok (.istore 9, 2) := by decide +kernel
theorem dX10_order_113 : decode cX10_order 113 = .ok (.iload 9, 2) := by decide +kernel
theorem dX10_order_115 : decode cX10_order 115 = .ok (.ifCond .eq 8, 3) := by decide +kernel
theorem dX10_order_118 : decode cX10_order 118 = .ok (.iload 7, 2) := by decide +kernel
theorem dX10_order_120 : decode cX10_order 120 = .ok (.goto 5, 3) := by decide +kernel
theorem dX10_order_123 : decode cX10_order 123 = .ok (.iload 5, 2) := by decide +kernel
theorem dX10_order_125 : decode cX10_order 125 = .ok (.istore 5, 2) := by decide +kernel
theorem dX10_order_127 : decode cX10_order 127 = .ok (.iload 9, 2) := by decide +kernel
theorem dX10_order_129 : decode cX10_order 129 = .ok (.ifCond .eq 8, 3) := by decide +kernel
theorem dX10_order_132 : decode cX10_order 132 = .ok (.iload 8, 2) := by decide +kernel
theorem dX10_order_134 : decode cX10_order 134 = .ok (.goto 5, 3) := by decide +kernel
theorem dX10_order_137 : decode cX10_order 137 = .ok (.iload 6, 2) := by decide +kernel
theorem dX10_order_139 : decode cX10_order 139 = .ok (.istore 6, 2) := by decide +kernel
theorem dX10_order_141 : decode cX10_order 141 = .ok (.iinc 7 1, 3) := by decide +kernel
theorem dX10_order_144 : decode cX10_order 144 = .ok (.goto (-66), 3) := by decide +kernel
theorem dX10_order_147 : decode cX10_order 147 = .ok (.iload 5, 2) := by decide +kernel
theorem dX10_order_149 : decode cX10_order 149 = .ok (.ldc 133, 2) := by decide +kernel
theorem dX10_order_151 : decode cX10_order 151 = .ok (.if_icmp .eq 8, 3) := by decide +kernel
theorem dX10_order_154 : decode cX10_order 154 = .ok (.iload_n 1, 1) := by decide +kernel
theorem dX10_order_155 : decode cX10_order 155 = .ok (.iload_n 3, 1) := by decide +kernel
theorem dX10_order_156 : decode cX10_order 156 = .ok (.if_icmp .lt 6, 3) := by decide +kernel
theorem dX10_order_159 : decode cX10_order 159 = .ok (.ldc 133, 2) := by decide +kernel
theorem dX10_order_161 : decode cX10_order 161 = .ok (.ireturn, 1) := by decide +kernel
theorem dX10_order_162 : decode cX10_order 162 = .ok (.aload_n 0, 1) := by decide +kernel
theorem dX10_order_163 : decode cX10_order 163 = .ok (.iload 5, 2) := by decide +kernel
theorem dX10_order_165 : decode cX10_order 165 = .ok (.iload_n 3, 1) := by decide +kernel
theorem dX10_order_166 : decode cX10_order 166 = .ok (.invokevirtual 237, 3) := by decide +kernel
theorem dX10_order_169 : decode cX10_order 169 = .ok (.pop, 1) := by decide +kernel
theorem dX10_order_170 : decode cX10_order 170 = .ok (.iload_n 1, 1) := by decide +kernel
theorem dX10_order_171 : decode cX10_order 171 = .ok (.ifCond .ge 8, 3) := by decide +kernel
theorem dX10_order_174 : decode cX10_order 174 = .ok (.iload 6, 2) := by decide +kernel
theorem dX10_order_176 : decode cX10_order 176 = .ok (.goto 9, 3) := by decide +kernel
theorem dX10_order_179 : decode cX10_order 179 = .ok (.aload_n 0, 1) := by decide +kernel
theorem dX10_order_180 : decode cX10_order 180 = .ok (.getfield 43, 3) := by decide +kernel
theorem dX10_order_183 : decode cX10_order 183 = .ok (.iload_n 1, 1) := by decide +kernel
theorem dX10_order_184 : decode cX10_order 184 = .ok (.iaload, 1) := by decide +kernel
theorem dX10_order_185 : decode cX10_order 185 = .ok (.ireturn, 1) := by decide +kernel
theorem dX10_clear_0 : decode cX10_clear 0 = .ok (.aload_n 0, 1) := by decide +kernel
theorem dX10_clear_1 : decode cX10_clear 1 = .ok (.iconst 1, 1) := by decide +kernel
theorem dX10_clear_2 : decode cX10_clear 2 = .ok (.invokevirtual 194, 3) := by decide +kernel
theorem dX10_clear_5 : decode cX10_clear 5 = .ok (.istore_n 1, 1) := by decide +kernel
theorem dX10_clear_6 : decode cX10_clear 6 = .ok (.iload_n 1, 1) := by decide +kernel
theorem dX10_clear_7 : decode cX10_clear 7 = .ok (.ifCond .ge 5, 3) := by decide +kernel
theorem dX10_clear_10 : decode cX10_clear 10 = .ok (.iload_n 1, 1) := by decide +kernel
theorem dX10_clear_11 : decode cX10_clear 11 = .ok (.ireturn, 1) := by decide +kernel
theorem dX10_clear_12 : decode cX10_clear 12 = .ok (.iconst 0, 1) := by decide +kernel
theorem dX10_clear_13 : decode cX10_clear 13 = .ok (.istore_n 2, 1) := by decide +kernel
theorem dX10_clear_14 : decode cX10_clear 14 = .ok (.iconst 0, 1) := by decide +kernel
theorem dX10_clear_15 : decode cX10_clear 15 = .ok (.istore_n 3, 1) := by decide +kernel
theorem dX10_clear_16 : decode cX10_clear 16 = .ok (.iload_n 3, 1) := by decide +kernel
theorem dX10_clear_17 : decode cX10_clear 17 = .ok (.aload_n 0, 1) := by decide +kernel
theorem dX10_clear_18 : decode cX10_clear 18 = .ok (.getfield 31, 3) := by decide +kernel
theorem dX10_clear_21 : decode cX10_clear 21 = .ok (.iconst 1, 1) := by decide +kernel
theorem dX10_clear_22 : decode cX10_clear 22 = .ok (.iaload, 1) := by decide +kernel
theorem dX10_clear_23 : decode cX10_clear 23 = .ok (.if_icmp .ge 35, 3) := by decide +kernel
theorem dX10_clear_26 : decode cX10_clear 26 = .ok (.iload_n 2, 1) := by decide +kernel
theorem dX10_clear_27 : decode cX10_clear 27 = .ok (.aload_n 0, 1) := by decide +kernel
theorem dX10_clear_28 : decode cX10_clear 28 = .ok (.aload_n 0, 1) := by decide +kernel
theorem dX10_clear_29 : decode cX10_clear 29 = .ok (.getfield 34, 3) := by decide +kernel
theorem dX10_clear_32 : decode cX10_clear 32 = .ok (.iload_n 3, 1) := by decide +kernel
theorem dX10_clear_33 : decode cX10_clear 33 = .ok (.invokevirtual 218, 3) := by decide +kernel
theorem dX10_clear_36 : decode cX10_clear 36 = .ok (.aload_n 0, 1) := by decide +kernel
theorem dX10_clear_37 : decode cX10_clear 37 = .ok (.invokevirtual 176, 3) := by decide +kernel
theorem dX10_clear_40 : decode cX10_clear 40 = .ok (.if_icmp .ne 9, 3) := by decide +kernel
theorem dX10_clear_43 : decode cX10_clear 43 = .ok (.iconst 1, 1) := by decide +kernel
theorem dX10_clear_44 : decode cX10_clear 44 = .ok (.iload_n 3, 1) := by decide +kernel
theorem dX10_clear_45 : decode cX10_clear 45 = .ok (.ishl, 1) := by decide +kernel
theorem dX10_clear_46 : decode cX10_clear 46 = .ok (.goto 4, 3) := by decide +kernel
theorem dX10_clear_49 : decode cX10_clear 49 = .ok (.iconst 0, 1) := by decide +kernel
theorem dX10_clear_50 : decode cX10_clear 50 = .ok (.ior, 1) := by decide +kernel
theorem dX10_clear_51 : decode cX10_clear 51 = .ok (.istore_n 2, 1) := by decide +kernel
theorem dX10_clear_52 : decode cX10_clear 52 = .ok (.iinc 3 1, 3) := by decide +kernel
theorem dX10_clear_55 : decode cX10_clear 55 = .ok (.goto (-39), 3) := by decide +kernel
theorem dX10_clear_58 : decode cX10_clear 58 = .ok (.iload_n 2, 1) := by decide +kernel
theorem dX10_clear_59 : decode cX10_clear 59 = .ok (.ireturn, 1) := by decide +kernel
theorem dX10_passedOn_0 : decode cX10_passedOn 0 = .ok (.aload_n 0, 1) := by decide +kernel
theorem dX10_passedOn_1 : decode cX10_passedOn 1 = .ok (.getfield 31, 3) := by decide +kernel
theorem dX10_passedOn_4 : decode cX10_passedOn 4 = .ok (.bipush 8, 2) := by decide +kernel
theorem dX10_passedOn_6 : decode cX10_passedOn 6 = .ok (.iload_n 1, 1) := by decide +kernel
theorem dX10_passedOn_7 : decode cX10_passedOn 7 = .ok (.iadd, 1) := by decide +kernel
theorem dX10_passedOn_8 : decode cX10_passedOn 8 = .ok (.iaload, 1) := by decide +kernel
theorem dX10_passedOn_9 : decode cX10_passedOn 9 = .ok (.istore 4, 2) := by decide +kernel
theorem dX10_passedOn_11 : decode cX10_passedOn 11 = .ok (.aload_n 0, 1) := by decide +kernel
theorem dX10_passedOn_12 : decode cX10_passedOn 12 = .ok (.getfield 34, 3) := by decide +kernel
theorem dX10_passedOn_15 : decode cX10_passedOn 15 = .ok (.iconst 4, 1) := by decide +kernel
theorem dX10_passedOn_16 : decode cX10_passedOn 16 = .ok (.iaload, 1) := by decide +kernel
theorem dX10_passedOn_17 : decode cX10_passedOn 17 = .ok (.iload_n 1, 1) := by decide +kernel
theorem dX10_passedOn_18 : decode cX10_passedOn 18 = .ok (.invokestatic 165, 3) := by decide +kernel
theorem dX10_passedOn_21 : decode cX10_passedOn 21 = .ok (.ifCond .eq 15, 3) := by decide +kernel
theorem dX10_passedOn_24 : decode cX10_passedOn 24 = .ok (.aload_n 0, 1) := by decide +kernel
theorem dX10_passedOn_25 : decode cX10_passedOn 25 = .ok (.getfield 34, 3) := by decide +kernel
theorem dX10_passedOn_28 : decode cX10_passedOn 28 = .ok (.bipush 15, 2) := by decide +kernel
theorem dX10_passedOn_30 : decode cX10_passedOn 30 = .ok (.iload_n 1, 1) := by decide +kernel
theorem dX10_passedOn_31 : decode cX10_passedOn 31 = .ok (.iadd, 1) := by decide +kernel
theorem dX10_passedOn_32 : decode cX10_passedOn 32 = .ok (.iaload, 1) := by decide +kernel
theorem dX10_passedOn_33 : decode cX10_passedOn 33 = .ok (.goto 19, 3) := by decide +kernel
theorem dX10_passedOn_36 : decode cX10_passedOn 36 = .ok (.aload_n 0, 1) := by decide +kernel
theorem dX10_passedOn_37 : decode cX10_passedOn 37 = .ok (.iload 4, 2) := by decide +kernel
theorem dX10_passedOn_39 : decode cX10_passedOn 39 = .ok (.aload_n 0, 1) := by decide +kernel
theorem dX10_passedOn_40 : decode cX10_passedOn 40 = .ok (.getfield 31, 3) := by decide +kernel
theorem dX10_passedOn_43 : decode cX10_passedOn 43 = .ok (.bipush 14, 2) := by decide +kernel
theorem dX10_passedOn_45 : decode cX10_passedOn 45 = .ok (.iload_n 1, 1) := by decide +kernel
theorem dX10_passedOn_46 : decode cX10_passedOn 46 = .ok (.iadd, 1) := by decide +kernel
theorem dX10_passedOn_47 : decode cX10_passedOn 47 = .ok (.iaload, 1) := by decide +kernel
theorem dX10_passedOn_48 : decode cX10_passedOn 48 = .ok (.iload_n 3, 1) := by decide +kernel
theorem dX10_passedOn_49 : decode cX10_passedOn 49 = .ok (.invokevirtual 180, 3) := by decide +kernel
theorem dX10_passedOn_52 : decode cX10_passedOn 52 = .ok (.istore 5, 2) := by decide +kernel
theorem dX10_passedOn_54 : decode cX10_passedOn 54 = .ok (.iconst 0, 1) := by decide +kernel
theorem dX10_passedOn_55 : decode cX10_passedOn 55 = .ok (.istore 6, 2) := by decide +kernel
theorem dX10_passedOn_57 : decode cX10_passedOn 57 = .ok (.iload 6, 2) := by decide +kernel
theorem dX10_passedOn_59 : decode cX10_passedOn 59 = .ok (.iload_n 2, 1) := by decide +kernel
theorem dX10_passedOn_60 : decode cX10_passedOn 60 = .ok (.if_icmp .ge 20, 3) := by decide +kernel
theorem dX10_passedOn_63 : decode cX10_passedOn 63 = .ok (.aload_n 0, 1) := by decide +kernel
theorem dX10_passedOn_64 : decode cX10_passedOn 64 = .ok (.iload 4, 2) := by decide +kernel
theorem dX10_passedOn_66 : decode cX10_passedOn 66 = .ok (.iload 5, 2) := by decide +kernel
theorem dX10_passedOn_68 : decode cX10_passedOn 68 = .ok (.iload_n 3, 1) := by decide +kernel
theorem dX10_passedOn_69 : decode cX10_passedOn 69 = .ok (.invokevirtual 184, 3) := by decide +kernel
theorem dX10_passedOn_72 : decode cX10_passedOn 72 = .ok (.istore 5, 2) := by decide +kernel
theorem dX10_passedOn_74 : decode cX10_passedOn 74 = .ok (.iinc 6 1, 3) := by decide +kernel
theorem dX10_passedOn_77 : decode cX10_passedOn 77 = .ok (.goto (-20), 3) := by decide +kernel
theorem dX10_passedOn_80 : decode cX10_passedOn 80 = .ok (.iload 5, 2) := by decide +kernel
theorem dX10_passedOn_82 : decode cX10_passedOn 82 = .ok (.ireturn, 1) := by decide +kernel
theorem dX10_deaf_0 : decode cX10_deaf 0 = .ok (.aload_n 0, 1) := by decide +kernel
theorem dX10_deaf_1 : decode cX10_deaf 1 = .ok (.iload_n 1, 1) := by decide +kernel
theorem dX10_deaf_2 : decode cX10_deaf 2 = .ok (.invokevirtual 205, 3) := by decide +kernel
theorem dX10_deaf_5 : decode cX10_deaf 5 = .ok (.ifCond .eq 31, 3) := by decide +kernel
theorem dX10_deaf_8 : decode cX10_deaf 8 = .ok (.aload_n 0, 1) := by decide +kernel
theorem dX10_deaf_9 : decode cX10_deaf 9 = .ok (.iload_n 2, 1) := by decide +kernel
theorem dX10_deaf_10 : decode cX10_deaf 10 = .ok (.invokevirtual 215, 3) := by decide +kernel
theorem dX10_deaf_13 : decode cX10_deaf 13 = .ok (.ifCond .eq 23, 3) := by decide +kernel
theorem dX10_deaf_16 : decode cX10_deaf 16 = .ok (.iload_n 3, 1) := by decide +kernel
theorem dX10_deaf_17 : decode cX10_deaf 17 = .ok (.iconst 0, 1) := by decide +kernel
theorem dX10_deaf_18 : decode cX10_deaf 18 = .ok (.bipush 30, 2) := by decide +kernel
theorem dX10_deaf_20 : decode cX10_deaf 20 = .ok (.invokestatic 70, 3) := by decide +kernel
theorem dX10_deaf_23 : decode cX10_deaf 23 = .ok (.ifCond .eq 13, 3) := by decide +kernel
theorem dX10_deaf_26 : decode cX10_deaf 26 = .ok (.iload 4, 2) := by decide +kernel
theorem dX10_deaf_28 : decode cX10_deaf 28 = .ok (.iconst 0, 1) := by decide +kernel
theorem dX10_deaf_29 : decode cX10_deaf 29 = .ok (.iconst 1, 1) := by decide +kernel
theorem dX10_deaf_30 : decode cX10_deaf 30 = .ok (.invokestatic 70, 3) := by decide +kernel
theorem dX10_deaf_33 : decode cX10_deaf 33 = .ok (.ifCond .ne 6, 3) := by decide +kernel
theorem dX10_deaf_36 : decode cX10_deaf 36 = .ok (.ldc 78, 2) := by decide +kernel
theorem dX10_deaf_38 : decode cX10_deaf 38 = .ok (.ireturn, 1) := by decide +kernel
theorem dX10_deaf_39 : decode cX10_deaf 39 = .ok (.ldc 133, 2) := by decide +kernel
theorem dX10_deaf_41 : decode cX10_deaf 41 = .ok (.istore 5, 2) := by decide +kernel
theorem dX10_deaf_43 : decode cX10_deaf 43 = .ok (.aload_n 0, 1) := by decide +kernel
theorem dX10_deaf_44 : decode cX10_deaf 44 = .ok (.invokevirtual 176, 3) := by decide +kernel
theorem dX10_deaf_47 : decode cX10_deaf 47 = .ok (.istore 6, 2) := by decide +kernel
theorem dX10_deaf_49 : decode cX10_deaf 49 = .ok (.iload 6, 2) := by decide +kernel
theorem dX10_deaf_51 : decode cX10_deaf 51 = .ok (.ifCond .lt 91, 3) := by decide +kernel
theorem dX10_deaf_54 : decode cX10_deaf 54 = .ok (.iload 6, 2) := by decide +kernel
theorem dX10_deaf_56 : decode cX10_deaf 56 = .ok (.iload_n 2, 1) := by decide +kernel
theorem dX10_deaf_57 : decode cX10_deaf 57 = .ok (.invokestatic 165, 3) := by decide +kernel
theorem dX10_deaf_60 : decode cX10_deaf 60 = .ok (.ifCond .ne 39, 3) := by decide +kernel
theorem dX10_deaf_63 : decode cX10_deaf 63 = .ok (.iload 6, 2) := by decide +kernel
theorem dX10_deaf_65 : decode cX10_deaf 65 = .ok (.aload_n 0, 1) := by decide +kernel
theorem dX10_deaf_66 : decode cX10_deaf 66 = .ok (.getfield 31, 3) := by decide +kernel
theorem dX10_deaf_69 : decode cX10_deaf 69 = .ok (.bipush 14, 2) := by decide +kernel
theorem dX10_deaf_71 : decode cX10_deaf 71 = .ok (.iload_n 1, 1) := by decide +kernel
theorem dX10_deaf_72 : decode cX10_deaf 72 = .ok (.iadd, 1) := by decide +kernel
theorem dX10_deaf_73 : decode cX10_deaf 73 = .ok (.iaload, 1) := by decide +kernel
theorem dX10_deaf_74 : decode cX10_deaf 74 = .ok (.invokestatic 165, 3) := by decide +kernel
theorem dX10_deaf_77 : decode cX10_deaf 77 = .ok (.ifCond .ne 22, 3) := by decide +kernel
theorem dX10_deaf_80 : decode cX10_deaf 80 = .ok (.aload_n 0, 1) := by decide +kernel
theorem dX10_deaf_81 : decode cX10_deaf 81 = .ok (.iload_n 1, 1) := by decide +kernel
theorem dX10_deaf_82 : decode cX10_deaf 82 = .ok (.iload_n 3, 1) := by decide +kernel
theorem dX10_deaf_83 : decode cX10_deaf 83 = .ok (.iload 6, 2) := by decide +kernel
theorem dX10_deaf_85 : decode cX10_deaf 85 = .ok (.invokevirtual 240, 3) := by decide +kernel
theorem dX10_deaf_88 : decode cX10_deaf 88 = .ok (.iload_n 2, 1) := by decide +kernel
theorem dX10_deaf_89 : decode cX10_deaf 89 = .ok (.invokestatic 165, 3) := by decide +kernel
theorem dX10_deaf_92 : decode cX10_deaf 92 = .ok (.ifCond .ne 7, 3) := by decide +kernel
theorem dX10_deaf_95 : decode cX10_deaf 95 = .ok (.iconst 1, 1) := by decide +kernel
theorem dX10_deaf_96 : decode cX10_deaf 96 = .ok (.goto 4, 3) := by decide +kernel
theorem dX10_deaf_99 : decode cX10_deaf 99 = .ok (.iconst 0, 1) := by decide +kernel
theorem dX10_deaf_100 : decode cX10_deaf 100 = .ok (.istore 7, 2) := by decide +kernel
theorem dX10_deaf_102 : decode cX10_deaf 102 = .ok (.iload 7, 2) := by decide +kernel
theorem dX10_deaf_104 : decode cX10_deaf 104 = .ok (.ifCond .eq 28, 3) := by decide +kernel
theorem dX10_deaf_107 : decode cX10_deaf 107 = .ok (.iload 5, 2) := by decide +kernel
theorem dX10_deaf_109 : decode cX10_deaf 109 = .ok (.ldc 133, 2) := by decide +kernel
theorem dX10_deaf_111 : decode cX10_deaf 111 = .ok (.if_icmp .eq 16, 3) := by decide +kernel
theorem dX10_deaf_114 : decode cX10_deaf 114 = .ok (.iload 6, 2) := by decide +kernel
theorem dX10_deaf_116 : decode cX10_deaf 116 = .ok (.invokestatic 234, 3) := by decide +kernel
theorem dX10_deaf_119 : decode cX10_deaf 119 = .ok (.iload 5, 2) := by decide +kernel
theorem dX10_deaf_121 : decode cX10_deaf 121 = .ok (.invokestatic 234, 3) := by decide +kernel
theorem dX10_deaf_124 : decode cX10_deaf 124 = .ok (.if_icmp .gt 8, 3) := by decide +kernel
theorem dX10_deaf_127 : decode cX10_deaf 127 = .ok (.iload 6, 2) := by decide +kernel
theorem dX10_deaf_129 : decode cX10_deaf 129 = .ok (.goto 5, 3) := by decide +kernel
theorem dX10_deaf_132 : decode cX10_deaf 132 = .ok (.iload 5, 2) := by decide +kernel
theorem dX10_deaf_134 : decode cX10_deaf 134 = .ok (.istore 5, 2) := by decide +kernel
theorem dX10_deaf_136 : decode cX10_deaf 136 = .ok (.iinc 6 (-1), 3) := by decide +kernel
theorem dX10_deaf_139 : decode cX10_deaf 139 = .ok (.goto (-90), 3) := by decide +kernel
theorem dX10_deaf_142 : decode cX10_deaf 142 = .ok (.iload 5, 2) := by decide +kernel
theorem dX10_deaf_144 : decode cX10_deaf 144 = .ok (.ldc 133, 2) := by decide +kernel
theorem dX10_deaf_146 : decode cX10_deaf 146 = .ok (.if_icmp .ne 8, 3) := by decide +kernel
theorem dX10_deaf_149 : decode cX10_deaf 149 = .ok (.ldc 133, 2) := by decide +kernel
theorem dX10_deaf_151 : decode cX10_deaf 151 = .ok (.goto 18, 3) := by decide +kernel
theorem dX10_deaf_154 : decode cX10_deaf 154 = .ok (.iload 4, 2) := by decide +kernel
theorem dX10_deaf_156 : decode cX10_deaf 156 = .ok (.ifCond .ne 11, 3) := by decide +kernel
theorem dX10_deaf_159 : decode cX10_deaf 159 = .ok (.iload 5, 2) := by decide +kernel
theorem dX10_deaf_161 : decode cX10_deaf 161 = .ok (.invokestatic 234, 3) := by decide +kernel
theorem dX10_deaf_164 : decode cX10_deaf 164 = .ok (.goto 5, 3) := by decide +kernel
theorem dX10_deaf_167 : decode cX10_deaf 167 = .ok (.iload 5, 2) := by decide +kernel
theorem dX10_deaf_169 : decode cX10_deaf 169 = .ok (.ireturn, 1) := by decide +kernel
theorem dX10_claim_0 : decode cX10_claim 0 = .ok (.iconst 0, 1) := by decide +kernel
theorem dX10_claim_1 : decode cX10_claim 1 = .ok (.istore_n 2, 1) := by decide +kernel
theorem dX10_claim_2 : decode cX10_claim 2 = .ok (.iconst 0, 1) := by decide +kernel
theorem dX10_claim_3 : decode cX10_claim 3 = .ok (.istore_n 3, 1) := by decide +kernel
theorem dX10_claim_4 : decode cX10_claim 4 = .ok (.iload_n 3, 1) := by decide +kernel
theorem dX10_claim_5 : decode cX10_claim 5 = .ok (.aload_n 0, 1) := by decide +kernel
theorem dX10_claim_6 : decode cX10_claim 6 = .ok (.getfield 31, 3) := by decide +kernel
theorem dX10_claim_9 : decode cX10_claim 9 = .ok (.iconst 1, 1) := by decide +kernel
theorem dX10_claim_10 : decode cX10_claim 10 = .ok (.iaload, 1) := by decide +kernel
theorem dX10_claim_11 : decode cX10_claim 11 = .ok (.if_icmp .ge 47, 3) := by decide +kernel
theorem dX10_claim_14 : decode cX10_claim 14 = .ok (.iload_n 2, 1) := by decide +kernel
theorem dX10_claim_15 : decode cX10_claim 15 = .ok (.aload_n 0, 1) := by decide +kernel
theorem dX10_claim_16 : decode cX10_claim 16 = .ok (.getfield 31, 3) := by decide +kernel
theorem dX10_claim_19 : decode cX10_claim 19 = .ok (.bipush 14, 2) := by decide +kernel
theorem dX10_claim_21 : decode cX10_claim 21 = .ok (.iload_n 3, 1) := by decide +kernel
theorem dX10_claim_22 : decode cX10_claim 22 = .ok (.iadd, 1) := by decide +kernel
theorem dX10_claim_23 : decode cX10_claim 23 = .ok (.iaload, 1) := by decide +kernel
theorem dX10_claim_24 : decode cX10_claim 24 = .ok (.iload_n 1, 1) := by decide +kernel
theorem dX10_claim_25 : decode cX10_claim 25 = .ok (.if_icmp .ne 24, 3) := by decide +kernel
theorem dX10_claim_28 : decode cX10_claim 28 = .ok (.aload_n 0, 1) := by decide +kernel
theorem dX10_claim_29 : decode cX10_claim 29 = .ok (.getfield 34, 3) := by decide +kernel
theorem dX10_claim_32 : decode cX10_claim 32 = .ok (.iconst 4, 1) := by decide +kernel
theorem dX10_claim_33 : decode cX10_claim 33 = .ok (.iaload, 1) := by decide +kernel
theorem dX10_claim_34 : decode cX10_claim 34 = .ok (.iload_n 3, 1) := by decide +kernel
theorem dX10_claim_35 : decode cX10_claim 35 = .ok (.invokestatic 165, 3) := by decide +kernel
theorem dX10_claim_38 : decode cX10_claim 38 = .ok (.ifCond .ne 11, 3) := by decide +kernel
theorem dX10_claim_41 : decode cX10_claim 41 = .ok (.aload_n 0, 1) := by decide +kernel
theorem dX10_claim_42 : decode cX10_claim 42 = .ok (.iload_n 3, 1) := by decide +kernel
theorem dX10_claim_43 : decode cX10_claim 43 = .ok (.invokevirtual 158, 3) := by decide +kernel
theorem dX10_claim_46 : decode cX10_claim 46 = .ok (.goto 4, 3) := by decide +kernel
theorem dX10_claim_49 : decode cX10_claim 49 = .ok (.iconst 0, 1) := by decide +kernel
theorem dX10_claim_50 : decode cX10_claim 50 = .ok (.iadd, 1) := by decide +kernel
theorem dX10_claim_51 : decode cX10_claim 51 = .ok (.istore_n 2, 1) := by decide +kernel
theorem dX10_claim_52 : decode cX10_claim 52 = .ok (.iinc 3 1, 3) := by decide +kernel
theorem dX10_claim_55 : decode cX10_claim 55 = .ok (.goto (-51), 3) := by decide +kernel
theorem dX10_claim_58 : decode cX10_claim 58 = .ok (.iload_n 2, 1) := by decide +kernel
theorem dX10_claim_59 : decode cX10_claim 59 = .ok (.aload_n 0, 1) := by decide +kernel
theorem dX10_claim_60 : decode cX10_claim 60 = .ok (.getfield 34, 3) := by decide +kernel
theorem dX10_claim_63 : decode cX10_claim 63 = .ok (.bipush 10, 2) := by decide +kernel
theorem dX10_claim_65 : decode cX10_claim 65 = .ok (.iload_n 1, 1) := by decide +kernel
theorem dX10_claim_66 : decode cX10_claim 66 = .ok (.iadd, 1) := by decide +kernel
theorem dX10_claim_67 : decode cX10_claim 67 = .ok (.iaload, 1) := by decide +kernel
theorem dX10_claim_68 : decode cX10_claim 68 = .ok (.if_icmp .le 17, 3) := by decide +kernel
theorem dX10_claim_71 : decode cX10_claim 71 = .ok (.iload_n 2, 1) := by decide +kernel
theorem dX10_claim_72 : decode cX10_claim 72 = .ok (.aload_n 0, 1) := by decide +kernel
theorem dX10_claim_73 : decode cX10_claim 73 = .ok (.getfield 34, 3) := by decide +kernel
theorem dX10_claim_76 : decode cX10_claim 76 = .ok (.bipush 10, 2) := by decide +kernel
theorem dX10_claim_78 : decode cX10_claim 78 = .ok (.iload_n 1, 1) := by decide +kernel
theorem dX10_claim_79 : decode cX10_claim 79 = .ok (.iadd, 1) := by decide +kernel
theorem dX10_claim_80 : decode cX10_claim 80 = .ok (.iaload, 1) := by decide +kernel
theorem dX10_claim_81 : decode cX10_claim 81 = .ok (.isub, 1) := by decide +kernel
theorem dX10_claim_82 : decode cX10_claim 82 = .ok (.goto 4, 3) := by decide +kernel
theorem dX10_claim_85 : decode cX10_claim 85 = .ok (.iconst 0, 1) := by decide +kernel
theorem dX10_claim_86 : decode cX10_claim 86 = .ok (.ireturn, 1) := by decide +kernel
theorem dX10_share_0 : decode cX10_share 0 = .ok (.aload_n 0, 1) := by decide +kernel
theorem dX10_share_1 : decode cX10_share 1 = .ok (.iload_n 1, 1) := by decide +kernel
theorem dX10_share_2 : decode cX10_share 2 = .ok (.invokevirtual 215, 3) := by decide +kernel
theorem dX10_share_5 : decode cX10_share 5 = .ok (.ifCond .eq 13, 3) := by decide +kernel
theorem dX10_share_8 : decode cX10_share 8 = .ok (.iload_n 2, 1) := by decide +kernel
theorem dX10_share_9 : decode cX10_share 9 = .ok (.iconst 0, 1) := by decide +kernel
theorem dX10_share_10 : decode cX10_share 10 = .ok (.bipush 99, 2) := by decide +kernel
theorem dX10_share_12 : decode cX10_share 12 = .ok (.invokestatic 70, 3) := by decide +kernel
theorem dX10_share_15 : decode cX10_share 15 = .ok (.ifCond .ne 6, 3) := by decide +kernel
theorem dX10_share_18 : decode cX10_share 18 = .ok (.ldc 78, 2) := by decide +kernel
theorem dX10_share_20 : decode cX10_share 20 = .ok (.ireturn, 1) := by decide +kernel
theorem dX10_share_21 : decode cX10_share 21 = .ok (.iconst 0, 1) := by decide +kernel
theorem dX10_share_22 : decode cX10_share 22 = .ok (.istore_n 3, 1) := by decide +kernel
theorem dX10_share_23 : decode cX10_share 23 = .ok (.iconst 0, 1) := by decide +kernel
theorem dX10_share_24 : decode cX10_share 24 = .ok (.istore 4, 2) := by decide +kernel
theorem dX10_share_26 : decode cX10_share 26 = .ok (.iload 4, 2) := by decide +kernel
theorem dX10_share_28 : decode cX10_share 28 = .ok (.aload_n 0, 1) := by decide +kernel
theorem dX10_share_29 : decode cX10_share 29 = .ok (.getfield 31, 3) := by decide +kernel
theorem dX10_share_32 : decode cX10_share 32 = .ok (.iconst 0, 1) := by decide +kernel
theorem dX10_share_33 : decode cX10_share 33 = .ok (.iaload, 1) := by decide +kernel
theorem dX10_share_34 : decode cX10_share 34 = .ok (.if_icmp .ge 18, 3) := by decide +kernel
theorem dX10_share_37 : decode cX10_share 37 = .ok (.iload_n 3, 1) := by decide +kernel
theorem dX10_share_38 : decode cX10_share 38 = .ok (.aload_n 0, 1) := by decide +kernel
theorem dX10_share_39 : decode cX10_share 39 = .ok (.iload 4, 2) := by decide +kernel
theorem dX10_share_41 : decode cX10_share 41 = .ok (.invokevirtual 243, 3) := by decide +kernel
theorem dX10_share_44 : decode cX10_share 44 = .ok (.iadd, 1) := by decide +kernel
theorem dX10_share_45 : decode cX10_share 45 = .ok (.istore_n 3, 1) := by decide +kernel
theorem dX10_share_46 : decode cX10_share 46 = .ok (.iinc 4 1, 3) := by decide +kernel
theorem dX10_share_49 : decode cX10_share 49 = .ok (.goto (-23), 3) := by decide +kernel
theorem dX10_share_52 : decode cX10_share 52 = .ok (.iload_n 3, 1) := by decide +kernel
theorem dX10_share_53 : decode cX10_share 53 = .ok (.ifCond .ne 5, 3) := by decide +kernel
theorem dX10_share_56 : decode cX10_share 56 = .ok (.iconst 0, 1) := by decide +kernel
theorem dX10_share_57 : decode cX10_share 57 = .ok (.ireturn, 1) := by decide +kernel
theorem dX10_share_58 : decode cX10_share 58 = .ok (.iload_n 2, 1) := by decide +kernel
theorem dX10_share_59 : decode cX10_share 59 = .ok (.istore 4, 2) := by decide +kernel
theorem dX10_share_61 : decode cX10_share 61 = .ok (.iconst 0, 1) := by decide +kernel
theorem dX10_share_62 : decode cX10_share 62 = .ok (.istore 5, 2) := by decide +kernel
theorem dX10_share_64 : decode cX10_share 64 = .ok (.iload 5, 2) := by decide +kernel
theorem dX10_share_66 : decode cX10_share 66 = .ok (.aload_n 0, 1) := by decide +kernel
theorem dX10_share_67 : decode cX10_share 67 = .ok (.getfield 31, 3) := by decide +kernel
theorem dX10_share_70 : decode cX10_share 70 = .ok (.iconst 0, 1) := by decide +kernel
theorem dX10_share_71 : decode cX10_share 71 = .ok (.iaload, 1) := by decide +kernel
theorem dX10_share_72 : decode cX10_share 72 = .ok (.if_icmp .ge 24, 3) := by decide +kernel
theorem dX10_share_75 : decode cX10_share 75 = .ok (.iload 4, 2) := by decide +kernel
theorem dX10_share_77 : decode cX10_share 77 = .ok (.iload_n 2, 1) := by decide +kernel
theorem dX10_share_78 : decode cX10_share 78 = .ok (.aload_n 0, 1) := by decide +kernel
theorem dX10_share_79 : decode cX10_share 79 = .ok (.iload 5, 2) := by decide +kernel
theorem dX10_share_81 : decode cX10_share 81 = .ok (.invokevirtual 243, 3) := by decide +kernel
theorem dX10_share_84 : decode cX10_share 84 = .ok (.imul, 1) := by decide +kernel
theorem dX10_share_85 : decode cX10_share 85 = .ok (.iload_n 3, 1) := by decide +kernel
theorem dX10_share_86 : decode cX10_share 86 = .ok (.idiv, 1) := by decide +kernel
theorem dX10_share_87 : decode cX10_share 87 = .ok (.isub, 1) := by decide +kernel
theorem dX10_share_88 : decode cX10_share 88 = .ok (.istore 4, 2) := by decide +kernel
theorem dX10_share_90 : decode cX10_share 90 = .ok (.iinc 5 1, 3) := by decide +kernel
theorem dX10_share_93 : decode cX10_share 93 = .ok (.goto (-29), 3) := by decide +kernel
theorem dX10_share_96 : decode cX10_share 96 = .ok (.iconst 0, 1) := by decide +kernel
theorem dX10_share_97 : decode cX10_share 97 = .ok (.istore 5, 2) := by decide +kernel
theorem dX10_share_99 : decode cX10_share 99 = .ok (.iconst 0, 1) := by decide +kernel
theorem dX10_share_100 : decode cX10_share 100 = .ok (.istore 6, 2) := by decide +kernel
theorem dX10_share_102 : decode cX10_share 102 = .ok (.iload 6, 2) := by decide +kernel
theorem dX10_share_104 : decode cX10_share 104 = .ok (.iload_n 1, 1) := by decide +kernel
theorem dX10_share_105 : decode cX10_share 105 = .ok (.if_icmp .gt 65, 3) := by decide +kernel
theorem dX10_share_108 : decode cX10_share 108 = .ok (.iload_n 2, 1) := by decide +kernel
theorem dX10_share_109 : decode cX10_share 109 = .ok (.aload_n 0, 1) := by decide +kernel
theorem dX10_share_110 : decode cX10_share 110 = .ok (.iload 6, 2) := by decide +kernel
theorem dX10_share_112 : decode cX10_share 112 = .ok (.invokevirtual 243, 3) := by decide +kernel
theorem dX10_share_115 : decode cX10_share 115 = .ok (.imul, 1) := by decide +kernel
theorem dX10_share_116 : decode cX10_share 116 = .ok (.iload_n 3, 1) := by decide +kernel
theorem dX10_share_117 : decode cX10_share 117 = .ok (.idiv, 1) := by decide +kernel
theorem dX10_share_118 : decode cX10_share 118 = .ok (.aload_n 0, 1) := by decide +kernel
theorem dX10_share_119 : decode cX10_share 119 = .ok (.iload 6, 2) := by decide +kernel
theorem dX10_share_121 : decode cX10_share 121 = .ok (.invokevirtual 243, 3) := by decide +kernel
theorem dX10_share_124 : decode cX10_share 124 = .ok (.ifCond .le 12, 3) := by decide +kernel
theorem dX10_share_127 : decode cX10_share 127 = .ok (.iload 4, 2) := by decide +kernel
theorem dX10_share_129 : decode cX10_share 129 = .ok (.ifCond .le 7, 3) := by decide +kernel
theorem dX10_share_132 : decode cX10_share 132 = .ok (.iconst 1, 1) := by decide +kernel
theorem dX10_share_133 : decode cX10_share 133 = .ok (.goto 4, 3) := by decide +kernel
theorem dX10_share_136 : decode cX10_share 136 = .ok (.iconst 0, 1) := by decide +kernel
theorem dX10_share_137 : decode cX10_share 137 = .ok (.iadd, 1) := by decide +kernel
theorem dX10_share_138 : decode cX10_share 138 = .ok (.istore 5, 2) := by decide +kernel
theorem dX10_share_140 : decode cX10_share 140 = .ok (.iload 4, 2) := by decide +kernel
theorem dX10_share_142 : decode cX10_share 142 = .ok (.aload_n 0, 1) := by decide +kernel
theorem dX10_share_143 : decode cX10_share 143 = .ok (.iload 6, 2) := by decide +kernel
theorem dX10_share_145 : decode cX10_share 145 = .ok (.invokevirtual 243, 3) := by decide +kernel
theorem dX10_share_148 : decode cX10_share 148 = .ok (.ifCond .le 12, 3) := by decide +kernel
theorem dX10_share_151 : decode cX10_share 151 = .ok (.iload 4, 2) := by decide +kernel
theorem dX10_share_153 : decode cX10_share 153 = .ok (.ifCond .le 7, 3) := by decide +kernel
theorem dX10_share_156 : decode cX10_share 156 = .ok (.iconst 1, 1) := by decide +kernel
theorem dX10_share_157 : decode cX10_share 157 = .ok (.goto 4, 3) := by decide +kernel
theorem dX10_share_160 : decode cX10_share 160 = .ok (.iconst 0, 1) := by decide +kernel
theorem dX10_share_161 : decode cX10_share 161 = .ok (.isub, 1) := by decide +kernel
theorem dX10_share_162 : decode cX10_share 162 = .ok (.istore 4, 2) := by decide +kernel
theorem dX10_share_164 : decode cX10_share 164 = .ok (.iinc 6 1, 3) := by decide +kernel
theorem dX10_share_167 : decode cX10_share 167 = .ok (.goto (-65), 3) := by decide +kernel
theorem dX10_share_170 : decode cX10_share 170 = .ok (.iload 5, 2) := by decide +kernel
theorem dX10_share_172 : decode cX10_share 172 = .ok (.ireturn, 1) := by decide +kernel
theorem dX10_thrift_0 : decode cX10_thrift 0 = .ok (.aload_n 0, 1) := by decide +kernel
theorem dX10_thrift_1 : decode cX10_thrift 1 = .ok (.iload_n 1, 1) := by decide +kernel
theorem dX10_thrift_2 : decode cX10_thrift 2 = .ok (.invokevirtual 215, 3) := by decide +kernel
theorem dX10_thrift_5 : decode cX10_thrift 5 = .ok (.ifCond .eq 28, 3) := by decide +kernel
theorem dX10_thrift_8 : decode cX10_thrift 8 = .ok (.iload_n 2, 1) := by decide +kernel
theorem dX10_thrift_9 : decode cX10_thrift 9 = .ok (.invokestatic 224, 3) := by decide +kernel
theorem dX10_thrift_12 : decode cX10_thrift 12 = .ok (.ifCond .eq 21, 3) := by decide +kernel
theorem dX10_thrift_15 : decode cX10_thrift 15 = .ok (.iload_n 3, 1) := by decide +kernel
theorem dX10_thrift_16 : decode cX10_thrift 16 = .ok (.invokestatic 74, 3) := by decide +kernel
theorem dX10_thrift_19 : decode cX10_thrift 19 = .ok (.ifCond .eq 14, 3) := by decide +kernel
theorem dX10_thrift_22 : decode cX10_thrift 22 = .ok (.iload 5, 2) := by decide +kernel
theorem dX10_thrift_24 : decode cX10_thrift 24 = .ok (.iconst 1, 1) := by decide +kernel
theorem dX10_thrift_25 : decode cX10_thrift 25 = .ok (.bipush 12, 2) := by decide +kernel
theorem dX10_thrift_27 : decode cX10_thrift 27 = .ok (.invokestatic 70, 3) := by decide +kernel
theorem dX10_thrift_30 : decode cX10_thrift 30 = .ok (.ifCond .ne 6, 3) := by decide +kernel
theorem dX10_thrift_33 : decode cX10_thrift 33 = .ok (.ldc 78, 2) := by decide +kernel
theorem dX10_thrift_35 : decode cX10_thrift 35 = .ok (.ireturn, 1) := by decide +kernel
theorem dX10_thrift_36 : decode cX10_thrift 36 = .ok (.aload_n 0, 1) := by decide +kernel
theorem dX10_thrift_37 : decode cX10_thrift 37 = .ok (.getfield 7, 3) := by decide +kernel
theorem dX10_thrift_40 : decode cX10_thrift 40 = .ok (.iload_n 3, 1) := by decide +kernel
theorem dX10_thrift_41 : decode cX10_thrift 41 = .ok (.iaload, 1) := by decide +kernel
theorem dX10_thrift_42 : decode cX10_thrift 42 = .ok (.ifCond .ge 9, 3) := by decide +kernel
theorem dX10_thrift_45 : decode cX10_thrift 45 = .ok (.aload_n 0, 1) := by decide +kernel
theorem dX10_thrift_46 : decode cX10_thrift 46 = .ok (.iconst 1, 1) := by decide +kernel
theorem dX10_thrift_47 : decode cX10_thrift 47 = .ok (.invokevirtual 79, 3) := by decide +kernel
theorem dX10_thrift_50 : decode cX10_thrift 50 = .ok (.ireturn, 1) := by decide +kernel
theorem dX10_thrift_51 : decode cX10_thrift 51 = .ok (.aload_n 0, 1) := by decide +kernel
theorem dX10_thrift_52 : decode cX10_thrift 52 = .ok (.iload_n 3, 1) := by decide +kernel
theorem dX10_thrift_53 : decode cX10_thrift 53 = .ok (.iload 4, 2) := by decide +kernel
theorem dX10_thrift_55 : decode cX10_thrift 55 = .ok (.iload 5, 2) := by decide +kernel
theorem dX10_thrift_57 : decode cX10_thrift 57 = .ok (.invokevirtual 86, 3) := by decide +kernel
theorem dX10_thrift_60 : decode cX10_thrift 60 = .ok (.ifCond .ne 9, 3) := by decide +kernel
theorem dX10_thrift_63 : decode cX10_thrift 63 = .ok (.aload_n 0, 1) := by decide +kernel
theorem dX10_thrift_64 : decode cX10_thrift 64 = .ok (.iconst 2, 1) := by decide +kernel
theorem dX10_thrift_65 : decode cX10_thrift 65 = .ok (.invokevirtual 79, 3) := by decide +kernel
theorem dX10_thrift_68 : decode cX10_thrift 68 = .ok (.ireturn, 1) := by decide +kernel
theorem dX10_thrift_69 : decode cX10_thrift 69 = .ok (.iconst 0, 1) := by decide +kernel
theorem dX10_thrift_70 : decode cX10_thrift 70 = .ok (.istore 6, 2) := by decide +kernel
theorem dX10_thrift_72 : decode cX10_thrift 72 = .ok (.iload 6, 2) := by decide +kernel
theorem dX10_thrift_74 : decode cX10_thrift 74 = .ok (.iload 5, 2) := by decide +kernel
theorem dX10_thrift_76 : decode cX10_thrift 76 = .ok (.if_icmp .ge 34, 3) := by decide +kernel
theorem dX10_thrift_79 : decode cX10_thrift 79 = .ok (.aload_n 0, 1) := by decide +kernel
theorem dX10_thrift_80 : decode cX10_thrift 80 = .ok (.iload_n 3, 1) := by decide +kernel
theorem dX10_thrift_81 : decode cX10_thrift 81 = .ok (.iload 4, 2) := by decide +kernel
theorem dX10_thrift_83 : decode cX10_thrift 83 = .ok (.iload 6, 2) := by decide +kernel
theorem dX10_thrift_85 : decode cX10_thrift 85 = .ok (.iadd, 1) := by decide +kernel
theorem dX10_thrift_86 : decode cX10_thrift 86 = .ok (.invokevirtual 246, 3) := by decide +kernel
theorem dX10_thrift_89 : decode cX10_thrift 89 = .ok (.iconst 1, 1) := by decide +kernel
theorem dX10_thrift_90 : decode cX10_thrift 90 = .ok (.bipush 9, 2) := by decide +kernel
theorem dX10_thrift_92 : decode cX10_thrift 92 = .ok (.invokestatic 70, 3) := by decide +kernel
theorem dX10_thrift_95 : decode cX10_thrift 95 = .ok (.ifCond .ne 9, 3) := by decide +kernel
theorem dX10_thrift_98 : decode cX10_thrift 98 = .ok (.aload_n 0, 1) := by decide +kernel
theorem dX10_thrift_99 : decode cX10_thrift 99 = .ok (.iconst 3, 1) := by decide +kernel
theorem dX10_thrift_100 : decode cX10_thrift 100 = .ok (.invokevirtual 79, 3) := by decide +kernel
theorem dX10_thrift_103 : decode cX10_thrift 103 = .ok (.ireturn, 1) := by decide +kernel
theorem dX10_thrift_104 : decode cX10_thrift 104 = .ok (.iinc 6 1, 3) := by decide +kernel
theorem dX10_thrift_107 : decode cX10_thrift 107 = .ok (.goto (-35), 3) := by decide +kernel
theorem dX10_thrift_110 : decode cX10_thrift 110 = .ok (.iconst 0, 1) := by decide +kernel
theorem dX10_thrift_111 : decode cX10_thrift 111 = .ok (.istore 6, 2) := by decide +kernel
theorem dX10_thrift_113 : decode cX10_thrift 113 = .ok (.iload 6, 2) := by decide +kernel
theorem dX10_thrift_115 : decode cX10_thrift 115 = .ok (.bipush 60, 2) := by decide +kernel
theorem dX10_thrift_117 : decode cX10_thrift 117 = .ok (.if_icmp .gt 33, 3) := by decide +kernel
theorem dX10_thrift_120 : decode cX10_thrift 120 = .ok (.aload_n 0, 1) := by decide +kernel
theorem dX10_thrift_121 : decode cX10_thrift 121 = .ok (.getfield 46, 3) := by decide +kernel
theorem dX10_thrift_124 : decode cX10_thrift 124 = .ok (.iload 6, 2) := by decide +kernel
theorem dX10_thrift_126 : decode cX10_thrift 126 = .ok (.iload 6, 2) := by decide +kernel
theorem dX10_thrift_128 : decode cX10_thrift 128 = .ok (.ifCond .ne 14, 3) := by decide +kernel
theorem dX10_thrift_131 : decode cX10_thrift 131 = .ok (.aload_n 0, 1) := by decide +kernel
theorem dX10_thrift_132 : decode cX10_thrift 132 = .ok (.getfield 34, 3) := by decide +kernel
theorem dX10_thrift_135 : decode cX10_thrift 135 = .ok (.iconst 5, 1) := by decide +kernel
theorem dX10_thrift_136 : decode cX10_thrift 136 = .ok (.iload_n 1, 1) := by decide +kernel
theorem dX10_thrift_137 : decode cX10_thrift 137 = .ok (.iadd, 1) := by decide +kernel
theorem dX10_thrift_138 : decode cX10_thrift 138 = .ok (.iaload, 1) := by decide +kernel
theorem dX10_thrift_139 : decode cX10_thrift 139 = .ok (.goto 4, 3) := by decide +kernel
theorem dX10_thrift_142 : decode cX10_thrift 142 = .ok (.iconst (-1), 1) := by decide +kernel
theorem dX10_thrift_143 : decode cX10_thrift 143 = .ok (.iastore, 1) := by decide +kernel
theorem dX10_thrift_144 : decode cX10_thrift 144 = .ok (.iinc 6 1, 3) := by decide +kernel
theorem dX10_thrift_147 : decode cX10_thrift 147 = .ok (.goto (-34), 3) := by decide +kernel
theorem dX10_thrift_150 : decode cX10_thrift 150 = .ok (.iconst 0, 1) := by decide +kernel
theorem dX10_thrift_151 : decode cX10_thrift 151 = .ok (.istore 6, 2) := by decide +kernel
theorem dX10_thrift_153 : decode cX10_thrift 153 = .ok (.iload 6, 2) := by decide +kernel
theorem dX10_thrift_155 : decode cX10_thrift 155 = .ok (.iload 5, 2) := by decide +kernel
theorem dX10_thrift_157 : decode cX10_thrift 157 = .ok (.if_icmp .ge 24, 3) := by decide +kernel
theorem dX10_thrift_160 : decode cX10_thrift 160 = .ok (.aload_n 0, 1) := by decide +kernel
theorem dX10_thrift_161 : decode cX10_thrift 161 = .ok (.iload_n 1, 1) := by decide +kernel
theorem dX10_thrift_162 : decode cX10_thrift 162 = .ok (.aload_n 0, 1) := by decide +kernel
theorem dX10_thrift_163 : decode cX10_thrift 163 = .ok (.iload_n 3, 1) := by decide +kernel
theorem dX10_thrift_164 : decode cX10_thrift 164 = .ok (.iload 4, 2) := by decide +kernel
theorem dX10_thrift_166 : decode cX10_thrift 166 = .ok (.iload 6, 2) := by decide +kernel
theorem dX10_thrift_168 : decode cX10_thrift 168 = .ok (.iadd, 1) := by decide +kernel
theorem dX10_thrift_169 : decode cX10_thrift 169 = .ok (.invokevirtual 246, 3) := by decide +kernel
theorem dX10_thrift_172 : decode cX10_thrift 172 = .ok (.invokevirtual 249, 3) := by decide +kernel
theorem dX10_thrift_175 : decode cX10_thrift 175 = .ok (.iinc 6 1, 3) := by decide +kernel
theorem dX10_thrift_178 : decode cX10_thrift 178 = .ok (.goto (-25), 3) := by decide +kernel
theorem dX10_thrift_181 : decode cX10_thrift 181 = .ok (.aload_n 0, 1) := by decide +kernel
theorem dX10_thrift_182 : decode cX10_thrift 182 = .ok (.aload_n 0, 1) := by decide +kernel
theorem dX10_thrift_183 : decode cX10_thrift 183 = .ok (.getfield 46, 3) := by decide +kernel
theorem dX10_thrift_186 : decode cX10_thrift 186 = .ok (.iload_n 2, 1) := by decide +kernel
theorem dX10_thrift_187 : decode cX10_thrift 187 = .ok (.iaload, 1) := by decide +kernel
theorem dX10_thrift_188 : decode cX10_thrift 188 = .ok (.ifCond .ge 8, 3) := by decide +kernel
theorem dX10_thrift_191 : decode cX10_thrift 191 = .ok (.ldc 133, 2) := by decide +kernel
theorem dX10_thrift_193 : decode cX10_thrift 193 = .ok (.goto 9, 3) := by decide +kernel
theorem dX10_thrift_196 : decode cX10_thrift 196 = .ok (.aload_n 0, 1) := by decide +kernel
theorem dX10_thrift_197 : decode cX10_thrift 197 = .ok (.getfield 46, 3) := by decide +kernel
theorem dX10_thrift_200 : decode cX10_thrift 200 = .ok (.iload_n 2, 1) := by decide +kernel
theorem dX10_thrift_201 : decode cX10_thrift 201 = .ok (.iaload, 1) := by decide +kernel
theorem dX10_thrift_202 : decode cX10_thrift 202 = .ok (.invokevirtual 83, 3) := by decide +kernel
theorem dX10_thrift_205 : decode cX10_thrift 205 = .ok (.ireturn, 1) := by decide +kernel
theorem dX10_week_0 : decode cX10_week 0 = .ok (.iconst 0, 1) := by decide +kernel
theorem dX10_week_1 : decode cX10_week 1 = .ok (.istore_n 3, 1) := by decide +kernel
theorem dX10_week_2 : decode cX10_week 2 = .ok (.iload_n 3, 1) := by decide +kernel
theorem dX10_week_3 : decode cX10_week 3 = .ok (.bipush 60, 2) := by decide +kernel
theorem dX10_week_5 : decode cX10_week 5 = .ok (.if_icmp .gt 16, 3) := by decide +kernel
theorem dX10_week_8 : decode cX10_week 8 = .ok (.aload_n 0, 1) := by decide +kernel
theorem dX10_week_9 : decode cX10_week 9 = .ok (.getfield 49, 3) := by decide +kernel
theorem dX10_week_12 : decode cX10_week 12 = .ok (.iload_n 3, 1) := by decide +kernel
theorem dX10_week_13 : decode cX10_week 13 = .ok (.iconst (-1), 1) := by decide +kernel
theorem dX10_week_14 : decode cX10_week 14 = .ok (.iastore, 1) := by decide +kernel
theorem dX10_week_15 : decode cX10_week 15 = .ok (.iinc 3 1, 3) := by decide +kernel
theorem dX10_week_18 : decode cX10_week 18 = .ok (.goto (-16), 3) := by decide +kernel
theorem dX10_week_21 : decode cX10_week 21 = .ok (.iconst 0, 1) := by decide +kernel
theorem dX10_week_22 : decode cX10_week 22 = .ok (.istore_n 3, 1) := by decide +kernel
theorem dX10_week_23 : decode cX10_week 23 = .ok (.iload_n 3, 1) := by decide +kernel
theorem dX10_week_24 : decode cX10_week 24 = .ok (.bipush 60, 2) := by decide +kernel
theorem dX10_week_26 : decode cX10_week 26 = .ok (.if_icmp .gt 124, 3) := by decide +kernel
theorem dX10_week_29 : decode cX10_week 29 = .ok (.iconst 0, 1) := by decide +kernel
theorem dX10_week_30 : decode cX10_week 30 = .ok (.istore 4, 2) := by decide +kernel
theorem dX10_week_32 : decode cX10_week 32 = .ok (.iload 4, 2) := by decide +kernel
theorem dX10_week_34 : decode cX10_week 34 = .ok (.aload_n 0, 1) := by decide +kernel
theorem dX10_week_35 : decode cX10_week 35 = .ok (.getfield 31, 3) := by decide +kernel
theorem dX10_week_38 : decode cX10_week 38 = .ok (.iconst 2, 1) := by decide +kernel
theorem dX10_week_39 : decode cX10_week 39 = .ok (.iaload, 1) := by decide +kernel
theorem dX10_week_40 : decode cX10_week 40 = .ok (.if_icmp .gt 104, 3) := by decide +kernel
theorem dX10_week_43 : decode cX10_week 43 = .ok (.iload_n 3, 1) := by decide +kernel
theorem dX10_week_44 : decode cX10_week 44 = .ok (.iload 4, 2) := by decide +kernel
theorem dX10_week_46 : decode cX10_week 46 = .ok (.iadd, 1) := by decide +kernel
theorem dX10_week_47 : decode cX10_week 47 = .ok (.bipush 60, 2) := by decide +kernel
theorem dX10_week_49 : decode cX10_week 49 = .ok (.if_icmp .gt 95, 3) := by decide +kernel
theorem dX10_week_52 : decode cX10_week 52 = .ok (.aload_n 0, 1) := by decide +kernel
theorem dX10_week_53 : decode cX10_week 53 = .ok (.getfield 46, 3) := by decide +kernel
theorem dX10_week_56 : decode cX10_week 56 = .ok (.iload_n 3, 1) := by decide +kernel
theorem dX10_week_57 : decode cX10_week 57 = .ok (.iaload, 1) := by decide +kernel
theorem dX10_week_58 : decode cX10_week 58 = .ok (.iload 4, 2) := by decide +kernel
theorem dX10_week_60 : decode cX10_week 60 = .ok (.iload_n 2, 1) := by decide +kernel
theorem dX10_week_61 : decode cX10_week 61 = .ok (.imul, 1) := by decide +kernel
theorem dX10_week_62 : decode cX10_week 62 = .ok (.isub, 1) := by decide +kernel
theorem dX10_week_63 : decode cX10_week 63 = .ok (.istore 5, 2) := by decide +kernel
theorem dX10_week_65 : decode cX10_week 65 = .ok (.aload_n 0, 1) := by decide +kernel
theorem dX10_week_66 : decode cX10_week 66 = .ok (.getfield 46, 3) := by decide +kernel
theorem dX10_week_69 : decode cX10_week 69 = .ok (.iload_n 3, 1) := by decide +kernel
theorem dX10_week_70 : decode cX10_week 70 = .ok (.iaload, 1) := by decide +kernel
theorem dX10_week_71 : decode cX10_week 71 = .ok (.ifCond .lt 8, 3) := by decide +kernel
theorem dX10_week_74 : decode cX10_week 74 = .ok (.iload 5, 2) := by decide +kernel
theorem dX10_week_76 : decode cX10_week 76 = .ok (.ifCond .ge 7, 3) := by decide +kernel
theorem dX10_week_79 : decode cX10_week 79 = .ok (.iconst (-1), 1) := by decide +kernel
theorem dX10_week_80 : decode cX10_week 80 = .ok (.goto 19, 3) := by decide +kernel
theorem dX10_week_83 : decode cX10_week 83 = .ok (.iload 5, 2) := by decide +kernel
theorem dX10_week_85 : decode cX10_week 85 = .ok (.aload_n 0, 1) := by decide +kernel
theorem dX10_week_86 : decode cX10_week 86 = .ok (.getfield 31, 3) := by decide +kernel
theorem dX10_week_89 : decode cX10_week 89 = .ok (.iconst 3, 1) := by decide +kernel
theorem dX10_week_90 : decode cX10_week 90 = .ok (.iload_n 1, 1) := by decide +kernel
theorem dX10_week_91 : decode cX10_week 91 = .ok (.iadd, 1) := by decide +kernel
theorem dX10_week_92 : decode cX10_week 92 = .ok (.iaload, 1) := by decide +kernel
theorem dX10_week_93 : decode cX10_week 93 = .ok (.iadd, 1) := by decide +kernel
theorem dX10_week_94 : decode cX10_week 94 = .ok (.bipush 99, 2) := by decide +kernel
theorem dX10_week_96 : decode cX10_week 96 = .ok (.invokestatic 187, 3) := by decide +kernel
theorem dX10_week_99 : decode cX10_week 99 = .ok (.istore 6, 2) := by decide +kernel
theorem dX10_week_101 : decode cX10_week 101 = .ok (.aload_n 0, 1) := by decide +kernel
theorem dX10_week_102 : decode cX10_week 102 = .ok (.getfield 49, 3) := by decide +kernel
theorem dX10_week_105 : decode cX10_week 105 = .ok (.iload_n 3, 1) := by decide +kernel
theorem dX10_week_106 : decode cX10_week 106 = .ok (.iload 4, 2) := by decide +kernel
theorem dX10_week_108 : decode cX10_week 108 = .ok (.iadd, 1) := by decide +kernel
theorem dX10_week_109 : decode cX10_week 109 = .ok (.iload 6, 2) := by decide +kernel
theorem dX10_week_111 : decode cX10_week 111 = .ok (.aload_n 0, 1) := by decide +kernel
theorem dX10_week_112 : decode cX10_week 112 = .ok (.getfield 49, 3) := by decide +kernel
theorem dX10_week_115 : decode cX10_week 115 = .ok (.iload_n 3, 1) := by decide +kernel
theorem dX10_week_116 : decode cX10_week 116 = .ok (.iload 4, 2) := by decide +kernel
theorem dX10_week_118 : decode cX10_week 118 = .ok (.iadd, 1) := by decide +kernel
theorem dX10_week_119 : decode cX10_week 119 = .ok (.iaload, 1) := by decide +kernel
theorem dX10_week_120 : decode cX10_week 120 = .ok (.if_icmp .le 8, 3) := by decide +kernel
theorem dX10_week_123 : decode cX10_week 123 = .ok (.iload 6, 2) := by decide +kernel
theorem dX10_week_125 : decode cX10_week 125 = .ok (.goto 12, 3) := by decide +kernel
theorem dX10_week_128 : decode cX10_week 128 = .ok (.aload_n 0, 1) := by decide +kernel
theorem dX10_week_129 : decode cX10_week 129 = .ok (.getfield 49, 3) := by decide +kernel
theorem dX10_week_132 : decode cX10_week 132 = .ok (.iload_n 3, 1) := by decide +kernel
theorem dX10_week_133 : decode cX10_week 133 = .ok (.iload 4, 2) := by decide +kernel
theorem dX10_week_135 : decode cX10_week 135 = .ok (.iadd, 1) := by decide +kernel
theorem dX10_week_136 : decode cX10_week 136 = .ok (.iaload, 1) := by decide +kernel
theorem dX10_week_137 : decode cX10_week 137 = .ok (.iastore, 1) := by decide +kernel
theorem dX10_week_138 : decode cX10_week 138 = .ok (.iinc 4 1, 3) := by decide +kernel
theorem dX10_week_141 : decode cX10_week 141 = .ok (.goto (-109), 3) := by decide +kernel
theorem dX10_week_144 : decode cX10_week 144 = .ok (.iinc 3 1, 3) := by decide +kernel
theorem dX10_week_147 : decode cX10_week 147 = .ok (.goto (-124), 3) := by decide +kernel
theorem dX10_week_150 : decode cX10_week 150 = .ok (.iconst 0, 1) := by decide +kernel
theorem dX10_week_151 : decode cX10_week 151 = .ok (.istore_n 3, 1) := by decide +kernel
theorem dX10_week_152 : decode cX10_week 152 = .ok (.iload_n 3, 1) := by decide +kernel
theorem dX10_week_153 : decode cX10_week 153 = .ok (.bipush 60, 2) := by decide +kernel
theorem dX10_week_155 : decode cX10_week 155 = .ok (.if_icmp .gt 21, 3) := by decide +kernel
theorem dX10_week_158 : decode cX10_week 158 = .ok (.aload_n 0, 1) := by decide +kernel
theorem dX10_week_159 : decode cX10_week 159 = .ok (.getfield 46, 3) := by decide +kernel
theorem dX10_week_162 : decode cX10_week 162 = .ok (.iload_n 3, 1) := by decide +kernel
theorem dX10_week_163 : decode cX10_week 163 = .ok (.aload_n 0, 1) := by decide +kernel
theorem dX10_week_164 : decode cX10_week 164 = .ok (.getfield 49, 3) := by decide +kernel
theorem dX10_week_167 : decode cX10_week 167 = .ok (.iload_n 3, 1) := by decide +kernel
theorem dX10_week_168 : decode cX10_week 168 = .ok (.iaload, 1) := by decide +kernel
theorem dX10_week_169 : decode cX10_week 169 = .ok (.iastore, 1) := by decide +kernel
theorem dX10_week_170 : decode cX10_week 170 = .ok (.iinc 3 1, 3) := by decide +kernel
theorem dX10_week_173 : decode cX10_week 173 = .ok (.goto (-21), 3) := by decide +kernel
theorem dX10_week_176 : decode cX10_week 176 = .ok (.return_, 1) := by decide +kernel
theorem dX10_isNoted_0 : decode cX10_isNoted 0 = .ok (.aload_n 0, 1) := by decide +kernel
theorem dX10_isNoted_1 : decode cX10_isNoted 1 = .ok (.iload_n 1, 1) := by decide +kernel
theorem dX10_isNoted_2 : decode cX10_isNoted 2 = .ok (.iload_n 2, 1) := by decide +kernel
theorem dX10_isNoted_3 : decode cX10_isNoted 3 = .ok (.iconst 0, 1) := by decide +kernel
theorem dX10_isNoted_4 : decode cX10_isNoted 4 = .ok (.invokevirtual 180, 3) := by decide +kernel
theorem dX10_isNoted_7 : decode cX10_isNoted 7 = .ok (.istore 6, 2) := by decide +kernel
theorem dX10_isNoted_9 : decode cX10_isNoted 9 = .ok (.iconst 1, 1) := by decide +kernel
theorem dX10_isNoted_10 : decode cX10_isNoted 10 = .ok (.istore 7, 2) := by decide +kernel
theorem dX10_isNoted_12 : decode cX10_isNoted 12 = .ok (.iconst 0, 1) := by decide +kernel
theorem dX10_isNoted_13 : decode cX10_isNoted 13 = .ok (.istore 8, 2) := by decide +kernel
theorem dX10_isNoted_15 : decode cX10_isNoted 15 = .ok (.iload 8, 2) := by decide +kernel
theorem dX10_isNoted_17 : decode cX10_isNoted 17 = .ok (.iload 5, 2) := by decide +kernel
theorem dX10_isNoted_19 : decode cX10_isNoted 19 = .ok (.if_icmp .ge 49, 3) := by decide +kernel
theorem dX10_isNoted_22 : decode cX10_isNoted 22 = .ok (.aload_n 0, 1) := by decide +kernel
theorem dX10_isNoted_23 : decode cX10_isNoted 23 = .ok (.iload_n 1, 1) := by decide +kernel
theorem dX10_isNoted_24 : decode cX10_isNoted 24 = .ok (.iload 6, 2) := by decide +kernel
theorem dX10_isNoted_26 : decode cX10_isNoted 26 = .ok (.iconst 0, 1) := by decide +kernel
theorem dX10_isNoted_27 : decode cX10_isNoted 27 = .ok (.invokevirtual 184, 3) := by decide +kernel
theorem dX10_isNoted_30 : decode cX10_isNoted 30 = .ok (.istore 6, 2) := by decide +kernel
theorem dX10_isNoted_32 : decode cX10_isNoted 32 = .ok (.iload 7, 2) := by decide +kernel
theorem dX10_isNoted_34 : decode cX10_isNoted 34 = .ok (.ifCond .eq 25, 3) := by decide +kernel
theorem dX10_isNoted_37 : decode cX10_isNoted 37 = .ok (.iload 6, 2) := by decide +kernel
theorem dX10_isNoted_39 : decode cX10_isNoted 39 = .ok (.invokestatic 234, 3) := by decide +kernel
theorem dX10_isNoted_42 : decode cX10_isNoted 42 = .ok (.aload_n 0, 1) := by decide +kernel
theorem dX10_isNoted_43 : decode cX10_isNoted 43 = .ok (.iload_n 3, 1) := by decide +kernel
theorem dX10_isNoted_44 : decode cX10_isNoted 44 = .ok (.iload 4, 2) := by decide +kernel
theorem dX10_isNoted_46 : decode cX10_isNoted 46 = .ok (.iload 8, 2) := by decide +kernel
theorem dX10_isNoted_48 : decode cX10_isNoted 48 = .ok (.iadd, 1) := by decide +kernel
theorem dX10_isNoted_49 : decode cX10_isNoted 49 = .ok (.invokevirtual 246, 3) := by decide +kernel
theorem dX10_isNoted_52 : decode cX10_isNoted 52 = .ok (.if_icmp .ne 7, 3) := by decide +kernel
theorem dX10_isNoted_55 : decode cX10_isNoted 55 = .ok (.iconst 1, 1) := by decide +kernel
theorem dX10_isNoted_56 : decode cX10_isNoted 56 = .ok (.goto 4, 3) := by decide +kernel
theorem dX10_isNoted_59 : decode cX10_isNoted 59 = .ok (.iconst 0, 1) := by decide +kernel
theorem dX10_isNoted_60 : decode cX10_isNoted 60 = .ok (.istore 7, 2) := by decide +kernel
theorem dX10_isNoted_62 : decode cX10_isNoted 62 = .ok (.iinc 8 1, 3) := by decide +kernel
theorem dX10_isNoted_65 : decode cX10_isNoted 65 = .ok (.goto (-50), 3) := by decide +kernel
theorem dX10_isNoted_68 : decode cX10_isNoted 68 = .ok (.iload 7, 2) := by decide +kernel
theorem dX10_isNoted_70 : decode cX10_isNoted 70 = .ok (.ireturn, 1) := by decide +kernel
theorem dX10_who_0 : decode cX10_who 0 = .ok (.aload_n 0, 1) := by decide +kernel
theorem dX10_who_1 : decode cX10_who 1 = .ok (.iload_n 1, 1) := by decide +kernel
theorem dX10_who_2 : decode cX10_who 2 = .ok (.invokevirtual 205, 3) := by decide +kernel
theorem dX10_who_5 : decode cX10_who 5 = .ok (.ifCond .eq 30, 3) := by decide +kernel
theorem dX10_who_8 : decode cX10_who 8 = .ok (.iload_n 2, 1) := by decide +kernel
theorem dX10_who_9 : decode cX10_who 9 = .ok (.iconst 0, 1) := by decide +kernel
theorem dX10_who_10 : decode cX10_who 10 = .ok (.iconst 1, 1) := by decide +kernel
theorem dX10_who_11 : decode cX10_who 11 = .ok (.invokestatic 70, 3) := by decide +kernel
theorem dX10_who_14 : decode cX10_who 14 = .ok (.ifCond .eq 21, 3) := by decide +kernel
theorem dX10_who_17 : decode cX10_who 17 = .ok (.iload_n 3, 1) := by decide +kernel
theorem dX10_who_18 : decode cX10_who 18 = .ok (.invokestatic 74, 3) := by decide +kernel
theorem dX10_who_21 : decode cX10_who 21 = .ok (.ifCond .eq 14, 3) := by decide +kernel
theorem dX10_who_24 : decode cX10_who 24 = .ok (.iload 5, 2) := by decide +kernel
theorem dX10_who_26 : decode cX10_who 26 = .ok (.iconst 1, 1) := by decide +kernel
theorem dX10_who_27 : decode cX10_who 27 = .ok (.bipush 12, 2) := by decide +kernel
theorem dX10_who_29 : decode cX10_who 29 = .ok (.invokestatic 70, 3) := by decide +kernel
theorem dX10_who_32 : decode cX10_who 32 = .ok (.ifCond .ne 6, 3) := by decide +kernel
theorem dX10_who_35 : decode cX10_who 35 = .ok (.ldc 78, 2) := by decide +kernel
theorem dX10_who_37 : decode cX10_who 37 = .ok (.ireturn, 1) := by decide +kernel
theorem dX10_who_38 : decode cX10_who 38 = .ok (.aload_n 0, 1) := by decide +kernel
theorem dX10_who_39 : decode cX10_who 39 = .ok (.getfield 7, 3) := by decide +kernel
theorem dX10_who_42 : decode cX10_who 42 = .ok (.iload_n 3, 1) := by decide +kernel
theorem dX10_who_43 : decode cX10_who 43 = .ok (.iaload, 1) := by decide +kernel
theorem dX10_who_44 : decode cX10_who 44 = .ok (.ifCond .ge 9, 3) := by decide +kernel
theorem dX10_who_47 : decode cX10_who 47 = .ok (.aload_n 0, 1) := by decide +kernel
theorem dX10_who_48 : decode cX10_who 48 = .ok (.iconst 1, 1) := by decide +kernel
theorem dX10_who_49 : decode cX10_who 49 = .ok (.invokevirtual 79, 3) := by decide +kernel
theorem dX10_who_52 : decode cX10_who 52 = .ok (.ireturn, 1) := by decide +kernel
theorem dX10_who_53 : decode cX10_who 53 = .ok (.aload_n 0, 1) := by decide +kernel
theorem dX10_who_54 : decode cX10_who 54 = .ok (.iload_n 3, 1) := by decide +kernel
theorem dX10_who_55 : decode cX10_who 55 = .ok (.iload 4, 2) := by decide +kernel
theorem dX10_who_57 : decode cX10_who 57 = .ok (.iload 5, 2) := by decide +kernel
theorem dX10_who_59 : decode cX10_who 59 = .ok (.invokevirtual 86, 3) := by decide +kernel
theorem dX10_who_62 : decode cX10_who 62 = .ok (.ifCond .ne 9, 3) := by decide +kernel
theorem dX10_who_65 : decode cX10_who 65 = .ok (.aload_n 0, 1) := by decide +kernel
theorem dX10_who_66 : decode cX10_who 66 = .ok (.iconst 2, 1) := by decide +kernel
theorem dX10_who_67 : decode cX10_who 67 = .ok (.invokevirtual 79, 3) := by decide +kernel
theorem dX10_who_70 : decode cX10_who 70 = .ok (.ireturn, 1) := by decide +kernel
theorem dX10_who_71 : decode cX10_who 71 = .ok (.iconst 0, 1) := by decide +kernel
theorem dX10_who_72 : decode cX10_who 72 = .ok (.istore 6, 2) := by decide +kernel
theorem dX10_who_74 : decode cX10_who 74 = .ok (.iconst 0, 1) := by decide +kernel
theorem dX10_who_75 : decode cX10_who 75 = .ok (.istore 7, 2) := by decide +kernel
theorem dX10_who_77 : decode cX10_who 77 = .ok (.iload 7, 2) := by decide +kernel
theorem dX10_who_79 : decode cX10_who 79 = .ok (.bipush 6, 2) := by decide +kernel
theorem dX10_who_81 : decode cX10_who 81 = .ok (.if_icmp .ge 106, 3) := by decide +kernel
theorem dX10_who_84 : decode cX10_who 84 = .ok (.iload_n 2, 1) := by decide +kernel
theorem dX10_who_85 : decode cX10_who 85 = .ok (.ifCond .ne 39, 3) := by decide +kernel
theorem dX10_who_88 : decode cX10_who 88 = .ok (.iload 7, 2) := by decide +kernel
theorem dX10_who_90 : decode cX10_who 90 = .ok (.ifCond .le 30, 3) := by decide +kernel
theorem dX10_who_93 : decode cX10_who 93 = .ok (.aload_n 0, 1) := by decide +kernel
theorem dX10_who_94 : decode cX10_who 94 = .ok (.iload 7, 2) := by decide +kernel
theorem dX10_who_96 : decode cX10_who 96 = .ok (.aload_n 0, 1) := by decide +kernel
theorem dX10_who_97 : decode cX10_who 97 = .ok (.getfield 31, 3) := by decide +kernel
theorem dX10_who_100 : decode cX10_who 100 = .ok (.bipush 14, 2) := by decide +kernel
theorem dX10_who_102 : decode cX10_who 102 = .ok (.iload_n 1, 1) := by decide +kernel
theorem dX10_who_103 : decode cX10_who 103 = .ok (.iadd, 1) := by decide +kernel
theorem dX10_who_104 : decode cX10_who 104 = .ok (.iaload, 1) := by decide +kernel
theorem dX10_who_105 : decode cX10_who 105 = .ok (.iload_n 3, 1) := by decide +kernel
theorem dX10_who_106 : decode cX10_who 106 = .ok (.iload 4, 2) := by decide +kernel
theorem dX10_who_108 : decode cX10_who 108 = .ok (.iload 5, 2) := by decide +kernel
theorem dX10_who_110 : decode cX10_who 110 = .ok (.invokevirtual 253, 3) := by decide +kernel
theorem dX10_who_113 : decode cX10_who 113 = .ok (.ifCond .eq 7, 3) := by decide +kernel
theorem dX10_who_116 : decode cX10_who 116 = .ok (.iconst 1, 1) := by decide +kernel
theorem dX10_who_117 : decode cX10_who 117 = .ok (.goto 44, 3) := by decide +kernel
theorem dX10_who_120 : decode cX10_who 120 = .ok (.iconst 0, 1) := by decide +kernel
theorem dX10_who_121 : decode cX10_who 121 = .ok (.goto 40, 3) := by decide +kernel
theorem dX10_who_124 : decode cX10_who 124 = .ok (.aload_n 0, 1) := by decide +kernel
theorem dX10_who_125 : decode cX10_who 125 = .ok (.iload 7, 2) := by decide +kernel
theorem dX10_who_127 : decode cX10_who 127 = .ok (.invokevirtual 215, 3) := by decide +kernel
theorem dX10_who_130 : decode cX10_who 130 = .ok (.ifCond .eq 30, 3) := by decide +kernel
theorem dX10_who_133 : decode cX10_who 133 = .ok (.aload_n 0, 1) := by decide +kernel
theorem dX10_who_134 : decode cX10_who 134 = .ok (.aload_n 0, 1) := by decide +kernel
theorem dX10_who_135 : decode cX10_who 135 = .ok (.getfield 31, 3) := by decide +kernel
theorem dX10_who_138 : decode cX10_who 138 = .ok (.bipush 8, 2) := by decide +kernel
theorem dX10_who_140 : decode cX10_who 140 = .ok (.iload_n 1, 1) := by decide +kernel
theorem dX10_who_141 : decode cX10_who 141 = .ok (.iadd, 1) := by decide +kernel
theorem dX10_who_142 : decode cX10_who 142 = .ok (.iaload, 1) := by decide +kernel
theorem dX10_who_143 : decode cX10_who 143 = .ok (.iload 7, 2) := by decide +kernel
theorem dX10_who_145 : decode cX10_who 145 = .ok (.iload_n 3, 1) := by decide +kernel
theorem dX10_who_146 : decode cX10_who 146 = .ok (.iload 4, 2) := by decide +kernel
theorem dX10_who_148 : decode cX10_who 148 = .ok (.iload 5, 2) := by decide +kernel
theorem dX10_who_150 : decode cX10_who 150 = .ok (.invokevirtual 253, 3) := by decide +kernel
theorem dX10_who_153 : decode cX10_who 153 = .ok (.ifCond .eq 7, 3) := by decide +kernel
theorem dX10_who_156 : decode cX10_who 156 = .ok (.iconst 1, 1) := by decide +kernel
theorem dX10_who_157 : decode cX10_who 157 = .ok (.goto 4, 3) := by decide +kernel
theorem dX10_who_160 : decode cX10_who 160 = .ok (.iconst 0, 1) := by decide +kernel
theorem dX10_who_161 : decode cX10_who 161 = .ok (.istore 8, 2) := by decide +kernel
theorem dX10_who_163 : decode cX10_who 163 = .ok (.iload 6, 2) := by decide +kernel
theorem dX10_who_165 : decode cX10_who 165 = .ok (.iload 8, 2) := by decide +kernel
theorem dX10_who_167 : decode cX10_who 167 = .ok (.ifCond .eq 10, 3) := by decide +kernel
theorem dX10_who_170 : decode cX10_who 170 = .ok (.iconst 1, 1) := by decide +kernel
theorem dX10_who_171 : decode cX10_who 171 = .ok (.iload 7, 2) := by decide +kernel
theorem dX10_who_173 : decode cX10_who 173 = .ok (.ishl, 1) := by decide +kernel
theorem dX10_who_174 : decode cX10_who 174 = .ok (.goto 4, 3) := by decide +kernel
theorem dX10_who_177 : decode cX10_who 177 = .ok (.iconst 0, 1) := by decide +kernel
theorem dX10_who_178 : decode cX10_who 178 = .ok (.ior, 1) := by decide +kernel
theorem dX10_who_179 : decode cX10_who 179 = .ok (.istore 6, 2) := by decide +kernel
theorem dX10_who_181 : decode cX10_who 181 = .ok (.iinc 7 1, 3) := by decide +kernel
theorem dX10_who_184 : decode cX10_who 184 = .ok (.goto (-107), 3) := by decide +kernel
theorem dX10_who_187 : decode cX10_who 187 = .ok (.aload_n 0, 1) := by decide +kernel
theorem dX10_who_188 : decode cX10_who 188 = .ok (.iload 6, 2) := by decide +kernel
theorem dX10_who_190 : decode cX10_who 190 = .ok (.invokevirtual 83, 3) := by decide +kernel
theorem dX10_who_193 : decode cX10_who 193 = .ok (.ireturn, 1) := by decide +kernel
theorem dX10_priced_0 : decode cX10_priced 0 = .ok (.iload_n 1, 1) := by decide +kernel
theorem dX10_priced_1 : decode cX10_priced 1 = .ok (.invokestatic 74, 3) := by decide +kernel
theorem dX10_priced_4 : decode cX10_priced 4 = .ok (.ifCond .eq 21, 3) := by decide +kernel
theorem dX10_priced_7 : decode cX10_priced 7 = .ok (.iload_n 3, 1) := by decide +kernel
theorem dX10_priced_8 : decode cX10_priced 8 = .ok (.invokestatic 74, 3) := by decide +kernel
theorem dX10_priced_11 : decode cX10_priced 11 = .ok (.ifCond .eq 14, 3) := by decide +kernel
theorem dX10_priced_14 : decode cX10_priced 14 = .ok (.iload 5, 2) := by decide +kernel
theorem dX10_priced_16 : decode cX10_priced 16 = .ok (.iconst 1, 1) := by decide +kernel
theorem dX10_priced_17 : decode cX10_priced 17 = .ok (.bipush 12, 2) := by decide +kernel
theorem dX10_priced_19 : decode cX10_priced 19 = .ok (.invokestatic 70, 3) := by decide +kernel
theorem dX10_priced_22 : decode cX10_priced 22 = .ok (.ifCond .ne 6, 3) := by decide +kernel
theorem dX10_priced_25 : decode cX10_priced 25 = .ok (.ldc 78, 2) := by decide +kernel
theorem dX10_priced_27 : decode cX10_priced 27 = .ok (.ireturn, 1) := by decide +kernel
theorem dX10_priced_28 : decode cX10_priced 28 = .ok (.aload_n 0, 1) := by decide +kernel
theorem dX10_priced_29 : decode cX10_priced 29 = .ok (.getfield 7, 3) := by decide +kernel
theorem dX10_priced_32 : decode cX10_priced 32 = .ok (.iload_n 1, 1) := by decide +kernel
theorem dX10_priced_33 : decode cX10_priced 33 = .ok (.iaload, 1) := by decide +kernel
theorem dX10_priced_34 : decode cX10_priced 34 = .ok (.ifCond .ge 9, 3) := by decide +kernel
theorem dX10_priced_37 : decode cX10_priced 37 = .ok (.aload_n 0, 1) := by decide +kernel
theorem dX10_priced_38 : decode cX10_priced 38 = .ok (.iconst 1, 1) := by decide +kernel
theorem dX10_priced_39 : decode cX10_priced 39 = .ok (.invokevirtual 79, 3) := by decide +kernel
theorem dX10_priced_42 : decode cX10_priced 42 = .ok (.ireturn, 1) := by decide +kernel
theorem dX10_priced_43 : decode cX10_priced 43 = .ok (.aload_n 0, 1) := by decide +kernel
theorem dX10_priced_44 : decode cX10_priced 44 = .ok (.iload_n 1, 1) := by decide +kernel
theorem dX10_priced_45 : decode cX10_priced 45 = .ok (.iload_n 2, 1) := by decide +kernel
theorem dX10_priced_46 : decode cX10_priced 46 = .ok (.iload 5, 2) := by decide +kernel
theorem dX10_priced_48 : decode cX10_priced 48 = .ok (.invokevirtual 86, 3) := by decide +kernel
theorem dX10_priced_51 : decode cX10_priced 51 = .ok (.ifCond .ne 9, 3) := by decide +kernel
theorem dX10_priced_54 : decode cX10_priced 54 = .ok (.aload_n 0, 1) := by decide +kernel
theorem dX10_priced_55 : decode cX10_priced 55 = .ok (.iconst 2, 1) := by decide +kernel
theorem dX10_priced_56 : decode cX10_priced 56 = .ok (.invokevirtual 79, 3) := by decide +kernel
theorem dX10_priced_59 : decode cX10_priced 59 = .ok (.ireturn, 1) := by decide +kernel
theorem dX10_priced_60 : decode cX10_priced 60 = .ok (.aload_n 0, 1) := by decide +kernel
theorem dX10_priced_61 : decode cX10_priced 61 = .ok (.getfield 7, 3) := by decide +kernel
theorem dX10_priced_64 : decode cX10_priced 64 = .ok (.iload_n 3, 1) := by decide +kernel
theorem dX10_priced_65 : decode cX10_priced 65 = .ok (.iaload, 1) := by decide +kernel
theorem dX10_priced_66 : decode cX10_priced 66 = .ok (.ifCond .ge 9, 3) := by decide +kernel
theorem dX10_priced_69 : decode cX10_priced 69 = .ok (.aload_n 0, 1) := by decide +kernel
theorem dX10_priced_70 : decode cX10_priced 70 = .ok (.iconst 1, 1) := by decide +kernel
theorem dX10_priced_71 : decode cX10_priced 71 = .ok (.invokevirtual 79, 3) := by decide +kernel
theorem dX10_priced_74 : decode cX10_priced 74 = .ok (.ireturn, 1) := by decide +kernel
theorem dX10_priced_75 : decode cX10_priced 75 = .ok (.aload_n 0, 1) := by decide +kernel
theorem dX10_priced_76 : decode cX10_priced 76 = .ok (.iload_n 3, 1) := by decide +kernel
theorem dX10_priced_77 : decode cX10_priced 77 = .ok (.iload 4, 2) := by decide +kernel
theorem dX10_priced_79 : decode cX10_priced 79 = .ok (.iload 5, 2) := by decide +kernel
theorem dX10_priced_81 : decode cX10_priced 81 = .ok (.invokevirtual 86, 3) := by decide +kernel
theorem dX10_priced_84 : decode cX10_priced 84 = .ok (.ifCond .ne 9, 3) := by decide +kernel
theorem dX10_priced_87 : decode cX10_priced 87 = .ok (.aload_n 0, 1) := by decide +kernel
theorem dX10_priced_88 : decode cX10_priced 88 = .ok (.iconst 2, 1) := by decide +kernel
theorem dX10_priced_89 : decode cX10_priced 89 = .ok (.invokevirtual 79, 3) := by decide +kernel
theorem dX10_priced_92 : decode cX10_priced 92 = .ok (.ireturn, 1) := by decide +kernel
theorem dX10_priced_93 : decode cX10_priced 93 = .ok (.iconst 0, 1) := by decide +kernel
theorem dX10_priced_94 : decode cX10_priced 94 = .ok (.istore 6, 2) := by decide +kernel
theorem dX10_priced_96 : decode cX10_priced 96 = .ok (.iconst 0, 1) := by decide +kernel
theorem dX10_priced_97 : decode cX10_priced 97 = .ok (.istore 7, 2) := by decide +kernel
theorem dX10_priced_99 : decode cX10_priced 99 = .ok (.iload 7, 2) := by decide +kernel
theorem dX10_priced_101 : decode cX10_priced 101 = .ok (.iload 5, 2) := by decide +kernel
theorem dX10_priced_103 : decode cX10_priced 103 = .ok (.if_icmp .ge 78, 3) := by decide +kernel
theorem dX10_priced_106 : decode cX10_priced 106 = .ok (.aload_n 0, 1) := by decide +kernel
theorem dX10_priced_107 : decode cX10_priced 107 = .ok (.iload_n 1, 1) := by decide +kernel
theorem dX10_priced_108 : decode cX10_priced 108 = .ok (.iload_n 2, 1) := by decide +kernel
theorem dX10_priced_109 : decode cX10_priced 109 = .ok (.iload 7, 2) := by decide +kernel
theorem dX10_priced_111 : decode cX10_priced 111 = .ok (.iadd, 1) := by decide +kernel
theorem dX10_priced_112 : decode cX10_priced 112 = .ok (.invokevirtual 246, 3) := by decide +kernel
theorem dX10_priced_115 : decode cX10_priced 115 = .ok (.iconst 0, 1) := by decide +kernel
theorem dX10_priced_116 : decode cX10_priced 116 = .ok (.sipush 999, 3) := by decide +kernel
theorem dX10_priced_119 : decode cX10_priced 119 = .ok (.invokestatic 70, 3) := by decide +kernel
theorem dX10_priced_122 : decode cX10_priced 122 = .ok (.ifCond .eq 22, 3) := by decide +kernel
theorem dX10_priced_125 : decode cX10_priced 125 = .ok (.aload_n 0, 1) := by decide +kernel
theorem dX10_priced_126 : decode cX10_priced 126 = .ok (.iload_n 3, 1) := by decide +kernel
theorem dX10_priced_127 : decode cX10_priced 127 = .ok (.iload 4, 2) := by decide +kernel
theorem dX10_priced_129 : decode cX10_priced 129 = .ok (.iload 7, 2) := by decide +kernel
theorem dX10_priced_131 : decode cX10_priced 131 = .ok (.iadd, 1) := by decide +kernel
theorem dX10_priced_132 : decode cX10_priced 132 = .ok (.invokevirtual 246, 3) := by decide +kernel
theorem dX10_priced_135 : decode cX10_priced 135 = .ok (.iconst 1, 1) := by decide +kernel
theorem dX10_priced_136 : decode cX10_priced 136 = .ok (.bipush 9, 2) := by decide +kernel
theorem dX10_priced_138 : decode cX10_priced 138 = .ok (.invokestatic 70, 3) := by decide +kernel
theorem dX10_priced_141 : decode cX10_priced 141 = .ok (.ifCond .ne 9, 3) := by decide +kernel
theorem dX10_priced_144 : decode cX10_priced 144 = .ok (.aload_n 0, 1) := by decide +kernel
theorem dX10_priced_145 : decode cX10_priced 145 = .ok (.iconst 3, 1) := by decide +kernel
theorem dX10_priced_146 : decode cX10_priced 146 = .ok (.invokevirtual 79, 3) := by decide +kernel
theorem dX10_priced_149 : decode cX10_priced 149 = .ok (.ireturn, 1) := by decide +kernel
theorem dX10_priced_150 : decode cX10_priced 150 = .ok (.iload 6, 2) := by decide +kernel
theorem dX10_priced_152 : decode cX10_priced 152 = .ok (.aload_n 0, 1) := by decide +kernel
theorem dX10_priced_153 : decode cX10_priced 153 = .ok (.iload_n 1, 1) := by decide +kernel
theorem dX10_priced_154 : decode cX10_priced 154 = .ok (.iload_n 2, 1) := by decide +kernel
theorem dX10_priced_155 : decode cX10_priced 155 = .ok (.iload 7, 2) := by decide +kernel
theorem dX10_priced_157 : decode cX10_priced 157 = .ok (.iadd, 1) := by decide +kernel
theorem dX10_priced_158 : decode cX10_priced 158 = .ok (.invokevirtual 246, 3) := by decide +kernel
theorem dX10_priced_161 : decode cX10_priced 161 = .ok (.aload_n 0, 1) := by decide +kernel
theorem dX10_priced_162 : decode cX10_priced 162 = .ok (.iload_n 3, 1) := by decide +kernel
theorem dX10_priced_163 : decode cX10_priced 163 = .ok (.iload 4, 2) := by decide +kernel
theorem dX10_priced_165 : decode cX10_priced 165 = .ok (.iload 7, 2) := by decide +kernel
theorem dX10_priced_167 : decode cX10_priced 167 = .ok (.iadd, 1) := by decide +kernel
theorem dX10_priced_168 : decode cX10_priced 168 = .ok (.invokevirtual 246, 3) := by decide +kernel
theorem dX10_priced_171 : decode cX10_priced 171 = .ok (.imul, 1) := by decide +kernel
theorem dX10_priced_172 : decode cX10_priced 172 = .ok (.iadd, 1) := by decide +kernel
theorem dX10_priced_173 : decode cX10_priced 173 = .ok (.istore 6, 2) := by decide +kernel
theorem dX10_priced_175 : decode cX10_priced 175 = .ok (.iinc 7 1, 3) := by decide +kernel
theorem dX10_priced_178 : decode cX10_priced 178 = .ok (.goto (-79), 3) := by decide +kernel
theorem dX10_priced_181 : decode cX10_priced 181 = .ok (.aload_n 0, 1) := by decide +kernel
theorem dX10_priced_182 : decode cX10_priced 182 = .ok (.iload 6, 2) := by decide +kernel
theorem dX10_priced_184 : decode cX10_priced 184 = .ok (.invokevirtual 83, 3) := by decide +kernel
theorem dX10_priced_187 : decode cX10_priced 187 = .ok (.ireturn, 1) := by decide +kernel
theorem dX10_common_0 : decode cX10_common 0 = .ok (.lload_n 0, 1) := by decide +kernel
theorem dX10_common_1 : decode cX10_common 1 = .ok (.lstore 4, 2) := by decide +kernel
theorem dX10_common_3 : decode cX10_common 3 = .ok (.lload_n 2, 1) := by decide +kernel
theorem dX10_common_4 : decode cX10_common 4 = .ok (.lstore 6, 2) := by decide +kernel
theorem dX10_common_6 : decode cX10_common 6 = .ok (.lload 6, 2) := by decide +kernel
theorem dX10_common_8 : decode cX10_common 8 = .ok (.lconst 0, 1) := by decide +kernel
theorem dX10_common_9 : decode cX10_common 9 = .ok (.lcmp, 1) := by decide +kernel
theorem dX10_common_10 : decode cX10_common 10 = .ok (.ifCond .eq 21, 3) := by decide +kernel
theorem dX10_common_13 : decode cX10_common 13 = .ok (.lload 4, 2) := by decide +kernel
theorem dX10_common_15 : decode cX10_common 15 = .ok (.lload 6, 2) := by decide +kernel
theorem dX10_common_17 : decode cX10_common 17 = .ok (.lrem, 1) := by decide +kernel
theorem dX10_common_18 : decode cX10_common 18 = .ok (.lstore 8, 2) := by decide +kernel
theorem dX10_common_20 : decode cX10_common 20 = .ok (.lload 6, 2) := by decide +kernel
theorem dX10_common_22 : decode cX10_common 22 = .ok (.lstore 4, 2) := by decide +kernel
theorem dX10_common_24 : decode cX10_common 24 = .ok (.lload 8, 2) := by decide +kernel
theorem dX10_common_26 : decode cX10_common 26 = .ok (.lstore 6, 2) := by decide +kernel
theorem dX10_common_28 : decode cX10_common 28 = .ok (.goto (-22), 3) := by decide +kernel
theorem dX10_common_31 : decode cX10_common 31 = .ok (.lload 4, 2) := by decide +kernel
theorem dX10_common_33 : decode cX10_common 33 = .ok (.lreturn, 1) := by decide +kernel
theorem dX10_heard_0 : decode cX10_heard 0 = .ok (.aload_n 0, 1) := by decide +kernel
theorem dX10_heard_1 : decode cX10_heard 1 = .ok (.iload_n 1, 1) := by decide +kernel
theorem dX10_heard_2 : decode cX10_heard 2 = .ok (.invokevirtual 205, 3) := by decide +kernel
theorem dX10_heard_5 : decode cX10_heard 5 = .ok (.ifCond .eq 42, 3) := by decide +kernel
theorem dX10_heard_8 : decode cX10_heard 8 = .ok (.aload_n 0, 1) := by decide +kernel
theorem dX10_heard_9 : decode cX10_heard 9 = .ok (.iload_n 2, 1) := by decide +kernel
theorem dX10_heard_10 : decode cX10_heard 10 = .ok (.invokevirtual 215, 3) := by decide +kernel
theorem dX10_heard_13 : decode cX10_heard 13 = .ok (.ifCond .eq 34, 3) := by decide +kernel
theorem dX10_heard_16 : decode cX10_heard 16 = .ok (.iload_n 3, 1) := by decide +kernel
theorem dX10_heard_17 : decode cX10_heard 17 = .ok (.iconst 0, 1) := by decide +kernel
theorem dX10_heard_18 : decode cX10_heard 18 = .ok (.bipush 30, 2) := by decide +kernel
theorem dX10_heard_20 : decode cX10_heard 20 = .ok (.invokestatic 70, 3) := by decide +kernel
theorem dX10_heard_23 : decode cX10_heard 23 = .ok (.ifCond .eq 24, 3) := by decide +kernel
theorem dX10_heard_26 : decode cX10_heard 26 = .ok (.iload 4, 2) := by decide +kernel
theorem dX10_heard_28 : decode cX10_heard 28 = .ok (.iconst 0, 1) := by decide +kernel
theorem dX10_heard_29 : decode cX10_heard 29 = .ok (.bipush 10, 2) := by decide +kernel
theorem dX10_heard_31 : decode cX10_heard 31 = .ok (.invokestatic 70, 3) := by decide +kernel
theorem dX10_heard_34 : decode cX10_heard 34 = .ok (.ifCond .eq 13, 3) := by decide +kernel
theorem dX10_heard_37 : decode cX10_heard 37 = .ok (.iload 5, 2) := by decide +kernel
theorem dX10_heard_39 : decode cX10_heard 39 = .ok (.iconst 0, 1) := by decide +kernel
theorem dX10_heard_40 : decode cX10_heard 40 = .ok (.iconst 1, 1) := by decide +kernel
theorem dX10_heard_41 : decode cX10_heard 41 = .ok (.invokestatic 70, 3) := by decide +kernel
theorem dX10_heard_44 : decode cX10_heard 44 = .ok (.ifCond .ne 7, 3) := by decide +kernel
theorem dX10_heard_47 : decode cX10_heard 47 = .ok (.ldc2_w 257, 3) := by decide +kernel
theorem dX10_heard_50 : decode cX10_heard 50 = .ok (.lreturn, 1) := by decide +kernel
theorem dX10_heard_51 : decode cX10_heard 51 = .ok (.aload_n 0, 1) := by decide +kernel
theorem dX10_heard_52 : decode cX10_heard 52 = .ok (.getfield 31, 3) := by decide +kernel
theorem dX10_heard_55 : decode cX10_heard 55 = .ok (.bipush 14, 2) := by decide +kernel
theorem dX10_heard_57 : decode cX10_heard 57 = .ok (.iload_n 1, 1) := by decide +kernel
theorem dX10_heard_58 : decode cX10_heard 58 = .ok (.iadd, 1) := by decide +kernel
theorem dX10_heard_59 : decode cX10_heard 59 = .ok (.iaload, 1) := by decide +kernel
theorem dX10_heard_60 : decode cX10_heard 60 = .ok (.istore 6, 2) := by decide +kernel
theorem dX10_heard_62 : decode cX10_heard 62 = .ok (.lconst 0, 1) := by decide +kernel
theorem dX10_heard_63 : decode cX10_heard 63 = .ok (.lstore 7, 2) := by decide +kernel
theorem dX10_heard_65 : decode cX10_heard 65 = .ok (.lconst 1, 1) := by decide +kernel
theorem dX10_heard_66 : decode cX10_heard 66 = .ok (.lstore 9, 2) := by decide +kernel
theorem dX10_heard_68 : decode cX10_heard 68 = .ok (.iconst 1, 1) := by decide +kernel
theorem dX10_heard_69 : decode cX10_heard 69 = .ok (.istore 11, 2) := by decide +kernel
theorem dX10_heard_71 : decode cX10_heard 71 = .ok (.iload 11, 2) := by decide +kernel
theorem dX10_heard_73 : decode cX10_heard 73 = .ok (.aload_n 0, 1) := by decide +kernel
theorem dX10_heard_74 : decode cX10_heard 74 = .ok (.getfield 31, 3) := by decide +kernel
theorem dX10_heard_77 : decode cX10_heard 77 = .ok (.iconst 0, 1) := by decide +kernel
theorem dX10_heard_78 : decode cX10_heard 78 = .ok (.iaload, 1) := by decide +kernel
theorem dX10_heard_79 : decode cX10_heard 79 = .ok (.if_icmp .ge 17, 3) := by decide +kernel
theorem dX10_heard_82 : decode cX10_heard 82 = .ok (.lload 9, 2) := by decide +kernel
theorem dX10_heard_84 : decode cX10_heard 84 = .ok (.ldc2_w 259, 3) := by decide +kernel
theorem dX10_heard_87 : decode cX10_heard 87 = .ok (.lmul, 1) := by decide +kernel
theorem dX10_heard_88 : decode cX10_heard 88 = .ok (.lstore 9, 2) := by decide +kernel
theorem dX10_heard_90 : decode cX10_heard 90 = .ok (.iinc 11 1, 3) := by decide +kernel
theorem dX10_heard_93 : decode cX10_heard 93 = .ok (.goto (-22), 3) := by decide +kernel
theorem dX10_heard_96 : decode cX10_heard 96 = .ok (.iconst 0, 1) := by decide +kernel
theorem dX10_heard_97 : decode cX10_heard 97 = .ok (.istore 11, 2) := by decide +kernel
theorem dX10_heard_99 : decode cX10_heard 99 = .ok (.iload 11, 2) := by decide +kernel
theorem dX10_heard_101 : decode cX10_heard 101 = .ok (.aload_n 0, 1) := by decide +kernel
theorem dX10_heard_102 : decode cX10_heard 102 = .ok (.invokevirtual 176, 3) := by decide +kernel
theorem dX10_heard_105 : decode cX10_heard 105 = .ok (.if_icmp .gt 102, 3) := by decide +kernel
theorem dX10_heard_108 : decode cX10_heard 108 = .ok (.iload 11, 2) := by decide +kernel
theorem dX10_heard_110 : decode cX10_heard 110 = .ok (.iload 6, 2) := by decide +kernel
theorem dX10_heard_112 : decode cX10_heard 112 = .ok (.invokestatic 165, 3) := by decide +kernel
theorem dX10_heard_115 : decode cX10_heard 115 = .ok (.ifCond .ne 86, 3) := by decide +kernel
theorem dX10_heard_118 : decode cX10_heard 118 = .ok (.aload_n 0, 1) := by decide +kernel
theorem dX10_heard_119 : decode cX10_heard 119 = .ok (.iload_n 1, 1) := by decide +kernel
theorem dX10_heard_120 : decode cX10_heard 120 = .ok (.iload_n 3, 1) := by decide +kernel
theorem dX10_heard_121 : decode cX10_heard 121 = .ok (.iload 11, 2) := by decide +kernel
theorem dX10_heard_123 : decode cX10_heard 123 = .ok (.invokevirtual 240, 3) := by decide +kernel
theorem dX10_heard_126 : decode cX10_heard 126 = .ok (.iload_n 2, 1) := by decide +kernel
theorem dX10_heard_127 : decode cX10_heard 127 = .ok (.invokestatic 165, 3) := by decide +kernel
theorem dX10_heard_130 : decode cX10_heard 130 = .ok (.ifCond .eq 71, 3) := by decide +kernel
theorem dX10_heard_133 : decode cX10_heard 133 = .ok (.lconst 1, 1) := by decide +kernel
theorem dX10_heard_134 : decode cX10_heard 134 = .ok (.lstore 12, 2) := by decide +kernel
theorem dX10_heard_136 : decode cX10_heard 136 = .ok (.iconst 0, 1) := by decide +kernel
theorem dX10_heard_137 : decode cX10_heard 137 = .ok (.istore 14, 2) := by decide +kernel
theorem dX10_heard_139 : decode cX10_heard 139 = .ok (.iload 14, 2) := by decide +kernel
theorem dX10_heard_141 : decode cX10_heard 141 = .ok (.aload_n 0, 1) := by decide +kernel
theorem dX10_heard_142 : decode cX10_heard 142 = .ok (.getfield 31, 3) := by decide +kernel
theorem dX10_heard_145 : decode cX10_heard 145 = .ok (.iconst 0, 1) := by decide +kernel
theorem dX10_heard_146 : decode cX10_heard 146 = .ok (.iaload, 1) := by decide +kernel
theorem dX10_heard_147 : decode cX10_heard 147 = .ok (.if_icmp .ge 47, 3) := by decide +kernel
theorem dX10_heard_150 : decode cX10_heard 150 = .ok (.lload 12, 2) := by decide +kernel
theorem dX10_heard_152 : decode cX10_heard 152 = .ok (.iload 14, 2) := by decide +kernel
theorem dX10_heard_154 : decode cX10_heard 154 = .ok (.iload 6, 2) := by decide +kernel
theorem dX10_heard_156 : decode cX10_heard 156 = .ok (.if_icmp .ne 7, 3) := by decide +kernel
theorem dX10_heard_159 : decode cX10_heard 159 = .ok (.lconst 1, 1) := by decide +kernel
theorem dX10_heard_160 : decode cX10_heard 160 = .ok (.goto 25, 3) := by decide +kernel
theorem dX10_heard_163 : decode cX10_heard 163 = .ok (.iload 11, 2) := by decide +kernel
theorem dX10_heard_165 : decode cX10_heard 165 = .ok (.iload 14, 2) := by decide +kernel
theorem dX10_heard_167 : decode cX10_heard 167 = .ok (.invokestatic 165, 3) := by decide +kernel
theorem dX10_heard_170 : decode cX10_heard 170 = .ok (.ifCond .eq 9, 3) := by decide +kernel
theorem dX10_heard_173 : decode cX10_heard 173 = .ok (.iload 4, 2) := by decide +kernel
theorem dX10_heard_175 : decode cX10_heard 175 = .ok (.i2l, 1) := by decide +kernel
theorem dX10_heard_176 : decode cX10_heard 176 = .ok (.goto 9, 3) := by decide +kernel
theorem dX10_heard_179 : decode cX10_heard 179 = .ok (.bipush 10, 2) := by decide +kernel
theorem dX10_heard_181 : decode cX10_heard 181 = .ok (.iload 4, 2) := by decide +kernel
theorem dX10_heard_183 : decode cX10_heard 183 = .ok (.isub, 1) := by decide +kernel
theorem dX10_heard_184 : decode cX10_heard 184 = .ok (.i2l, 1) := by decide +kernel
theorem dX10_heard_185 : decode cX10_heard 185 = .ok (.lmul, 1) := by decide +kernel
theorem dX10_heard_186 : decode cX10_heard 186 = .ok (.lstore 12, 2) := by decide +kernel
theorem dX10_heard_188 : decode cX10_heard 188 = .ok (.iinc 14 1, 3) := by decide +kernel
theorem dX10_heard_191 : decode cX10_heard 191 = .ok (.goto (-52), 3) := by decide +kernel
theorem dX10_heard_194 : decode cX10_heard 194 = .ok (.lload 7, 2) := by decide +kernel
theorem dX10_heard_196 : decode cX10_heard 196 = .ok (.lload 12, 2) := by decide +kernel
theorem dX10_heard_198 : decode cX10_heard 198 = .ok (.ladd, 1) := by decide +kernel
theorem dX10_heard_199 : decode cX10_heard 199 = .ok (.lstore 7, 2) := by decide +kernel
theorem dX10_heard_201 : decode cX10_heard 201 = .ok (.iinc 11 1, 3) := by decide +kernel
theorem dX10_heard_204 : decode cX10_heard 204 = .ok (.goto (-105), 3) := by decide +kernel
theorem dX10_heard_207 : decode cX10_heard 207 = .ok (.lload 7, 2) := by decide +kernel
theorem dX10_heard_209 : decode cX10_heard 209 = .ok (.lload 9, 2) := by decide +kernel
theorem dX10_heard_211 : decode cX10_heard 211 = .ok (.invokestatic 261, 3) := by decide +kernel
theorem dX10_heard_214 : decode cX10_heard 214 = .ok (.lstore 11, 2) := by decide +kernel
theorem dX10_heard_216 : decode cX10_heard 216 = .ok (.iload 5, 2) := by decide +kernel
theorem dX10_heard_218 : decode cX10_heard 218 = .ok (.ifCond .ne 11, 3) := by decide +kernel
theorem dX10_heard_221 : decode cX10_heard 221 = .ok (.lload 7, 2) := by decide +kernel
theorem dX10_heard_223 : decode cX10_heard 223 = .ok (.lload 11, 2) := by decide +kernel
theorem dX10_heard_225 : decode cX10_heard 225 = .ok (.ldiv, 1) := by decide +kernel
theorem dX10_heard_226 : decode cX10_heard 226 = .ok (.goto 8, 3) := by decide +kernel
theorem dX10_heard_229 : decode cX10_heard 229 = .ok (.lload 9, 2) := by decide +kernel
theorem dX10_heard_231 : decode cX10_heard 231 = .ok (.lload 11, 2) := by decide +kernel
theorem dX10_heard_233 : decode cX10_heard 233 = .ok (.ldiv, 1) := by decide +kernel
theorem dX10_heard_234 : decode cX10_heard 234 = .ok (.lreturn, 1) := by decide +kernel
theorem dX10_drawn_0 : decode cX10_drawn 0 = .ok (.aload_n 0, 1) := by decide +kernel
theorem dX10_drawn_1 : decode cX10_drawn 1 = .ok (.iload_n 1, 1) := by decide +kernel
theorem dX10_drawn_2 : decode cX10_drawn 2 = .ok (.invokestatic 224, 3) := by decide +kernel
theorem dX10_drawn_5 : decode cX10_drawn 5 = .ok (.ifCond .eq 27, 3) := by decide +kernel
theorem dX10_drawn_8 : decode cX10_drawn 8 = .ok (.iload_n 2, 1) := by decide +kernel
theorem dX10_drawn_9 : decode cX10_drawn 9 = .ok (.iconst 1, 1) := by decide +kernel
theorem dX10_drawn_10 : decode cX10_drawn 10 = .ok (.ldc_w 265, 3) := by decide +kernel
theorem dX10_drawn_13 : decode cX10_drawn 13 = .ok (.invokestatic 70, 3) := by decide +kernel
theorem dX10_drawn_16 : decode cX10_drawn 16 = .ok (.ifCond .eq 16, 3) := by decide +kernel
theorem dX10_drawn_19 : decode cX10_drawn 19 = .ok (.iload_n 3, 1) := by decide +kernel
theorem dX10_drawn_20 : decode cX10_drawn 20 = .ok (.iconst 0, 1) := by decide +kernel
theorem dX10_drawn_21 : decode cX10_drawn 21 = .ok (.iconst 1, 1) := by decide +kernel
theorem dX10_drawn_22 : decode cX10_drawn 22 = .ok (.invokestatic 70, 3) := by decide +kernel
theorem dX10_drawn_25 : decode cX10_drawn 25 = .ok (.ifCond .eq 7, 3) := by decide +kernel
theorem dX10_drawn_28 : decode cX10_drawn 28 = .ok (.iconst 1, 1) := by decide +kernel
theorem dX10_drawn_29 : decode cX10_drawn 29 = .ok (.goto 4, 3) := by decide +kernel
theorem dX10_drawn_32 : decode cX10_drawn 32 = .ok (.iconst 0, 1) := by decide +kernel
theorem dX10_drawn_33 : decode cX10_drawn 33 = .ok (.invokevirtual 194, 3) := by decide +kernel
theorem dX10_drawn_36 : decode cX10_drawn 36 = .ok (.istore 4, 2) := by decide +kernel
theorem dX10_drawn_38 : decode cX10_drawn 38 = .ok (.iload 4, 2) := by decide +kernel
theorem dX10_drawn_40 : decode cX10_drawn 40 = .ok (.ifCond .ge 6, 3) := by decide +kernel
theorem dX10_drawn_43 : decode cX10_drawn 43 = .ok (.iload 4, 2) := by decide +kernel
theorem dX10_drawn_45 : decode cX10_drawn 45 = .ok (.ireturn, 1) := by decide +kernel
theorem dX10_drawn_46 : decode cX10_drawn 46 = .ok (.aload_n 0, 1) := by decide +kernel
theorem dX10_drawn_47 : decode cX10_drawn 47 = .ok (.invokevirtual 221, 3) := by decide +kernel
theorem dX10_drawn_50 : decode cX10_drawn 50 = .ok (.iload_n 2, 1) := by decide +kernel
theorem dX10_drawn_51 : decode cX10_drawn 51 = .ok (.i2l, 1) := by decide +kernel
theorem dX10_drawn_52 : decode cX10_drawn 52 = .ok (.lstore 5, 2) := by decide +kernel
theorem dX10_drawn_54 : decode cX10_drawn 54 = .ok (.iconst 0, 1) := by decide +kernel
theorem dX10_drawn_55 : decode cX10_drawn 55 = .ok (.istore 7, 2) := by decide +kernel
theorem dX10_drawn_57 : decode cX10_drawn 57 = .ok (.iload 7, 2) := by decide +kernel
theorem dX10_drawn_59 : decode cX10_drawn 59 = .ok (.iload_n 1, 1) := by decide +kernel
theorem dX10_drawn_60 : decode cX10_drawn 60 = .ok (.if_icmp .ge 66, 3) := by decide +kernel
theorem dX10_drawn_63 : decode cX10_drawn 63 = .ok (.lload 5, 2) := by decide +kernel
theorem dX10_drawn_65 : decode cX10_drawn 65 = .ok (.ldc2_w 266, 3) := by decide +kernel
theorem dX10_drawn_68 : decode cX10_drawn 68 = .ok (.lmul, 1) := by decide +kernel
theorem dX10_drawn_69 : decode cX10_drawn 69 = .ok (.ldc2_w 268, 3) := by decide +kernel
theorem dX10_drawn_72 : decode cX10_drawn 72 = .ok (.lrem, 1) := by decide +kernel
theorem dX10_drawn_73 : decode cX10_drawn 73 = .ok (.lstore 5, 2) := by decide +kernel
theorem dX10_drawn_75 : decode cX10_drawn 75 = .ok (.lload 5, 2) := by decide +kernel
theorem dX10_drawn_77 : decode cX10_drawn 77 = .ok (.aload_n 0, 1) := by decide +kernel
theorem dX10_drawn_78 : decode cX10_drawn 78 = .ok (.getfield 31, 3) := by decide +kernel
theorem dX10_drawn_81 : decode cX10_drawn 81 = .ok (.iconst 1, 1) := by decide +kernel
theorem dX10_drawn_82 : decode cX10_drawn 82 = .ok (.iaload, 1) := by decide +kernel
theorem dX10_drawn_83 : decode cX10_drawn 83 = .ok (.i2l, 1) := by decide +kernel
theorem dX10_drawn_84 : decode cX10_drawn 84 = .ok (.lrem, 1) := by decide +kernel
theorem dX10_drawn_85 : decode cX10_drawn 85 = .ok (.l2i, 1) := by decide +kernel
theorem dX10_drawn_86 : decode cX10_drawn 86 = .ok (.istore 8, 2) := by decide +kernel
theorem dX10_drawn_88 : decode cX10_drawn 88 = .ok (.aload_n 0, 1) := by decide +kernel
theorem dX10_drawn_89 : decode cX10_drawn 89 = .ok (.aload_n 0, 1) := by decide +kernel
theorem dX10_drawn_90 : decode cX10_drawn 90 = .ok (.getfield 37, 3) := by decide +kernel
theorem dX10_drawn_93 : decode cX10_drawn 93 = .ok (.iload 8, 2) := by decide +kernel
theorem dX10_drawn_95 : decode cX10_drawn 95 = .ok (.invokevirtual 208, 3) := by decide +kernel
theorem dX10_drawn_98 : decode cX10_drawn 98 = .ok (.ifCond .eq 14, 3) := by decide +kernel
theorem dX10_drawn_101 : decode cX10_drawn 101 = .ok (.aload_n 0, 1) := by decide +kernel
theorem dX10_drawn_102 : decode cX10_drawn 102 = .ok (.aload_n 0, 1) := by decide +kernel
theorem dX10_drawn_103 : decode cX10_drawn 103 = .ok (.getfield 37, 3) := by decide +kernel
theorem dX10_drawn_106 : decode cX10_drawn 106 = .ok (.iload 8, 2) := by decide +kernel
theorem dX10_drawn_108 : decode cX10_drawn 108 = .ok (.invokevirtual 212, 3) := by decide +kernel
theorem dX10_drawn_111 : decode cX10_drawn 111 = .ok (.pop, 1) := by decide +kernel
theorem dX10_drawn_112 : decode cX10_drawn 112 = .ok (.aload_n 0, 1) := by decide +kernel
theorem dX10_drawn_113 : decode cX10_drawn 113 = .ok (.aload_n 0, 1) := by decide +kernel
theorem dX10_drawn_114 : decode cX10_drawn 114 = .ok (.getfield 37, 3) := by decide +kernel
theorem dX10_drawn_117 : decode cX10_drawn 117 = .ok (.invokevirtual 201, 3) := by decide +kernel
theorem dX10_drawn_120 : decode cX10_drawn 120 = .ok (.iinc 7 1, 3) := by decide +kernel
theorem dX10_drawn_123 : decode cX10_drawn 123 = .ok (.goto (-66), 3) := by decide +kernel
theorem dX10_drawn_126 : decode cX10_drawn 126 = .ok (.iload_n 3, 1) := by decide +kernel
theorem dX10_drawn_127 : decode cX10_drawn 127 = .ok (.ifCond .ne 12, 3) := by decide +kernel
theorem dX10_drawn_130 : decode cX10_drawn 130 = .ok (.aload_n 0, 1) := by decide +kernel
theorem dX10_drawn_131 : decode cX10_drawn 131 = .ok (.getfield 37, 3) := by decide +kernel
theorem dX10_drawn_134 : decode cX10_drawn 134 = .ok (.iconst 4, 1) := by decide +kernel
theorem dX10_drawn_135 : decode cX10_drawn 135 = .ok (.iaload, 1) := by decide +kernel
theorem dX10_drawn_136 : decode cX10_drawn 136 = .ok (.goto 9, 3) := by decide +kernel
theorem dX10_drawn_139 : decode cX10_drawn 139 = .ok (.aload_n 0, 1) := by decide +kernel
theorem dX10_drawn_140 : decode cX10_drawn 140 = .ok (.getfield 37, 3) := by decide +kernel
theorem dX10_drawn_143 : decode cX10_drawn 143 = .ok (.iconst 2, 1) := by decide +kernel
theorem dX10_drawn_144 : decode cX10_drawn 144 = .ok (.iaload, 1) := by decide +kernel
theorem dX10_drawn_145 : decode cX10_drawn 145 = .ok (.ireturn, 1) := by decide +kernel
theorem dX10_image_0 : decode cX10_image 0 = .ok (.iload_n 1, 1) := by decide +kernel
theorem dX10_image_1 : decode cX10_image 1 = .ok (.iconst 0, 1) := by decide +kernel
theorem dX10_image_2 : decode cX10_image 2 = .ok (.iconst 1, 1) := by decide +kernel
theorem dX10_image_3 : decode cX10_image 3 = .ok (.invokestatic 70, 3) := by decide +kernel
theorem dX10_image_6 : decode cX10_image 6 = .ok (.ifCond .ne 6, 3) := by decide +kernel
theorem dX10_image_9 : decode cX10_image 9 = .ok (.ldc 78, 2) := by decide +kernel
theorem dX10_image_11 : decode cX10_image 11 = .ok (.ireturn, 1) := by decide +kernel
theorem dX10_image_12 : decode cX10_image 12 = .ok (.aload_n 0, 1) := by decide +kernel
theorem dX10_image_13 : decode cX10_image 13 = .ok (.getfield 151, 3) := by decide +kernel
theorem dX10_image_16 : decode cX10_image 16 = .ok (.ifCond .ne 6, 3) := by decide +kernel
theorem dX10_image_19 : decode cX10_image 19 = .ok (.ldc 193, 2) := by decide +kernel
theorem dX10_image_21 : decode cX10_image 21 = .ok (.ireturn, 1) := by decide +kernel
theorem dX10_image_22 : decode cX10_image 22 = .ok (.aload_n 0, 1) := by decide +kernel
theorem dX10_image_23 : decode cX10_image 23 = .ok (.getfield 52, 3) := by decide +kernel
theorem dX10_image_26 : decode cX10_image 26 = .ok (.iload_n 1, 1) := by decide +kernel
theorem dX10_image_27 : decode cX10_image 27 = .ok (.iconst 1, 1) := by decide +kernel
theorem dX10_image_28 : decode cX10_image 28 = .ok (.bastore, 1) := by decide +kernel
theorem dX10_image_29 : decode cX10_image 29 = .ok (.iconst 0, 1) := by decide +kernel
theorem dX10_image_30 : decode cX10_image 30 = .ok (.istore_n 2, 1) := by decide +kernel
theorem dX10_image_31 : decode cX10_image 31 = .ok (.iload_n 2, 1) := by decide +kernel
theorem dX10_image_32 : decode cX10_image 32 = .ok (.bipush 32, 2) := by decide +kernel
theorem dX10_image_34 : decode cX10_image 34 = .ok (.if_icmp .ge 26, 3) := by decide +kernel
theorem dX10_image_37 : decode cX10_image 37 = .ok (.aload_n 0, 1) := by decide +kernel
theorem dX10_image_38 : decode cX10_image 38 = .ok (.getfield 56, 3) := by decide +kernel
theorem dX10_image_41 : decode cX10_image 41 = .ok (.bipush 32, 2) := by decide +kernel
theorem dX10_image_43 : decode cX10_image 43 = .ok (.iload_n 1, 1) := by decide +kernel
theorem dX10_image_44 : decode cX10_image 44 = .ok (.imul, 1) := by decide +kernel
theorem dX10_image_45 : decode cX10_image 45 = .ok (.iload_n 2, 1) := by decide +kernel
theorem dX10_image_46 : decode cX10_image 46 = .ok (.iadd, 1) := by decide +kernel
theorem dX10_image_47 : decode cX10_image 47 = .ok (.aload_n 0, 1) := by decide +kernel
theorem dX10_image_48 : decode cX10_image 48 = .ok (.getfield 31, 3) := by decide +kernel
theorem dX10_image_51 : decode cX10_image 51 = .ok (.iload_n 2, 1) := by decide +kernel
theorem dX10_image_52 : decode cX10_image 52 = .ok (.iaload, 1) := by decide +kernel
theorem dX10_image_53 : decode cX10_image 53 = .ok (.iastore, 1) := by decide +kernel
theorem dX10_image_54 : decode cX10_image 54 = .ok (.iinc 2 1, 3) := by decide +kernel
theorem dX10_image_57 : decode cX10_image 57 = .ok (.goto (-26), 3) := by decide +kernel
theorem dX10_image_60 : decode cX10_image 60 = .ok (.iconst 0, 1) := by decide +kernel
theorem dX10_image_61 : decode cX10_image 61 = .ok (.istore_n 2, 1) := by decide +kernel
theorem dX10_image_62 : decode cX10_image 62 = .ok (.iload_n 2, 1) := by decide +kernel
theorem dX10_image_63 : decode cX10_image 63 = .ok (.bipush 21, 2) := by decide +kernel
theorem dX10_image_65 : decode cX10_image 65 = .ok (.if_icmp .ge 26, 3) := by decide +kernel
theorem dX10_image_68 : decode cX10_image 68 = .ok (.aload_n 0, 1) := by decide +kernel
theorem dX10_image_69 : decode cX10_image 69 = .ok (.getfield 59, 3) := by decide +kernel
theorem dX10_image_72 : decode cX10_image 72 = .ok (.bipush 21, 2) := by decide +kernel
theorem dX10_image_74 : decode cX10_image 74 = .ok (.iload_n 1, 1) := by decide +kernel
theorem dX10_image_75 : decode cX10_image 75 = .ok (.imul, 1) := by decide +kernel
theorem dX10_image_76 : decode cX10_image 76 = .ok (.iload_n 2, 1) := by decide +kernel
theorem dX10_image_77 : decode cX10_image 77 = .ok (.iadd, 1) := by decide +kernel
theorem dX10_image_78 : decode cX10_image 78 = .ok (.aload_n 0, 1) := by decide +kernel
theorem dX10_image_79 : decode cX10_image 79 = .ok (.getfield 34, 3) := by decide +kernel
theorem dX10_image_82 : decode cX10_image 82 = .ok (.iload_n 2, 1) := by decide +kernel
theorem dX10_image_83 : decode cX10_image 83 = .ok (.iaload, 1) := by decide +kernel
theorem dX10_image_84 : decode cX10_image 84 = .ok (.iastore, 1) := by decide +kernel
theorem dX10_image_85 : decode cX10_image 85 = .ok (.iinc 2 1, 3) := by decide +kernel
theorem dX10_image_88 : decode cX10_image 88 = .ok (.goto (-26), 3) := by decide +kernel
theorem dX10_image_91 : decode cX10_image 91 = .ok (.iconst 1, 1) := by decide +kernel
theorem dX10_image_92 : decode cX10_image 92 = .ok (.ireturn, 1) := by decide +kernel
theorem dX10_restore_0 : decode cX10_restore 0 = .ok (.iload_n 1, 1) := by decide +kernel
theorem dX10_restore_1 : decode cX10_restore 1 = .ok (.iconst 0, 1) := by decide +kernel
theorem dX10_restore_2 : decode cX10_restore 2 = .ok (.iconst 1, 1) := by decide +kernel
theorem dX10_restore_3 : decode cX10_restore 3 = .ok (.invokestatic 70, 3) := by decide +kernel
theorem dX10_restore_6 : decode cX10_restore 6 = .ok (.ifCond .ne 6, 3) := by decide +kernel
theorem dX10_restore_9 : decode cX10_restore 9 = .ok (.ldc 78, 2) := by decide +kernel
theorem dX10_restore_11 : decode cX10_restore 11 = .ok (.ireturn, 1) := by decide +kernel
theorem dX10_restore_12 : decode cX10_restore 12 = .ok (.aload_n 0, 1) := by decide +kernel
theorem dX10_restore_13 : decode cX10_restore 13 = .ok (.getfield 52, 3) := by decide +kernel
theorem dX10_restore_16 : decode cX10_restore 16 = .ok (.iload_n 1, 1) := by decide +kernel
theorem dX10_restore_17 : decode cX10_restore 17 = .ok (.baload, 1) := by decide +kernel
theorem dX10_restore_18 : decode cX10_restore 18 = .ok (.ifCond .ne 6, 3) := by decide +kernel
theorem dX10_restore_21 : decode cX10_restore 21 = .ok (.ldc 193, 2) := by decide +kernel
theorem dX10_restore_23 : decode cX10_restore 23 = .ok (.ireturn, 1) := by decide +kernel
theorem dX10_restore_24 : decode cX10_restore 24 = .ok (.aload_n 0, 1) := by decide +kernel
theorem dX10_restore_25 : decode cX10_restore 25 = .ok (.iconst 0, 1) := by decide +kernel
theorem dX10_restore_26 : decode cX10_restore 26 = .ok (.putfield 155, 3) := by decide +kernel
theorem dX10_restore_29 : decode cX10_restore 29 = .ok (.iconst 0, 1) := by decide +kernel
theorem dX10_restore_30 : decode cX10_restore 30 = .ok (.istore_n 2, 1) := by decide +kernel
theorem dX10_restore_31 : decode cX10_restore 31 = .ok (.iload_n 2, 1) := by decide +kernel
theorem dX10_restore_32 : decode cX10_restore 32 = .ok (.bipush 32, 2) := by decide +kernel
theorem dX10_restore_34 : decode cX10_restore 34 = .ok (.if_icmp .ge 26, 3) := by decide +kernel
theorem dX10_restore_37 : decode cX10_restore 37 = .ok (.aload_n 0, 1) := by decide +kernel
theorem dX10_restore_38 : decode cX10_restore 38 = .ok (.getfield 31, 3) := by decide +kernel
theorem dX10_restore_41 : decode cX10_restore 41 = .ok (.iload_n 2, 1) := by decide +kernel
theorem dX10_restore_42 : decode cX10_restore 42 = .ok (.aload_n 0, 1) := by decide +kernel
theorem dX10_restore_43 : decode cX10_restore 43 = .ok (.getfield 56, 3) := by decide +kernel
theorem dX10_restore_46 : decode cX10_restore 46 = .ok (.bipush 32, 2) := by decide +kernel
theorem dX10_restore_48 : decode cX10_restore 48 = .ok (.iload_n 1, 1) := by decide +kernel
theorem dX10_restore_49 : decode cX10_restore 49 = .ok (.imul, 1) := by decide +kernel
theorem dX10_restore_50 : decode cX10_restore 50 = .ok (.iload_n 2, 1) := by decide +kernel
theorem dX10_restore_51 : decode cX10_restore 51 = .ok (.iadd, 1) := by decide +kernel
theorem dX10_restore_52 : decode cX10_restore 52 = .ok (.iaload, 1) := by decide +kernel
theorem dX10_restore_53 : decode cX10_restore 53 = .ok (.iastore, 1) := by decide +kernel
theorem dX10_restore_54 : decode cX10_restore 54 = .ok (.iinc 2 1, 3) := by decide +kernel
theorem dX10_restore_57 : decode cX10_restore 57 = .ok (.goto (-26), 3) := by decide +kernel
theorem dX10_restore_60 : decode cX10_restore 60 = .ok (.iconst 0, 1) := by decide +kernel
theorem dX10_restore_61 : decode cX10_restore 61 = .ok (.istore_n 2, 1) := by decide +kernel
theorem dX10_restore_62 : decode cX10_restore 62 = .ok (.iload_n 2, 1) := by decide +kernel
theorem dX10_restore_63 : decode cX10_restore 63 = .ok (.bipush 21, 2) := by decide +kernel
theorem dX10_restore_65 : decode cX10_restore 65 = .ok (.if_icmp .ge 26, 3) := by decide +kernel
theorem dX10_restore_68 : decode cX10_restore 68 = .ok (.aload_n 0, 1) := by decide +kernel
theorem dX10_restore_69 : decode cX10_restore 69 = .ok (.getfield 34, 3) := by decide +kernel
theorem dX10_restore_72 : decode cX10_restore 72 = .ok (.iload_n 2, 1) := by decide +kernel
theorem dX10_restore_73 : decode cX10_restore 73 = .ok (.aload_n 0, 1) := by decide +kernel
theorem dX10_restore_74 : decode cX10_restore 74 = .ok (.getfield 59, 3) := by decide +kernel
theorem dX10_restore_77 : decode cX10_restore 77 = .ok (.bipush 21, 2) := by decide +kernel
theorem dX10_restore_79 : decode cX10_restore 79 = .ok (.iload_n 1, 1) := by decide +kernel
theorem dX10_restore_80 : decode cX10_restore 80 = .ok (.imul, 1) := by decide +kernel
theorem dX10_restore_81 : decode cX10_restore 81 = .ok (.iload_n 2, 1) := by decide +kernel
theorem dX10_restore_82 : decode cX10_restore 82 = .ok (.iadd, 1) := by decide +kernel
theorem dX10_restore_83 : decode cX10_restore 83 = .ok (.iaload, 1) := by decide +kernel
theorem dX10_restore_84 : decode cX10_restore 84 = .ok (.iastore, 1) := by decide +kernel
theorem dX10_restore_85 : decode cX10_restore 85 = .ok (.iinc 2 1, 3) := by decide +kernel
theorem dX10_restore_88 : decode cX10_restore 88 = .ok (.goto (-26), 3) := by decide +kernel
theorem dX10_restore_91 : decode cX10_restore 91 = .ok (.iconst 1, 1) := by decide +kernel
theorem dX10_restore_92 : decode cX10_restore 92 = .ok (.ireturn, 1) := by decide +kernel
theorem dX10_kind_0 : decode cX10_kind 0 = .ok (.aload_n 0, 1) := by decide +kernel
theorem dX10_kind_1 : decode cX10_kind 1 = .ok (.iload_n 1, 1) := by decide +kernel
theorem dX10_kind_2 : decode cX10_kind 2 = .ok (.invokevirtual 205, 3) := by decide +kernel
theorem dX10_kind_5 : decode cX10_kind 5 = .ok (.ifCond .eq 15, 3) := by decide +kernel
theorem dX10_kind_8 : decode cX10_kind 8 = .ok (.aload_n 0, 1) := by decide +kernel
theorem dX10_kind_9 : decode cX10_kind 9 = .ok (.getfield 31, 3) := by decide +kernel
theorem dX10_kind_12 : decode cX10_kind 12 = .ok (.bipush 8, 2) := by decide +kernel
theorem dX10_kind_14 : decode cX10_kind 14 = .ok (.iload_n 1, 1) := by decide +kernel
theorem dX10_kind_15 : decode cX10_kind 15 = .ok (.iadd, 1) := by decide +kernel
theorem dX10_kind_16 : decode cX10_kind 16 = .ok (.iaload, 1) := by decide +kernel
theorem dX10_kind_17 : decode cX10_kind 17 = .ok (.goto 5, 3) := by decide +kernel
theorem dX10_kind_20 : decode cX10_kind 20 = .ok (.ldc 78, 2) := by decide +kernel
theorem dX10_kind_22 : decode cX10_kind 22 = .ok (.ireturn, 1) := by decide +kernel
theorem dX10_as_0 : decode cX10_as 0 = .ok (.aload_n 0, 1) := by decide +kernel
theorem dX10_as_1 : decode cX10_as 1 = .ok (.iload_n 1, 1) := by decide +kernel
theorem dX10_as_2 : decode cX10_as 2 = .ok (.invokevirtual 205, 3) := by decide +kernel
theorem dX10_as_5 : decode cX10_as 5 = .ok (.ifCond .eq 12, 3) := by decide +kernel
theorem dX10_as_8 : decode cX10_as 8 = .ok (.iload_n 2, 1) := by decide +kernel
theorem dX10_as_9 : decode cX10_as 9 = .ok (.iconst 0, 1) := by decide +kernel
theorem dX10_as_10 : decode cX10_as 10 = .ok (.iconst 5, 1) := by decide +kernel
theorem dX10_as_11 : decode cX10_as 11 = .ok (.invokestatic 70, 3) := by decide +kernel
theorem dX10_as_14 : decode cX10_as 14 = .ok (.ifCond .ne 6, 3) := by decide +kernel
theorem dX10_as_17 : decode cX10_as 17 = .ok (.ldc 78, 2) := by decide +kernel
theorem dX10_as_19 : decode cX10_as 19 = .ok (.ireturn, 1) := by decide +kernel
theorem dX10_as_20 : decode cX10_as 20 = .ok (.aload_n 0, 1) := by decide +kernel
theorem dX10_as_21 : decode cX10_as 21 = .ok (.getfield 31, 3) := by decide +kernel
theorem dX10_as_24 : decode cX10_as 24 = .ok (.bipush 8, 2) := by decide +kernel
theorem dX10_as_26 : decode cX10_as 26 = .ok (.iload_n 1, 1) := by decide +kernel
theorem dX10_as_27 : decode cX10_as 27 = .ok (.iadd, 1) := by decide +kernel
theorem dX10_as_28 : decode cX10_as 28 = .ok (.iaload, 1) := by decide +kernel
theorem dX10_as_29 : decode cX10_as 29 = .ok (.istore_n 3, 1) := by decide +kernel
theorem dX10_as_30 : decode cX10_as 30 = .ok (.iload_n 2, 1) := by decide +kernel
theorem dX10_as_31 : decode cX10_as 31 = .ok (.ifCond .eq 33, 3) := by decide +kernel
theorem dX10_as_34 : decode cX10_as 34 = .ok (.iload_n 2, 1) := by decide +kernel
theorem dX10_as_35 : decode cX10_as 35 = .ok (.iload_n 3, 1) := by decide +kernel
theorem dX10_as_36 : decode cX10_as 36 = .ok (.if_icmp .eq 28, 3) := by decide +kernel
theorem dX10_as_39 : decode cX10_as 39 = .ok (.iload_n 2, 1) := by decide +kernel
theorem dX10_as_40 : decode cX10_as 40 = .ok (.iconst 1, 1) := by decide +kernel
theorem dX10_as_41 : decode cX10_as 41 = .ok (.if_icmp .ne 13, 3) := by decide +kernel
theorem dX10_as_44 : decode cX10_as 44 = .ok (.iload_n 3, 1) := by decide +kernel
theorem dX10_as_45 : decode cX10_as 45 = .ok (.iconst 2, 1) := by decide +kernel
theorem dX10_as_46 : decode cX10_as 46 = .ok (.if_icmp .eq 18, 3) := by decide +kernel
theorem dX10_as_49 : decode cX10_as 49 = .ok (.iload_n 3, 1) := by decide +kernel
theorem dX10_as_50 : decode cX10_as 50 = .ok (.iconst 3, 1) := by decide +kernel
theorem dX10_as_51 : decode cX10_as 51 = .ok (.if_icmp .eq 13, 3) := by decide +kernel
theorem dX10_as_54 : decode cX10_as 54 = .ok (.iload_n 2, 1) := by decide +kernel
theorem dX10_as_55 : decode cX10_as 55 = .ok (.iconst 4, 1) := by decide +kernel
theorem dX10_as_56 : decode cX10_as 56 = .ok (.if_icmp .ne 12, 3) := by decide +kernel
theorem dX10_as_59 : decode cX10_as 59 = .ok (.iload_n 3, 1) := by decide +kernel
theorem dX10_as_60 : decode cX10_as 60 = .ok (.iconst 5, 1) := by decide +kernel
theorem dX10_as_61 : decode cX10_as 61 = .ok (.if_icmp .ne 7, 3) := by decide +kernel
theorem dX10_as_64 : decode cX10_as 64 = .ok (.iconst 1, 1) := by decide +kernel
theorem dX10_as_65 : decode cX10_as 65 = .ok (.goto 4, 3) := by decide +kernel
theorem dX10_as_68 : decode cX10_as 68 = .ok (.iconst 0, 1) := by decide +kernel
theorem dX10_as_69 : decode cX10_as 69 = .ok (.istore 4, 2) := by decide +kernel
theorem dX10_as_71 : decode cX10_as 71 = .ok (.iload 4, 2) := by decide +kernel
theorem dX10_as_73 : decode cX10_as 73 = .ok (.ifCond .eq 11, 3) := by decide +kernel
theorem dX10_as_76 : decode cX10_as 76 = .ok (.aload_n 0, 1) := by decide +kernel
theorem dX10_as_77 : decode cX10_as 77 = .ok (.iload_n 1, 1) := by decide +kernel
theorem dX10_as_78 : decode cX10_as 78 = .ok (.invokevirtual 83, 3) := by decide +kernel
theorem dX10_as_81 : decode cX10_as 81 = .ok (.goto 8, 3) := by decide +kernel
theorem dX10_as_84 : decode cX10_as 84 = .ok (.aload_n 0, 1) := by decide +kernel
theorem dX10_as_85 : decode cX10_as 85 = .ok (.iconst 3, 1) := by decide +kernel
theorem dX10_as_86 : decode cX10_as 86 = .ok (.invokevirtual 79, 3) := by decide +kernel
theorem dX10_as_89 : decode cX10_as 89 = .ok (.ireturn, 1) := by decide +kernel
theorem dX10_leaves_0 : decode cX10_leaves 0 = .ok (.aload_n 0, 1) := by decide +kernel
theorem dX10_leaves_1 : decode cX10_leaves 1 = .ok (.getfield 270, 3) := by decide +kernel
theorem dX10_leaves_4 : decode cX10_leaves 4 = .ok (.bipush 16, 2) := by decide +kernel
theorem dX10_leaves_6 : decode cX10_leaves 6 = .ok (.if_icmp .ge 23, 3) := by decide +kernel
theorem dX10_leaves_9 : decode cX10_leaves 9 = .ok (.aload_n 0, 1) := by decide +kernel
theorem dX10_leaves_10 : decode cX10_leaves 10 = .ok (.getfield 62, 3) := by decide +kernel
theorem dX10_leaves_13 : decode cX10_leaves 13 = .ok (.aload_n 0, 1) := by decide +kernel
theorem dX10_leaves_14 : decode cX10_leaves 14 = .ok (.getfield 270, 3) := by decide +kernel
theorem dX10_leaves_17 : decode cX10_leaves 17 = .ok (.iload_n 1, 1) := by decide +kernel
theorem dX10_leaves_18 : decode cX10_leaves 18 = .ok (.iastore, 1) := by decide +kernel
theorem dX10_leaves_19 : decode cX10_leaves 19 = .ok (.aload_n 0, 1) := by decide +kernel
theorem dX10_leaves_20 : decode cX10_leaves 20 = .ok (.dup, 1) := by decide +kernel
theorem dX10_leaves_21 : decode cX10_leaves 21 = .ok (.getfield 270, 3) := by decide +kernel
theorem dX10_leaves_24 : decode cX10_leaves 24 = .ok (.iconst 1, 1) := by decide +kernel
theorem dX10_leaves_25 : decode cX10_leaves 25 = .ok (.iadd, 1) := by decide +kernel
theorem dX10_leaves_26 : decode cX10_leaves 26 = .ok (.putfield 270, 3) := by decide +kernel
theorem dX10_leaves_29 : decode cX10_leaves 29 = .ok (.return_, 1) := by decide +kernel
theorem dX10_b10_0 : decode cX10_b10 0 = .ok (.aload_n 0, 1) := by decide +kernel
theorem dX10_b10_1 : decode cX10_b10 1 = .ok (.bipush 10, 2) := by decide +kernel
theorem dX10_b10_3 : decode cX10_b10 3 = .ok (.invokevirtual 273, 3) := by decide +kernel
theorem dX10_b10_6 : decode cX10_b10 6 = .ok (.aload_n 0, 1) := by decide +kernel
theorem dX10_b10_7 : decode cX10_b10 7 = .ok (.getfield 31, 3) := by decide +kernel
theorem dX10_b10_10 : decode cX10_b10 10 = .ok (.bipush 20, 2) := by decide +kernel
theorem dX10_b10_12 : decode cX10_b10 12 = .ok (.iload_n 1, 1) := by decide +kernel
theorem dX10_b10_13 : decode cX10_b10 13 = .ok (.iadd, 1) := by decide +kernel
theorem dX10_b10_14 : decode cX10_b10 14 = .ok (.iaload, 1) := by decide +kernel
theorem dX10_b10_15 : decode cX10_b10 15 = .ok (.ireturn, 1) := by decide +kernel
theorem dX10_b20_0 : decode cX10_b20 0 = .ok (.aload_n 0, 1) := by decide +kernel
theorem dX10_b20_1 : decode cX10_b20 1 = .ok (.bipush 20, 2) := by decide +kernel
theorem dX10_b20_3 : decode cX10_b20 3 = .ok (.invokevirtual 273, 3) := by decide +kernel
theorem dX10_b20_6 : decode cX10_b20 6 = .ok (.iload_n 1, 1) := by decide +kernel
theorem dX10_b20_7 : decode cX10_b20 7 = .ok (.ireturn, 1) := by decide +kernel
theorem dX10_b21_0 : decode cX10_b21 0 = .ok (.aload_n 0, 1) := by decide +kernel
theorem dX10_b21_1 : decode cX10_b21 1 = .ok (.bipush 21, 2) := by decide +kernel
theorem dX10_b21_3 : decode cX10_b21 3 = .ok (.invokevirtual 273, 3) := by decide +kernel
theorem dX10_b21_6 : decode cX10_b21 6 = .ok (.aload_n 0, 1) := by decide +kernel
theorem dX10_b21_7 : decode cX10_b21 7 = .ok (.iload_n 1, 1) := by decide +kernel
theorem dX10_b21_8 : decode cX10_b21 8 = .ok (.invokevirtual 276, 3) := by decide +kernel
theorem dX10_b21_11 : decode cX10_b21 11 = .ok (.aload_n 0, 1) := by decide +kernel
theorem dX10_b21_12 : decode cX10_b21 12 = .ok (.getfield 34, 3) := by decide +kernel
theorem dX10_b21_15 : decode cX10_b21 15 = .ok (.iconst 3, 1) := by decide +kernel
theorem dX10_b21_16 : decode cX10_b21 16 = .ok (.iaload, 1) := by decide +kernel
theorem dX10_b21_17 : decode cX10_b21 17 = .ok (.iadd, 1) := by decide +kernel
theorem dX10_b21_18 : decode cX10_b21 18 = .ok (.ireturn, 1) := by decide +kernel
theorem dX10_markOfNotice_0 : decode cX10_markOfNotice 0 = .ok (.aload_n 0, 1) := by decide +kernel
theorem dX10_markOfNotice_1 : decode cX10_markOfNotice 1 = .ok (.getfield 31, 3) := by decide +kernel
theorem dX10_markOfNotice_4 : decode cX10_markOfNotice 4 = .ok (.bipush 8, 2) := by decide +kernel
theorem dX10_markOfNotice_6 : decode cX10_markOfNotice 6 = .ok (.iload_n 1, 1) := by decide +kernel
theorem dX10_markOfNotice_7 : decode cX10_markOfNotice 7 = .ok (.iadd, 1) := by decide +kernel
theorem dX10_markOfNotice_8 : decode cX10_markOfNotice 8 = .ok (.iaload, 1) := by decide +kernel
theorem dX10_markOfNotice_9 : decode cX10_markOfNotice 9 = .ok (.lookupswitch 57 #[(2, 27), (3, 41)], 27) := by decide +kernel
theorem dX10_markOfNotice_36 : decode cX10_markOfNotice 36 = .ok (.aload_n 0, 1) := by decide +kernel
theorem dX10_markOfNotice_37 : decode cX10_markOfNotice 37 = .ok (.bipush 24, 2) := by decide +kernel
theorem dX10_markOfNotice_39 : decode cX10_markOfNotice 39 = .ok (.invokevirtual 273, 3) := by decide +kernel
theorem dX10_markOfNotice_42 : decode cX10_markOfNotice 42 = .ok (.iconst 2, 1) := by decide +kernel
theorem dX10_markOfNotice_43 : decode cX10_markOfNotice 43 = .ok (.aload_n 0, 1) := by decide +kernel
theorem dX10_markOfNotice_44 : decode cX10_markOfNotice 44 = .ok (.iload_n 1, 1) := by decide +kernel
theorem dX10_markOfNotice_45 : decode cX10_markOfNotice 45 = .ok (.invokevirtual 279, 3) := by decide +kernel
theorem dX10_markOfNotice_48 : decode cX10_markOfNotice 48 = .ok (.imul, 1) := by decide +kernel
theorem dX10_markOfNotice_49 : decode cX10_markOfNotice 49 = .ok (.ireturn, 1) := by decide +kernel
theorem dX10_markOfNotice_50 : decode cX10_markOfNotice 50 = .ok (.aload_n 0, 1) := by decide +kernel
theorem dX10_markOfNotice_51 : decode cX10_markOfNotice 51 = .ok (.bipush 22, 2) := by decide +kernel
theorem dX10_markOfNotice_53 : decode cX10_markOfNotice 53 = .ok (.invokevirtual 273, 3) := by decide +kernel
theorem dX10_markOfNotice_56 : decode cX10_markOfNotice 56 = .ok (.aload_n 0, 1) := by decide +kernel
theorem dX10_markOfNotice_57 : decode cX10_markOfNotice 57 = .ok (.iload_n 1, 1) := by decide +kernel
theorem dX10_markOfNotice_58 : decode cX10_markOfNotice 58 = .ok (.invokevirtual 279, 3) := by decide +kernel
theorem dX10_markOfNotice_61 : decode cX10_markOfNotice 61 = .ok (.sipush 1000, 3) := by decide +kernel
theorem dX10_markOfNotice_64 : decode cX10_markOfNotice 64 = .ok (.isub, 1) := by decide +kernel
theorem dX10_markOfNotice_65 : decode cX10_markOfNotice 65 = .ok (.ireturn, 1) := by decide +kernel
theorem dX10_markOfNotice_66 : decode cX10_markOfNotice 66 = .ok (.aload_n 0, 1) := by decide +kernel
theorem dX10_markOfNotice_67 : decode cX10_markOfNotice 67 = .ok (.iload_n 1, 1) := by decide +kernel
theorem dX10_markOfNotice_68 : decode cX10_markOfNotice 68 = .ok (.invokevirtual 279, 3) := by decide +kernel
theorem dX10_markOfNotice_71 : decode cX10_markOfNotice 71 = .ok (.ireturn, 1) := by decide +kernel
theorem dX10_b11_0 : decode cX10_b11 0 = .ok (.aload_n 0, 1) := by decide +kernel
theorem dX10_b11_1 : decode cX10_b11 1 = .ok (.bipush 11, 2) := by decide +kernel
theorem dX10_b11_3 : decode cX10_b11 3 = .ok (.invokevirtual 273, 3) := by decide +kernel
theorem dX10_b11_6 : decode cX10_b11 6 = .ok (.aload_n 0, 1) := by decide +kernel
theorem dX10_b11_7 : decode cX10_b11 7 = .ok (.iload_n 1, 1) := by decide +kernel
theorem dX10_b11_8 : decode cX10_b11 8 = .ok (.invokevirtual 282, 3) := by decide +kernel
theorem dX10_b11_11 : decode cX10_b11 11 = .ok (.istore_n 2, 1) := by decide +kernel
theorem dX10_b11_12 : decode cX10_b11 12 = .ok (.iload_n 2, 1) := by decide +kernel
theorem dX10_b11_13 : decode cX10_b11 13 = .ok (.aload_n 0, 1) := by decide +kernel
theorem dX10_b11_14 : decode cX10_b11 14 = .ok (.iload_n 1, 1) := by decide +kernel
theorem dX10_b11_15 : decode cX10_b11 15 = .ok (.invokevirtual 285, 3) := by decide +kernel
theorem dX10_b11_18 : decode cX10_b11 18 = .ok (.iadd, 1) := by decide +kernel
theorem dX10_b11_19 : decode cX10_b11 19 = .ok (.ireturn, 1) := by decide +kernel
theorem dX10_b13_0 : decode cX10_b13 0 = .ok (.aload_n 0, 1) := by decide +kernel
theorem dX10_b13_1 : decode cX10_b13 1 = .ok (.bipush 13, 2) := by decide +kernel
theorem dX10_b13_3 : decode cX10_b13 3 = .ok (.invokevirtual 273, 3) := by decide +kernel
theorem dX10_b13_6 : decode cX10_b13 6 = .ok (.aload_n 0, 1) := by decide +kernel
theorem dX10_b13_7 : decode cX10_b13 7 = .ok (.iload_n 1, 1) := by decide +kernel
theorem dX10_b13_8 : decode cX10_b13 8 = .ok (.invokevirtual 282, 3) := by decide +kernel
theorem dX10_b13_11 : decode cX10_b13 11 = .ok (.bipush 100, 2) := by decide +kernel
theorem dX10_b13_13 : decode cX10_b13 13 = .ok (.isub, 1) := by decide +kernel
theorem dX10_b13_14 : decode cX10_b13 14 = .ok (.ireturn, 1) := by decide +kernel
theorem dX10_sizeOf_0 : decode cX10_sizeOf 0 = .ok (.aload_n 0, 1) := by decide +kernel
theorem dX10_sizeOf_1 : decode cX10_sizeOf 1 = .ok (.getfield 31, 3) := by decide +kernel
theorem dX10_sizeOf_4 : decode cX10_sizeOf 4 = .ok (.bipush 8, 2) := by decide +kernel
theorem dX10_sizeOf_6 : decode cX10_sizeOf 6 = .ok (.iload_n 1, 1) := by decide +kernel
theorem dX10_sizeOf_7 : decode cX10_sizeOf 7 = .ok (.iadd, 1) := by decide +kernel
theorem dX10_sizeOf_8 : decode cX10_sizeOf 8 = .ok (.iaload, 1) := by decide +kernel
theorem dX10_sizeOf_9 : decode cX10_sizeOf 9 = .ok (.tableswitch 64 2 5 #[31, 64, 44, 50], 31) := by decide +kernel
theorem dX10_sizeOf_40 : decode cX10_sizeOf 40 = .ok (.aload_n 0, 1) := by decide +kernel
theorem dX10_sizeOf_41 : decode cX10_sizeOf 41 = .ok (.bipush 12, 2) := by decide +kernel
theorem dX10_sizeOf_43 : decode cX10_sizeOf 43 = .ok (.invokevirtual 273, 3) := by decide +kernel
theorem dX10_sizeOf_46 : decode cX10_sizeOf 46 = .ok (.aload_n 0, 1) := by decide +kernel
theorem dX10_sizeOf_47 : decode cX10_sizeOf 47 = .ok (.iload_n 1, 1) := by decide +kernel
theorem dX10_sizeOf_48 : decode cX10_sizeOf 48 = .ok (.invokevirtual 288, 3) := by decide +kernel
theorem dX10_sizeOf_51 : decode cX10_sizeOf 51 = .ok (.ineg, 1) := by decide +kernel
theorem dX10_sizeOf_52 : decode cX10_sizeOf 52 = .ok (.ireturn, 1) := by decide +kernel
theorem dX10_sizeOf_53 : decode cX10_sizeOf 53 = .ok (.aload_n 0, 1) := by decide +kernel
theorem dX10_sizeOf_54 : decode cX10_sizeOf 54 = .ok (.iload_n 1, 1) := by decide +kernel
theorem dX10_sizeOf_55 : decode cX10_sizeOf 55 = .ok (.invokevirtual 291, 3) := by decide +kernel
theorem dX10_sizeOf_58 : decode cX10_sizeOf 58 = .ok (.ireturn, 1) := by decide +kernel
theorem dX10_sizeOf_59 : decode cX10_sizeOf 59 = .ok (.aload_n 0, 1) := by decide +kernel
theorem dX10_sizeOf_60 : decode cX10_sizeOf 60 = .ok (.bipush 14, 2) := by decide +kernel
theorem dX10_sizeOf_62 : decode cX10_sizeOf 62 = .ok (.invokevirtual 273, 3) := by decide +kernel
theorem dX10_sizeOf_65 : decode cX10_sizeOf 65 = .ok (.iconst 2, 1) := by decide +kernel
theorem dX10_sizeOf_66 : decode cX10_sizeOf 66 = .ok (.aload_n 0, 1) := by decide +kernel
theorem dX10_sizeOf_67 : decode cX10_sizeOf 67 = .ok (.iload_n 1, 1) := by decide +kernel
theorem dX10_sizeOf_68 : decode cX10_sizeOf 68 = .ok (.invokevirtual 291, 3) := by decide +kernel
theorem dX10_sizeOf_71 : decode cX10_sizeOf 71 = .ok (.imul, 1) := by decide +kernel
theorem dX10_sizeOf_72 : decode cX10_sizeOf 72 = .ok (.ireturn, 1) := by decide +kernel
theorem dX10_sizeOf_73 : decode cX10_sizeOf 73 = .ok (.aload_n 0, 1) := by decide +kernel
theorem dX10_sizeOf_74 : decode cX10_sizeOf 74 = .ok (.iload_n 1, 1) := by decide +kernel
theorem dX10_sizeOf_75 : decode cX10_sizeOf 75 = .ok (.invokevirtual 288, 3) := by decide +kernel
theorem dX10_sizeOf_78 : decode cX10_sizeOf 78 = .ok (.ireturn, 1) := by decide +kernel
theorem dX10_markOf_0 : decode cX10_markOf 0 = .ok (.aload_n 0, 1) := by decide +kernel
theorem dX10_markOf_1 : decode cX10_markOf 1 = .ok (.getfield 31, 3) := by decide +kernel
theorem dX10_markOf_4 : decode cX10_markOf 4 = .ok (.bipush 8, 2) := by decide +kernel
theorem dX10_markOf_6 : decode cX10_markOf 6 = .ok (.iload_n 1, 1) := by decide +kernel
theorem dX10_markOf_7 : decode cX10_markOf 7 = .ok (.iadd, 1) := by decide +kernel
theorem dX10_markOf_8 : decode cX10_markOf 8 = .ok (.iaload, 1) := by decide +kernel
theorem dX10_markOf_9 : decode cX10_markOf 9 = .ok (.iconst 4, 1) := by decide +kernel
theorem dX10_markOf_10 : decode cX10_markOf 10 = .ok (.if_icmp .ge 9, 3) := by decide +kernel
theorem dX10_markOf_13 : decode cX10_markOf 13 = .ok (.aload_n 0, 1) := by decide +kernel
theorem dX10_markOf_14 : decode cX10_markOf 14 = .ok (.iload_n 1, 1) := by decide +kernel
theorem dX10_markOf_15 : decode cX10_markOf 15 = .ok (.invokevirtual 285, 3) := by decide +kernel
theorem dX10_markOf_18 : decode cX10_markOf 18 = .ok (.ireturn, 1) := by decide +kernel
theorem dX10_markOf_19 : decode cX10_markOf 19 = .ok (.aload_n 0, 1) := by decide +kernel
theorem dX10_markOf_20 : decode cX10_markOf 20 = .ok (.bipush 23, 2) := by decide +kernel
theorem dX10_markOf_22 : decode cX10_markOf 22 = .ok (.invokevirtual 273, 3) := by decide +kernel
theorem dX10_markOf_25 : decode cX10_markOf 25 = .ok (.aload_n 0, 1) := by decide +kernel
theorem dX10_markOf_26 : decode cX10_markOf 26 = .ok (.iload_n 1, 1) := by decide +kernel
theorem dX10_markOf_27 : decode cX10_markOf 27 = .ok (.invokevirtual 276, 3) := by decide +kernel
theorem dX10_markOf_30 : decode cX10_markOf 30 = .ok (.istore_n 2, 1) := by decide +kernel
theorem dX10_markOf_31 : decode cX10_markOf 31 = .ok (.iload_n 2, 1) := by decide +kernel
theorem dX10_markOf_32 : decode cX10_markOf 32 = .ok (.aload_n 0, 1) := by decide +kernel
theorem dX10_markOf_33 : decode cX10_markOf 33 = .ok (.iload_n 1, 1) := by decide +kernel
theorem dX10_markOf_34 : decode cX10_markOf 34 = .ok (.invokevirtual 294, 3) := by decide +kernel
theorem dX10_markOf_37 : decode cX10_markOf 37 = .ok (.isub, 1) := by decide +kernel
theorem dX10_markOf_38 : decode cX10_markOf 38 = .ok (.ireturn, 1) := by decide +kernel
theorem dX10_ask_0 : decode cX10_ask 0 = .ok (.aload_n 0, 1) := by decide +kernel
theorem dX10_ask_1 : decode cX10_ask 1 = .ok (.iload_n 1, 1) := by decide +kernel
theorem dX10_ask_2 : decode cX10_ask 2 = .ok (.invokevirtual 205, 3) := by decide +kernel
theorem dX10_ask_5 : decode cX10_ask 5 = .ok (.ifCond .eq 12, 3) := by decide +kernel
theorem dX10_ask_8 : decode cX10_ask 8 = .ok (.iload_n 2, 1) := by decide +kernel
theorem dX10_ask_9 : decode cX10_ask 9 = .ok (.iconst 0, 1) := by decide +kernel
theorem dX10_ask_10 : decode cX10_ask 10 = .ok (.iconst 1, 1) := by decide +kernel
theorem dX10_ask_11 : decode cX10_ask 11 = .ok (.invokestatic 70, 3) := by decide +kernel
theorem dX10_ask_14 : decode cX10_ask 14 = .ok (.ifCond .ne 6, 3) := by decide +kernel
theorem dX10_ask_17 : decode cX10_ask 17 = .ok (.ldc 78, 2) := by decide +kernel
theorem dX10_ask_19 : decode cX10_ask 19 = .ok (.ireturn, 1) := by decide +kernel
theorem dX10_ask_20 : decode cX10_ask 20 = .ok (.aload_n 0, 1) := by decide +kernel
theorem dX10_ask_21 : decode cX10_ask 21 = .ok (.iconst 0, 1) := by decide +kernel
theorem dX10_ask_22 : decode cX10_ask 22 = .ok (.putfield 270, 3) := by decide +kernel
theorem dX10_ask_25 : decode cX10_ask 25 = .ok (.iload_n 2, 1) := by decide +kernel
theorem dX10_ask_26 : decode cX10_ask 26 = .ok (.ifCond .ne 11, 3) := by decide +kernel
theorem dX10_ask_29 : decode cX10_ask 29 = .ok (.aload_n 0, 1) := by decide +kernel
theorem dX10_ask_30 : decode cX10_ask 30 = .ok (.iload_n 1, 1) := by decide +kernel
theorem dX10_ask_31 : decode cX10_ask 31 = .ok (.invokevirtual 294, 3) := by decide +kernel
theorem dX10_ask_34 : decode cX10_ask 34 = .ok (.goto 8, 3) := by decide +kernel
theorem dX10_ask_37 : decode cX10_ask 37 = .ok (.aload_n 0, 1) := by decide +kernel
theorem dX10_ask_38 : decode cX10_ask 38 = .ok (.iload_n 1, 1) := by decide +kernel
theorem dX10_ask_39 : decode cX10_ask 39 = .ok (.invokevirtual 297, 3) := by decide +kernel
theorem dX10_ask_42 : decode cX10_ask 42 = .ok (.ireturn, 1) := by decide +kernel
theorem dX10_trace_0 : decode cX10_trace 0 = .ok (.iload_n 1, 1) := by decide +kernel
theorem dX10_trace_1 : decode cX10_trace 1 = .ok (.iconst 0, 1) := by decide +kernel
theorem dX10_trace_2 : decode cX10_trace 2 = .ok (.aload_n 0, 1) := by decide +kernel
theorem dX10_trace_3 : decode cX10_trace 3 = .ok (.getfield 270, 3) := by decide +kernel
theorem dX10_trace_6 : decode cX10_trace 6 = .ok (.iconst 1, 1) := by decide +kernel
theorem dX10_trace_7 : decode cX10_trace 7 = .ok (.isub, 1) := by decide +kernel
theorem dX10_trace_8 : decode cX10_trace 8 = .ok (.invokestatic 70, 3) := by decide +kernel
theorem dX10_trace_11 : decode cX10_trace 11 = .ok (.ifCond .eq 12, 3) := by decide +kernel
theorem dX10_trace_14 : decode cX10_trace 14 = .ok (.aload_n 0, 1) := by decide +kernel
theorem dX10_trace_15 : decode cX10_trace 15 = .ok (.getfield 62, 3) := by decide +kernel
theorem dX10_trace_18 : decode cX10_trace 18 = .ok (.iload_n 1, 1) := by decide +kernel
theorem dX10_trace_19 : decode cX10_trace 19 = .ok (.iaload, 1) := by decide +kernel
theorem dX10_trace_20 : decode cX10_trace 20 = .ok (.goto 5, 3) := by decide +kernel
theorem dX10_trace_23 : decode cX10_trace 23 = .ok (.ldc 133, 2) := by decide +kernel
theorem dX10_trace_25 : decode cX10_trace 25 = .ok (.ireturn, 1) := by decide +kernel
theorem dX10_count_0 : decode cX10_count 0 = .ok (.iload_n 1, 1) := by decide +kernel
theorem dX10_count_1 : decode cX10_count 1 = .ok (.tableswitch 127 0 7 #[47, 82, 89, 96, 103, 110, 117, 122], 47) := by decide +kernel
theorem dX10_count_48 : decode cX10_count 48 = .ok (.iconst 0, 1) := by decide +kernel
theorem dX10_count_49 : decode cX10_count 49 = .ok (.istore_n 2, 1) := by decide +kernel
theorem dX10_count_50 : decode cX10_count 50 = .ok (.iconst 0, 1) := by decide +kernel
theorem dX10_count_51 : decode cX10_count 51 = .ok (.istore_n 3, 1) := by decide +kernel
theorem dX10_count_52 : decode cX10_count 52 = .ok (.iload_n 3, 1) := by decide +kernel
theorem dX10_count_53 : decode cX10_count 53 = .ok (.bipush 8, 2) := by decide +kernel
theorem dX10_count_55 : decode cX10_count 55 = .ok (.if_icmp .ge 26, 3) := by decide +kernel
theorem dX10_count_58 : decode cX10_count 58 = .ok (.iload_n 2, 1) := by decide +kernel
theorem dX10_count_59 : decode cX10_count 59 = .ok (.aload_n 0, 1) := by decide +kernel
theorem dX10_count_60 : decode cX10_count 60 = .ok (.getfield 7, 3) := by decide +kernel
theorem dX10_count_63 : decode cX10_count 63 = .ok (.iload_n 3, 1) := by decide +kernel
theorem dX10_count_64 : decode cX10_count 64 = .ok (.iaload, 1) := by decide +kernel
theorem dX10_count_65 : decode cX10_count 65 = .ok (.ifCond .lt 7, 3) := by decide +kernel
theorem dX10_count_68 : decode cX10_count 68 = .ok (.iconst 1, 1) := by decide +kernel
theorem dX10_count_69 : decode cX10_count 69 = .ok (.goto 4, 3) := by decide +kernel
theorem dX10_count_72 : decode cX10_count 72 = .ok (.iconst 0, 1) := by decide +kernel
theorem dX10_count_73 : decode cX10_count 73 = .ok (.iadd, 1) := by decide +kernel
theorem dX10_count_74 : decode cX10_count 74 = .ok (.istore_n 2, 1) := by decide +kernel
theorem dX10_count_75 : decode cX10_count 75 = .ok (.iinc 3 1, 3) := by decide +kernel
theorem dX10_count_78 : decode cX10_count 78 = .ok (.goto (-26), 3) := by decide +kernel
theorem dX10_count_81 : decode cX10_count 81 = .ok (.iload_n 2, 1) := by decide +kernel
theorem dX10_count_82 : decode cX10_count 82 = .ok (.ireturn, 1) := by decide +kernel
theorem dX10_count_83 : decode cX10_count 83 = .ok (.aload_n 0, 1) := by decide +kernel
theorem dX10_count_84 : decode cX10_count 84 = .ok (.getfield 31, 3) := by decide +kernel
theorem dX10_count_87 : decode cX10_count 87 = .ok (.iconst 0, 1) := by decide +kernel
theorem dX10_count_88 : decode cX10_count 88 = .ok (.iaload, 1) := by decide +kernel
theorem dX10_count_89 : decode cX10_count 89 = .ok (.ireturn, 1) := by decide +kernel
theorem dX10_count_90 : decode cX10_count 90 = .ok (.aload_n 0, 1) := by decide +kernel
theorem dX10_count_91 : decode cX10_count 91 = .ok (.getfield 31, 3) := by decide +kernel
theorem dX10_count_94 : decode cX10_count 94 = .ok (.iconst 1, 1) := by decide +kernel
theorem dX10_count_95 : decode cX10_count 95 = .ok (.iaload, 1) := by decide +kernel
theorem dX10_count_96 : decode cX10_count 96 = .ok (.ireturn, 1) := by decide +kernel
theorem dX10_count_97 : decode cX10_count 97 = .ok (.aload_n 0, 1) := by decide +kernel
theorem dX10_count_98 : decode cX10_count 98 = .ok (.getfield 34, 3) := by decide +kernel
theorem dX10_count_101 : decode cX10_count 101 = .ok (.iconst 0, 1) := by decide +kernel
theorem dX10_count_102 : decode cX10_count 102 = .ok (.iaload, 1) := by decide +kernel
theorem dX10_count_103 : decode cX10_count 103 = .ok (.ireturn, 1) := by decide +kernel
theorem dX10_count_104 : decode cX10_count 104 = .ok (.aload_n 0, 1) := by decide +kernel
theorem dX10_count_105 : decode cX10_count 105 = .ok (.getfield 34, 3) := by decide +kernel
theorem dX10_count_108 : decode cX10_count 108 = .ok (.iconst 1, 1) := by decide +kernel
theorem dX10_count_109 : decode cX10_count 109 = .ok (.iaload, 1) := by decide +kernel
theorem dX10_count_110 : decode cX10_count 110 = .ok (.ireturn, 1) := by decide +kernel
theorem dX10_count_111 : decode cX10_count 111 = .ok (.aload_n 0, 1) := by decide +kernel
theorem dX10_count_112 : decode cX10_count 112 = .ok (.getfield 34, 3) := by decide +kernel
theorem dX10_count_115 : decode cX10_count 115 = .ok (.iconst 2, 1) := by decide +kernel
theorem dX10_count_116 : decode cX10_count 116 = .ok (.iaload, 1) := by decide +kernel
theorem dX10_count_117 : decode cX10_count 117 = .ok (.ireturn, 1) := by decide +kernel
theorem dX10_count_118 : decode cX10_count 118 = .ok (.aload_n 0, 1) := by decide +kernel
theorem dX10_count_119 : decode cX10_count 119 = .ok (.getfield 155, 3) := by decide +kernel
theorem dX10_count_122 : decode cX10_count 122 = .ok (.ireturn, 1) := by decide +kernel
theorem dX10_count_123 : decode cX10_count 123 = .ok (.aload_n 0, 1) := by decide +kernel
theorem dX10_count_124 : decode cX10_count 124 = .ok (.getfield 89, 3) := by decide +kernel
theorem dX10_count_127 : decode cX10_count 127 = .ok (.ireturn, 1) := by decide +kernel
theorem dX10_count_128 : decode cX10_count 128 = .ok (.ldc 78, 2) := by decide +kernel
theorem dX10_count_130 : decode cX10_count 130 = .ok (.ireturn, 1) := by decide +kernel
theorem dJ6_bitCount_0f7a4_0 : decode cJ6_bitCount_0f7a4 0 = .ok (.iload_n 0, 1) := by decide +kernel
theorem dJ6_bitCount_0f7a4_1 : decode cJ6_bitCount_0f7a4 1 = .ok (.iload_n 0, 1) := by decide +kernel
theorem dJ6_bitCount_0f7a4_2 : decode cJ6_bitCount_0f7a4 2 = .ok (.iconst 1, 1) := by decide +kernel
theorem dJ6_bitCount_0f7a4_3 : decode cJ6_bitCount_0f7a4 3 = .ok (.iushr, 1) := by decide +kernel
theorem dJ6_bitCount_0f7a4_4 : decode cJ6_bitCount_0f7a4 4 = .ok (.ldc_w 265, 3) := by decide +kernel
theorem dJ6_bitCount_0f7a4_7 : decode cJ6_bitCount_0f7a4 7 = .ok (.iand, 1) := by decide +kernel
theorem dJ6_bitCount_0f7a4_8 : decode cJ6_bitCount_0f7a4 8 = .ok (.isub, 1) := by decide +kernel
theorem dJ6_bitCount_0f7a4_9 : decode cJ6_bitCount_0f7a4 9 = .ok (.istore_n 0, 1) := by decide +kernel
theorem dJ6_bitCount_0f7a4_10 : decode cJ6_bitCount_0f7a4 10 = .ok (.iload_n 0, 1) := by decide +kernel
theorem dJ6_bitCount_0f7a4_11 : decode cJ6_bitCount_0f7a4 11 = .ok (.ldc_w 266, 3) := by decide +kernel
theorem dJ6_bitCount_0f7a4_14 : decode cJ6_bitCount_0f7a4 14 = .ok (.iand, 1) := by decide +kernel
theorem dJ6_bitCount_0f7a4_15 : decode cJ6_bitCount_0f7a4 15 = .ok (.iload_n 0, 1) := by decide +kernel
theorem dJ6_bitCount_0f7a4_16 : decode cJ6_bitCount_0f7a4 16 = .ok (.iconst 2, 1) := by decide +kernel
theorem dJ6_bitCount_0f7a4_17 : decode cJ6_bitCount_0f7a4 17 = .ok (.iushr, 1) := by decide +kernel
theorem dJ6_bitCount_0f7a4_18 : decode cJ6_bitCount_0f7a4 18 = .ok (.ldc_w 266, 3) := by decide +kernel
theorem dJ6_bitCount_0f7a4_21 : decode cJ6_bitCount_0f7a4 21 = .ok (.iand, 1) := by decide +kernel
theorem dJ6_bitCount_0f7a4_22 : decode cJ6_bitCount_0f7a4 22 = .ok (.iadd, 1) := by decide +kernel
theorem dJ6_bitCount_0f7a4_23 : decode cJ6_bitCount_0f7a4 23 = .ok (.istore_n 0, 1) := by decide +kernel
theorem dJ6_bitCount_0f7a4_24 : decode cJ6_bitCount_0f7a4 24 = .ok (.iload_n 0, 1) := by decide +kernel
theorem dJ6_bitCount_0f7a4_25 : decode cJ6_bitCount_0f7a4 25 = .ok (.iload_n 0, 1) := by decide +kernel
theorem dJ6_bitCount_0f7a4_26 : decode cJ6_bitCount_0f7a4 26 = .ok (.iconst 4, 1) := by decide +kernel
theorem dJ6_bitCount_0f7a4_27 : decode cJ6_bitCount_0f7a4 27 = .ok (.iushr, 1) := by decide +kernel
theorem dJ6_bitCount_0f7a4_28 : decode cJ6_bitCount_0f7a4 28 = .ok (.iadd, 1) := by decide +kernel
theorem dJ6_bitCount_0f7a4_29 : decode cJ6_bitCount_0f7a4 29 = .ok (.ldc_w 267, 3) := by decide +kernel
theorem dJ6_bitCount_0f7a4_32 : decode cJ6_bitCount_0f7a4 32 = .ok (.iand, 1) := by decide +kernel
theorem dJ6_bitCount_0f7a4_33 : decode cJ6_bitCount_0f7a4 33 = .ok (.istore_n 0, 1) := by decide +kernel
theorem dJ6_bitCount_0f7a4_34 : decode cJ6_bitCount_0f7a4 34 = .ok (.iload_n 0, 1) := by decide +kernel
theorem dJ6_bitCount_0f7a4_35 : decode cJ6_bitCount_0f7a4 35 = .ok (.iload_n 0, 1) := by decide +kernel
theorem dJ6_bitCount_0f7a4_36 : decode cJ6_bitCount_0f7a4 36 = .ok (.bipush 8, 2) := by decide +kernel
theorem dJ6_bitCount_0f7a4_38 : decode cJ6_bitCount_0f7a4 38 = .ok (.iushr, 1) := by decide +kernel
theorem dJ6_bitCount_0f7a4_39 : decode cJ6_bitCount_0f7a4 39 = .ok (.iadd, 1) := by decide +kernel
theorem dJ6_bitCount_0f7a4_40 : decode cJ6_bitCount_0f7a4 40 = .ok (.istore_n 0, 1) := by decide +kernel
theorem dJ6_bitCount_0f7a4_41 : decode cJ6_bitCount_0f7a4 41 = .ok (.iload_n 0, 1) := by decide +kernel
theorem dJ6_bitCount_0f7a4_42 : decode cJ6_bitCount_0f7a4 42 = .ok (.iload_n 0, 1) := by decide +kernel
theorem dJ6_bitCount_0f7a4_43 : decode cJ6_bitCount_0f7a4 43 = .ok (.bipush 16, 2) := by decide +kernel
theorem dJ6_bitCount_0f7a4_45 : decode cJ6_bitCount_0f7a4 45 = .ok (.iushr, 1) := by decide +kernel
theorem dJ6_bitCount_0f7a4_46 : decode cJ6_bitCount_0f7a4 46 = .ok (.iadd, 1) := by decide +kernel
theorem dJ6_bitCount_0f7a4_47 : decode cJ6_bitCount_0f7a4 47 = .ok (.istore_n 0, 1) := by decide +kernel
theorem dJ6_bitCount_0f7a4_48 : decode cJ6_bitCount_0f7a4 48 = .ok (.iload_n 0, 1) := by decide +kernel
theorem dJ6_bitCount_0f7a4_49 : decode cJ6_bitCount_0f7a4 49 = .ok (.bipush 63, 2) := by decide +kernel
theorem dJ6_bitCount_0f7a4_51 : decode cJ6_bitCount_0f7a4 51 = .ok (.iand, 1) := by decide +kernel
theorem dJ6_bitCount_0f7a4_52 : decode cJ6_bitCount_0f7a4 52 = .ok (.ireturn, 1) := by decide +kernel
theorem dJ9_max_7cf53_0 : decode cJ9_max_7cf53 0 = .ok (.iload_n 0, 1) := by decide +kernel
theorem dJ9_max_7cf53_1 : decode cJ9_max_7cf53 1 = .ok (.iload_n 1, 1) := by decide +kernel
theorem dJ9_max_7cf53_2 : decode cJ9_max_7cf53 2 = .ok (.if_icmp .lt 7, 3) := by decide +kernel
theorem dJ9_max_7cf53_5 : decode cJ9_max_7cf53 5 = .ok (.iload_n 0, 1) := by decide +kernel
theorem dJ9_max_7cf53_6 : decode cJ9_max_7cf53 6 = .ok (.goto 4, 3) := by decide +kernel
theorem dJ9_max_7cf53_9 : decode cJ9_max_7cf53 9 = .ok (.iload_n 1, 1) := by decide +kernel
theorem dJ9_max_7cf53_10 : decode cJ9_max_7cf53 10 = .ok (.ireturn, 1) := by decide +kernel
theorem dJ9_min_7cf53_0 : decode cJ9_min_7cf53 0 = .ok (.iload_n 0, 1) := by decide +kernel
theorem dJ9_min_7cf53_1 : decode cJ9_min_7cf53 1 = .ok (.iload_n 1, 1) := by decide +kernel
theorem dJ9_min_7cf53_2 : decode cJ9_min_7cf53 2 = .ok (.if_icmp .gt 7, 3) := by decide +kernel
theorem dJ9_min_7cf53_5 : decode cJ9_min_7cf53 5 = .ok (.iload_n 0, 1) := by decide +kernel
theorem dJ9_min_7cf53_6 : decode cJ9_min_7cf53 6 = .ok (.goto 4, 3) := by decide +kernel
theorem dJ9_min_7cf53_9 : decode cJ9_min_7cf53 9 = .ok (.iload_n 1, 1) := by decide +kernel
theorem dJ9_min_7cf53_10 : decode cJ9_min_7cf53 10 = .ok (.ireturn, 1) := by decide +kernel
theorem dL_law_0 : decode cL_law 0 = .ok (.new 7, 3) := by decide +kernel
theorem dL_law_3 : decode cL_law 3 = .ok (.dup, 1) := by decide +kernel
theorem dL_law_4 : decode cL_law 4 = .ok (.invokespecial 9, 3) := by decide +kernel
theorem dL_law_7 : decode cL_law 7 = .ok (.astore_n 1, 1) := by decide +kernel
theorem dL_law_8 : decode cL_law 8 = .ok (.new 10, 3) := by decide +kernel
theorem dL_law_11 : decode cL_law 11 = .ok (.dup, 1) := by decide +kernel
theorem dL_law_12 : decode cL_law 12 = .ok (.invokespecial 12, 3) := by decide +kernel
theorem dL_law_15 : decode cL_law 15 = .ok (.astore_n 2, 1) := by decide +kernel
theorem dL_law_16 : decode cL_law 16 = .ok (.iconst 0, 1) := by decide +kernel
theorem dL_law_17 : decode cL_law 17 = .ok (.istore_n 3, 1) := by decide +kernel
theorem dL_law_18 : decode cL_law 18 = .ok (.iload_n 3, 1) := by decide +kernel
theorem dL_law_19 : decode cL_law 19 = .ok (.aload_n 0, 1) := by decide +kernel
theorem dL_law_20 : decode cL_law 20 = .ok (.arraylength, 1) := by decide +kernel
theorem dL_law_21 : decode cL_law 21 = .ok (.bipush 6, 2) := by decide +kernel
theorem dL_law_23 : decode cL_law 23 = .ok (.isub, 1) := by decide +kernel
theorem dL_law_24 : decode cL_law 24 = .ok (.if_icmp .gt 1404, 3) := by decide +kernel
theorem dL_law_27 : decode cL_law 27 = .ok (.aload_n 0, 1) := by decide +kernel
theorem dL_law_28 : decode cL_law 28 = .ok (.iload_n 3, 1) := by decide +kernel
theorem dL_law_29 : decode cL_law 29 = .ok (.iaload, 1) := by decide +kernel
theorem dL_law_30 : decode cL_law 30 = .ok (.bipush 63, 2) := by decide +kernel
theorem dL_law_32 : decode cL_law 32 = .ok (.iand, 1) := by decide +kernel
theorem dL_law_33 : decode cL_law 33 = .ok (.tableswitch 1389 0 38 #[171, 214, 257, 320, 343, 366, 379, 392, 405, 428, 451, 484, 507, 530, 563, 596, 619, 652, 675, 708, 731, 754, 777, 800, 813, 866, 899, 962, 1025, 1088, 1152, 1195, 1218, 1241, 1264, 1297, 1330, 1353, 1376], 171) := by decide +kernel
theorem dL_law_204 : decode cL_law 204 = .ok (.aload_n 1, 1) := by decide +kernel
theorem dL_law_205 : decode cL_law 205 = .ok (.aload_n 0, 1) := by decide +kernel
theorem dL_law_206 : decode cL_law 206 = .ok (.iload_n 3, 1) := by decide +kernel
theorem dL_law_207 : decode cL_law 207 = .ok (.iconst 1, 1) := by decide +kernel
theorem dL_law_208 : decode cL_law 208 = .ok (.iadd, 1) := by decide +kernel
theorem dL_law_209 : decode cL_law 209 = .ok (.iaload, 1) := by decide +kernel
theorem dL_law_210 : decode cL_law 210 = .ok (.aload_n 0, 1) := by decide +kernel
theorem dL_law_211 : decode cL_law 211 = .ok (.iload_n 3, 1) := by decide +kernel
theorem dL_law_212 : decode cL_law 212 = .ok (.iconst 2, 1) := by decide +kernel
theorem dL_law_213 : decode cL_law 213 = .ok (.iadd, 1) := by decide +kernel
theorem dL_law_214 : decode cL_law 214 = .ok (.iaload, 1) := by decide +kernel
theorem dL_law_215 : decode cL_law 215 = .ok (.aload_n 0, 1) := by decide +kernel
theorem dL_law_216 : decode cL_law 216 = .ok (.iload_n 3, 1) := by decide +kernel
theorem dL_law_217 : decode cL_law 217 = .ok (.iconst 3, 1) := by decide +kernel
theorem dL_law_218 : decode cL_law 218 = .ok (.iadd, 1) := by decide +kernel
theorem dL_law_219 : decode cL_law 219 = .ok (.iaload, 1) := by decide +kernel
theorem dL_law_220 : decode cL_law 220 = .ok (.invokevirtual 13, 3) := by decide +kernel
theorem dL_law_223 : decode cL_law 223 = .ok (.aload_n 2, 1) := by decide +kernel
theorem dL_law_224 : decode cL_law 224 = .ok (.aload_n 0, 1) := by decide +kernel
theorem dL_law_225 : decode cL_law 225 = .ok (.iload_n 3, 1) := by decide +kernel
theorem dL_law_226 : decode cL_law 226 = .ok (.iconst 1, 1) := by decide +kernel
theorem dL_law_227 : decode cL_law 227 = .ok (.iadd, 1) := by decide +kernel
theorem dL_law_228 : decode cL_law 228 = .ok (.iaload, 1) := by decide +kernel
theorem dL_law_229 : decode cL_law 229 = .ok (.aload_n 0, 1) := by decide +kernel
theorem dL_law_230 : decode cL_law 230 = .ok (.iload_n 3, 1) := by decide +kernel
theorem dL_law_231 : decode cL_law 231 = .ok (.iconst 2, 1) := by decide +kernel
theorem dL_law_232 : decode cL_law 232 = .ok (.iadd, 1) := by decide +kernel
theorem dL_law_233 : decode cL_law 233 = .ok (.iaload, 1) := by decide +kernel
theorem dL_law_234 : decode cL_law 234 = .ok (.aload_n 0, 1) := by decide +kernel
theorem dL_law_235 : decode cL_law 235 = .ok (.iload_n 3, 1) := by decide +kernel
theorem dL_law_236 : decode cL_law 236 = .ok (.iconst 3, 1) := by decide +kernel
theorem dL_law_237 : decode cL_law 237 = .ok (.iadd, 1) := by decide +kernel
theorem dL_law_238 : decode cL_law 238 = .ok (.iaload, 1) := by decide +kernel
theorem dL_law_239 : decode cL_law 239 = .ok (.invokevirtual 17, 3) := by decide +kernel
theorem dL_law_242 : decode cL_law 242 = .ok (.if_icmp .eq 1180, 3) := by decide +kernel
theorem dL_law_245 : decode cL_law 245 = .ok (.iconst 0, 1) := by decide +kernel
theorem dL_law_246 : decode cL_law 246 = .ok (.ireturn, 1) := by decide +kernel
theorem dL_law_247 : decode cL_law 247 = .ok (.aload_n 1, 1) := by decide +kernel
theorem dL_law_248 : decode cL_law 248 = .ok (.aload_n 0, 1) := by decide +kernel
theorem dL_law_249 : decode cL_law 249 = .ok (.iload_n 3, 1) := by decide +kernel
theorem dL_law_250 : decode cL_law 250 = .ok (.iconst 1, 1) := by decide +kernel
theorem dL_law_251 : decode cL_law 251 = .ok (.iadd, 1) := by decide +kernel
theorem dL_law_252 : decode cL_law 252 = .ok (.iaload, 1) := by decide +kernel
theorem dL_law_253 : decode cL_law 253 = .ok (.aload_n 0, 1) := by decide +kernel
theorem dL_law_254 : decode cL_law 254 = .ok (.iload_n 3, 1) := by decide +kernel
theorem dL_law_255 : decode cL_law 255 = .ok (.iconst 2, 1) := by decide +kernel
theorem dL_law_256 : decode cL_law 256 = .ok (.iadd, 1) := by decide +kernel
theorem dL_law_257 : decode cL_law 257 = .ok (.iaload, 1) := by decide +kernel
theorem dL_law_258 : decode cL_law 258 = .ok (.aload_n 0, 1) := by decide +kernel
theorem dL_law_259 : decode cL_law 259 = .ok (.iload_n 3, 1) := by decide +kernel
theorem dL_law_260 : decode cL_law 260 = .ok (.iconst 3, 1) := by decide +kernel
theorem dL_law_261 : decode cL_law 261 = .ok (.iadd, 1) := by decide +kernel
theorem dL_law_262 : decode cL_law 262 = .ok (.iaload, 1) := by decide +kernel
theorem dL_law_263 : decode cL_law 263 = .ok (.invokevirtual 18, 3) := by decide +kernel
theorem dL_law_266 : decode cL_law 266 = .ok (.aload_n 2, 1) := by decide +kernel
theorem dL_law_267 : decode cL_law 267 = .ok (.aload_n 0, 1) := by decide +kernel
theorem dL_law_268 : decode cL_law 268 = .ok (.iload_n 3, 1) := by decide +kernel
theorem dL_law_269 : decode cL_law 269 = .ok (.iconst 1, 1) := by decide +kernel
theorem dL_law_270 : decode cL_law 270 = .ok (.iadd, 1) := by decide +kernel
theorem dL_law_271 : decode cL_law 271 = .ok (.iaload, 1) := by decide +kernel
theorem dL_law_272 : decode cL_law 272 = .ok (.aload_n 0, 1) := by decide +kernel
theorem dL_law_273 : decode cL_law 273 = .ok (.iload_n 3, 1) := by decide +kernel
theorem dL_law_274 : decode cL_law 274 = .ok (.iconst 2, 1) := by decide +kernel
theorem dL_law_275 : decode cL_law 275 = .ok (.iadd, 1) := by decide +kernel
theorem dL_law_276 : decode cL_law 276 = .ok (.iaload, 1) := by decide +kernel
theorem dL_law_277 : decode cL_law 277 = .ok (.aload_n 0, 1) := by decide +kernel
theorem dL_law_278 : decode cL_law 278 = .ok (.iload_n 3, 1) := by decide +kernel
theorem dL_law_279 : decode cL_law 279 = .ok (.iconst 3, 1) := by decide +kernel
theorem dL_law_280 : decode cL_law 280 = .ok (.iadd, 1) := by decide +kernel
theorem dL_law_281 : decode cL_law 281 = .ok (.iaload, 1) := by decide +kernel
theorem dL_law_282 : decode cL_law 282 = .ok (.invokevirtual 21, 3) := by decide +kernel
theorem dL_law_285 : decode cL_law 285 = .ok (.if_icmp .eq 1137, 3) := by decide +kernel
theorem dL_law_288 : decode cL_law 288 = .ok (.iconst 0, 1) := by decide +kernel
theorem dL_law_289 : decode cL_law 289 = .ok (.ireturn, 1) := by decide +kernel
theorem dL_law_290 : decode cL_law 290 = .ok (.aload_n 1, 1) := by decide +kernel
theorem dL_law_291 : decode cL_law 291 = .ok (.aload_n 0, 1) := by decide +kernel
theorem dL_law_292 : decode cL_law 292 = .ok (.iload_n 3, 1) := by decide +kernel
theorem dL_law_293 : decode cL_law 293 = .ok (.iconst 1, 1) := by decide +kernel
theorem dL_law_294 : decode cL_law 294 = .ok (.iadd, 1) := by decide +kernel
theorem dL_law_295 : decode cL_law 295 = .ok (.iaload, 1) := by decide +kernel
theorem dL_law_296 : decode cL_law 296 = .ok (.aload_n 0, 1) := by decide +kernel
theorem dL_law_297 : decode cL_law 297 = .ok (.iload_n 3, 1) := by decide +kernel
theorem dL_law_298 : decode cL_law 298 = .ok (.iconst 2, 1) := by decide +kernel
theorem dL_law_299 : decode cL_law 299 = .ok (.iadd, 1) := by decide +kernel
theorem dL_law_300 : decode cL_law 300 = .ok (.iaload, 1) := by decide +kernel
theorem dL_law_301 : decode cL_law 301 = .ok (.aload_n 0, 1) := by decide +kernel
theorem dL_law_302 : decode cL_law 302 = .ok (.iload_n 3, 1) := by decide +kernel
theorem dL_law_303 : decode cL_law 303 = .ok (.iconst 3, 1) := by decide +kernel
theorem dL_law_304 : decode cL_law 304 = .ok (.iadd, 1) := by decide +kernel
theorem dL_law_305 : decode cL_law 305 = .ok (.iaload, 1) := by decide +kernel
theorem dL_law_306 : decode cL_law 306 = .ok (.aload_n 0, 1) := by decide +kernel
theorem dL_law_307 : decode cL_law 307 = .ok (.iload_n 3, 1) := by decide +kernel
theorem dL_law_308 : decode cL_law 308 = .ok (.iconst 4, 1) := by decide +kernel
theorem dL_law_309 : decode cL_law 309 = .ok (.iadd, 1) := by decide +kernel
theorem dL_law_310 : decode cL_law 310 = .ok (.iaload, 1) := by decide +kernel
theorem dL_law_311 : decode cL_law 311 = .ok (.aload_n 0, 1) := by decide +kernel
theorem dL_law_312 : decode cL_law 312 = .ok (.iload_n 3, 1) := by decide +kernel
theorem dL_law_313 : decode cL_law 313 = .ok (.iconst 5, 1) := by decide +kernel
theorem dL_law_314 : decode cL_law 314 = .ok (.iadd, 1) := by decide +kernel
theorem dL_law_315 : decode cL_law 315 = .ok (.iaload, 1) := by decide +kernel
theorem dL_law_316 : decode cL_law 316 = .ok (.invokevirtual 22, 3) := by decide +kernel
theorem dL_law_319 : decode cL_law 319 = .ok (.aload_n 2, 1) := by decide +kernel
theorem dL_law_320 : decode cL_law 320 = .ok (.aload_n 0, 1) := by decide +kernel
theorem dL_law_321 : decode cL_law 321 = .ok (.iload_n 3, 1) := by decide +kernel
theorem dL_law_322 : decode cL_law 322 = .ok (.iconst 1, 1) := by decide +kernel
theorem dL_law_323 : decode cL_law 323 = .ok (.iadd, 1) := by decide +kernel
theorem dL_law_324 : decode cL_law 324 = .ok (.iaload, 1) := by decide +kernel
theorem dL_law_325 : decode cL_law 325 = .ok (.aload_n 0, 1) := by decide +kernel
theorem dL_law_326 : decode cL_law 326 = .ok (.iload_n 3, 1) := by decide +kernel
theorem dL_law_327 : decode cL_law 327 = .ok (.iconst 2, 1) := by decide +kernel
theorem dL_law_328 : decode cL_law 328 = .ok (.iadd, 1) := by decide +kernel
theorem dL_law_329 : decode cL_law 329 = .ok (.iaload, 1) := by decide +kernel
theorem dL_law_330 : decode cL_law 330 = .ok (.aload_n 0, 1) := by decide +kernel
theorem dL_law_331 : decode cL_law 331 = .ok (.iload_n 3, 1) := by decide +kernel
theorem dL_law_332 : decode cL_law 332 = .ok (.iconst 3, 1) := by decide +kernel
theorem dL_law_333 : decode cL_law 333 = .ok (.iadd, 1) := by decide +kernel
theorem dL_law_334 : decode cL_law 334 = .ok (.iaload, 1) := by decide +kernel
theorem dL_law_335 : decode cL_law 335 = .ok (.aload_n 0, 1) := by decide +kernel
theorem dL_law_336 : decode cL_law 336 = .ok (.iload_n 3, 1) := by decide +kernel
theorem dL_law_337 : decode cL_law 337 = .ok (.iconst 4, 1) := by decide +kernel
theorem dL_law_338 : decode cL_law 338 = .ok (.iadd, 1) := by decide +kernel
theorem dL_law_339 : decode cL_law 339 = .ok (.iaload, 1) := by decide +kernel
theorem dL_law_340 : decode cL_law 340 = .ok (.aload_n 0, 1) := by decide +kernel
theorem dL_law_341 : decode cL_law 341 = .ok (.iload_n 3, 1) := by decide +kernel
theorem dL_law_342 : decode cL_law 342 = .ok (.iconst 5, 1) := by decide +kernel
theorem dL_law_343 : decode cL_law 343 = .ok (.iadd, 1) := by decide +kernel
theorem dL_law_344 : decode cL_law 344 = .ok (.iaload, 1) := by decide +kernel
theorem dL_law_345 : decode cL_law 345 = .ok (.invokevirtual 26, 3) := by decide +kernel
theorem dL_law_348 : decode cL_law 348 = .ok (.if_icmp .eq 1074, 3) := by decide +kernel
theorem dL_law_351 : decode cL_law 351 = .ok (.iconst 0, 1) := by decide +kernel
theorem dL_law_352 : decode cL_law 352 = .ok (.ireturn, 1) := by decide +kernel
theorem dL_law_353 : decode cL_law 353 = .ok (.aload_n 1, 1) := by decide +kernel
theorem dL_law_354 : decode cL_law 354 = .ok (.aload_n 0, 1) := by decide +kernel
theorem dL_law_355 : decode cL_law 355 = .ok (.iload_n 3, 1) := by decide +kernel
theorem dL_law_356 : decode cL_law 356 = .ok (.iconst 1, 1) := by decide +kernel
theorem dL_law_357 : decode cL_law 357 = .ok (.iadd, 1) := by decide +kernel
theorem dL_law_358 : decode cL_law 358 = .ok (.iaload, 1) := by decide +kernel
theorem dL_law_359 : decode cL_law 359 = .ok (.invokevirtual 27, 3) := by decide +kernel
theorem dL_law_362 : decode cL_law 362 = .ok (.aload_n 2, 1) := by decide +kernel
theorem dL_law_363 : decode cL_law 363 = .ok (.aload_n 0, 1) := by decide +kernel
theorem dL_law_364 : decode cL_law 364 = .ok (.iload_n 3, 1) := by decide +kernel
theorem dL_law_365 : decode cL_law 365 = .ok (.iconst 1, 1) := by decide +kernel
theorem dL_law_366 : decode cL_law 366 = .ok (.iadd, 1) := by decide +kernel
theorem dL_law_367 : decode cL_law 367 = .ok (.iaload, 1) := by decide +kernel
theorem dL_law_368 : decode cL_law 368 = .ok (.invokevirtual 31, 3) := by decide +kernel
theorem dL_law_371 : decode cL_law 371 = .ok (.if_icmp .eq 1051, 3) := by decide +kernel
theorem dL_law_374 : decode cL_law 374 = .ok (.iconst 0, 1) := by decide +kernel
theorem dL_law_375 : decode cL_law 375 = .ok (.ireturn, 1) := by decide +kernel
theorem dL_law_376 : decode cL_law 376 = .ok (.aload_n 1, 1) := by decide +kernel
theorem dL_law_377 : decode cL_law 377 = .ok (.aload_n 0, 1) := by decide +kernel
theorem dL_law_378 : decode cL_law 378 = .ok (.iload_n 3, 1) := by decide +kernel
theorem dL_law_379 : decode cL_law 379 = .ok (.iconst 1, 1) := by decide +kernel
theorem dL_law_380 : decode cL_law 380 = .ok (.iadd, 1) := by decide +kernel
theorem dL_law_381 : decode cL_law 381 = .ok (.iaload, 1) := by decide +kernel
theorem dL_law_382 : decode cL_law 382 = .ok (.invokevirtual 32, 3) := by decide +kernel
theorem dL_law_385 : decode cL_law 385 = .ok (.aload_n 2, 1) := by decide +kernel
theorem dL_law_386 : decode cL_law 386 = .ok (.aload_n 0, 1) := by decide +kernel
theorem dL_law_387 : decode cL_law 387 = .ok (.iload_n 3, 1) := by decide +kernel
theorem dL_law_388 : decode cL_law 388 = .ok (.iconst 1, 1) := by decide +kernel
theorem dL_law_389 : decode cL_law 389 = .ok (.iadd, 1) := by decide +kernel
theorem dL_law_390 : decode cL_law 390 = .ok (.iaload, 1) := by decide +kernel
theorem dL_law_391 : decode cL_law 391 = .ok (.invokevirtual 35, 3) := by decide +kernel
theorem dL_law_394 : decode cL_law 394 = .ok (.if_icmp .eq 1028, 3) := by decide +kernel
theorem dL_law_397 : decode cL_law 397 = .ok (.iconst 0, 1) := by decide +kernel
theorem dL_law_398 : decode cL_law 398 = .ok (.ireturn, 1) := by decide +kernel
theorem dL_law_399 : decode cL_law 399 = .ok (.aload_n 1, 1) := by decide +kernel
theorem dL_law_400 : decode cL_law 400 = .ok (.invokevirtual 36, 3) := by decide +kernel
theorem dL_law_403 : decode cL_law 403 = .ok (.aload_n 2, 1) := by decide +kernel
theorem dL_law_404 : decode cL_law 404 = .ok (.invokevirtual 40, 3) := by decide +kernel
theorem dL_law_407 : decode cL_law 407 = .ok (.if_icmp .eq 1015, 3) := by decide +kernel
theorem dL_law_410 : decode cL_law 410 = .ok (.iconst 0, 1) := by decide +kernel
theorem dL_law_411 : decode cL_law 411 = .ok (.ireturn, 1) := by decide +kernel
theorem dL_law_412 : decode cL_law 412 = .ok (.aload_n 1, 1) := by decide +kernel
theorem dL_law_413 : decode cL_law 413 = .ok (.invokevirtual 41, 3) := by decide +kernel
theorem dL_law_416 : decode cL_law 416 = .ok (.aload_n 2, 1) := by decide +kernel
theorem dL_law_417 : decode cL_law 417 = .ok (.invokevirtual 44, 3) := by decide +kernel
theorem dL_law_420 : decode cL_law 420 = .ok (.if_icmp .eq 1002, 3) := by decide +kernel
theorem dL_law_423 : decode cL_law 423 = .ok (.iconst 0, 1) := by decide +kernel
theorem dL_law_424 : decode cL_law 424 = .ok (.ireturn, 1) := by decide +kernel
theorem dL_law_425 : decode cL_law 425 = .ok (.aload_n 1, 1) := by decide +kernel
theorem dL_law_426 : decode cL_law 426 = .ok (.invokevirtual 45, 3) := by decide +kernel
theorem dL_law_429 : decode cL_law 429 = .ok (.aload_n 2, 1) := by decide +kernel
theorem dL_law_430 : decode cL_law 430 = .ok (.invokevirtual 48, 3) := by decide +kernel
theorem dL_law_433 : decode cL_law 433 = .ok (.if_icmp .eq 989, 3) := by decide +kernel
theorem dL_law_436 : decode cL_law 436 = .ok (.iconst 0, 1) := by decide +kernel
theorem dL_law_437 : decode cL_law 437 = .ok (.ireturn, 1) := by decide +kernel
theorem dL_law_438 : decode cL_law 438 = .ok (.aload_n 1, 1) := by decide +kernel
theorem dL_law_439 : decode cL_law 439 = .ok (.aload_n 0, 1) := by decide +kernel
theorem dL_law_440 : decode cL_law 440 = .ok (.iload_n 3, 1) := by decide +kernel
theorem dL_law_441 : decode cL_law 441 = .ok (.iconst 1, 1) := by decide +kernel
theorem dL_law_442 : decode cL_law 442 = .ok (.iadd, 1) := by decide +kernel
theorem dL_law_443 : decode cL_law 443 = .ok (.iaload, 1) := by decide +kernel
theorem dL_law_444 : decode cL_law 444 = .ok (.invokevirtual 49, 3) := by decide +kernel
theorem dL_law_447 : decode cL_law 447 = .ok (.aload_n 2, 1) := by decide +kernel
theorem dL_law_448 : decode cL_law 448 = .ok (.aload_n 0, 1) := by decide +kernel
theorem dL_law_449 : decode cL_law 449 = .ok (.iload_n 3, 1) := by decide +kernel
theorem dL_law_450 : decode cL_law 450 = .ok (.iconst 1, 1) := by decide +kernel
theorem dL_law_451 : decode cL_law 451 = .ok (.iadd, 1) := by decide +kernel
theorem dL_law_452 : decode cL_law 452 = .ok (.iaload, 1) := by decide +kernel
theorem dL_law_453 : decode cL_law 453 = .ok (.invokevirtual 52, 3) := by decide +kernel
theorem dL_law_456 : decode cL_law 456 = .ok (.if_icmp .eq 966, 3) := by decide +kernel
theorem dL_law_459 : decode cL_law 459 = .ok (.iconst 0, 1) := by decide +kernel
theorem dL_law_460 : decode cL_law 460 = .ok (.ireturn, 1) := by decide +kernel
theorem dL_law_461 : decode cL_law 461 = .ok (.aload_n 1, 1) := by decide +kernel
theorem dL_law_462 : decode cL_law 462 = .ok (.aload_n 0, 1) := by decide +kernel
theorem dL_law_463 : decode cL_law 463 = .ok (.iload_n 3, 1) := by decide +kernel
theorem dL_law_464 : decode cL_law 464 = .ok (.iconst 1, 1) := by decide +kernel
theorem dL_law_465 : decode cL_law 465 = .ok (.iadd, 1) := by decide +kernel
theorem dL_law_466 : decode cL_law 466 = .ok (.iaload, 1) := by decide +kernel
theorem dL_law_467 : decode cL_law 467 = .ok (.invokevirtual 53, 3) := by decide +kernel
theorem dL_law_470 : decode cL_law 470 = .ok (.aload_n 2, 1) := by decide +kernel
theorem dL_law_471 : decode cL_law 471 = .ok (.aload_n 0, 1) := by decide +kernel
theorem dL_law_472 : decode cL_law 472 = .ok (.iload_n 3, 1) := by decide +kernel
theorem dL_law_473 : decode cL_law 473 = .ok (.iconst 1, 1) := by decide +kernel
theorem dL_law_474 : decode cL_law 474 = .ok (.iadd, 1) := by decide +kernel
theorem dL_law_475 : decode cL_law 475 = .ok (.iaload, 1) := by decide +kernel
theorem dL_law_476 : decode cL_law 476 = .ok (.invokevirtual 56, 3) := by decide +kernel
theorem dL_law_479 : decode cL_law 479 = .ok (.if_icmp .eq 943, 3) := by decide +kernel
theorem dL_law_482 : decode cL_law 482 = .ok (.iconst 0, 1) := by decide +kernel
theorem dL_law_483 : decode cL_law 483 = .ok (.ireturn, 1) := by decide +kernel
theorem dL_law_484 : decode cL_law 484 = .ok (.aload_n 1, 1) := by decide +kernel
theorem dL_law_485 : decode cL_law 485 = .ok (.aload_n 0, 1) := by decide +kernel
theorem dL_law_486 : decode cL_law 486 = .ok (.iload_n 3, 1) := by decide +kernel
theorem dL_law_487 : decode cL_law 487 = .ok (.iconst 1, 1) := by decide +kernel
theorem dL_law_488 : decode cL_law 488 = .ok (.iadd, 1) := by decide +kernel
theorem dL_law_489 : decode cL_law 489 = .ok (.iaload, 1) := by decide +kernel
theorem dL_law_490 : decode cL_law 490 = .ok (.aload_n 0, 1) := by decide +kernel
theorem dL_law_491 : decode cL_law 491 = .ok (.iload_n 3, 1) := by decide +kernel
theorem dL_law_492 : decode cL_law 492 = .ok (.iconst 2, 1) := by decide +kernel
theorem dL_law_493 : decode cL_law 493 = .ok (.iadd, 1) := by decide +kernel
theorem dL_law_494 : decode cL_law 494 = .ok (.iaload, 1) := by decide +kernel
theorem dL_law_495 : decode cL_law 495 = .ok (.invokevirtual 57, 3) := by decide +kernel
theorem dL_law_498 : decode cL_law 498 = .ok (.aload_n 2, 1) := by decide +kernel
theorem dL_law_499 : decode cL_law 499 = .ok (.aload_n 0, 1) := by decide +kernel
theorem dL_law_500 : decode cL_law 500 = .ok (.iload_n 3, 1) := by decide +kernel
theorem dL_law_501 : decode cL_law 501 = .ok (.iconst 1, 1) := by decide +kernel
theorem dL_law_502 : decode cL_law 502 = .ok (.iadd, 1) := by decide +kernel
theorem dL_law_503 : decode cL_law 503 = .ok (.iaload, 1) := by decide +kernel
theorem dL_law_504 : decode cL_law 504 = .ok (.aload_n 0, 1) := by decide +kernel
theorem dL_law_505 : decode cL_law 505 = .ok (.iload_n 3, 1) := by decide +kernel
theorem dL_law_506 : decode cL_law 506 = .ok (.iconst 2, 1) := by decide +kernel
theorem dL_law_507 : decode cL_law 507 = .ok (.iadd, 1) := by decide +kernel
theorem dL_law_508 : decode cL_law 508 = .ok (.iaload, 1) := by decide +kernel
theorem dL_law_509 : decode cL_law 509 = .ok (.invokevirtual 61, 3) := by decide +kernel
theorem dL_law_512 : decode cL_law 512 = .ok (.if_icmp .eq 910, 3) := by decide +kernel
theorem dL_law_515 : decode cL_law 515 = .ok (.iconst 0, 1) := by decide +kernel
theorem dL_law_516 : decode cL_law 516 = .ok (.ireturn, 1) := by decide +kernel
theorem dL_law_517 : decode cL_law 517 = .ok (.aload_n 1, 1) := by decide +kernel
theorem dL_law_518 : decode cL_law 518 = .ok (.aload_n 0, 1) := by decide +kernel
theorem dL_law_519 : decode cL_law 519 = .ok (.iload_n 3, 1) := by decide +kernel
theorem dL_law_520 : decode cL_law 520 = .ok (.iconst 1, 1) := by decide +kernel
theorem dL_law_521 : decode cL_law 521 = .ok (.iadd, 1) := by decide +kernel
theorem dL_law_522 : decode cL_law 522 = .ok (.iaload, 1) := by decide +kernel
theorem dL_law_523 : decode cL_law 523 = .ok (.invokevirtual 62, 3) := by decide +kernel
theorem dL_law_526 : decode cL_law 526 = .ok (.aload_n 2, 1) := by decide +kernel
theorem dL_law_527 : decode cL_law 527 = .ok (.aload_n 0, 1) := by decide +kernel
theorem dL_law_528 : decode cL_law 528 = .ok (.iload_n 3, 1) := by decide +kernel
theorem dL_law_529 : decode cL_law 529 = .ok (.iconst 1, 1) := by decide +kernel
theorem dL_law_530 : decode cL_law 530 = .ok (.iadd, 1) := by decide +kernel
theorem dL_law_531 : decode cL_law 531 = .ok (.iaload, 1) := by decide +kernel
theorem dL_law_532 : decode cL_law 532 = .ok (.invokevirtual 65, 3) := by decide +kernel
theorem dL_law_535 : decode cL_law 535 = .ok (.if_icmp .eq 887, 3) := by decide +kernel
theorem dL_law_538 : decode cL_law 538 = .ok (.iconst 0, 1) := by decide +kernel
theorem dL_law_539 : decode cL_law 539 = .ok (.ireturn, 1) := by decide +kernel
theorem dL_law_540 : decode cL_law 540 = .ok (.aload_n 1, 1) := by decide +kernel
theorem dL_law_541 : decode cL_law 541 = .ok (.aload_n 0, 1) := by decide +kernel
theorem dL_law_542 : decode cL_law 542 = .ok (.iload_n 3, 1) := by decide +kernel
theorem dL_law_543 : decode cL_law 543 = .ok (.iconst 1, 1) := by decide +kernel
theorem dL_law_544 : decode cL_law 544 = .ok (.iadd, 1) := by decide +kernel
theorem dL_law_545 : decode cL_law 545 = .ok (.iaload, 1) := by decide +kernel
theorem dL_law_546 : decode cL_law 546 = .ok (.invokevirtual 66, 3) := by decide +kernel
theorem dL_law_549 : decode cL_law 549 = .ok (.aload_n 2, 1) := by decide +kernel
theorem dL_law_550 : decode cL_law 550 = .ok (.aload_n 0, 1) := by decide +kernel
theorem dL_law_551 : decode cL_law 551 = .ok (.iload_n 3, 1) := by decide +kernel
theorem dL_law_552 : decode cL_law 552 = .ok (.iconst 1, 1) := by decide +kernel
theorem dL_law_553 : decode cL_law 553 = .ok (.iadd, 1) := by decide +kernel
theorem dL_law_554 : decode cL_law 554 = .ok (.iaload, 1) := by decide +kernel
theorem dL_law_555 : decode cL_law 555 = .ok (.invokevirtual 69, 3) := by decide +kernel
theorem dL_law_558 : decode cL_law 558 = .ok (.if_icmp .eq 864, 3) := by decide +kernel
theorem dL_law_561 : decode cL_law 561 = .ok (.iconst 0, 1) := by decide +kernel
theorem dL_law_562 : decode cL_law 562 = .ok (.ireturn, 1) := by decide +kernel
theorem dL_law_563 : decode cL_law 563 = .ok (.aload_n 1, 1) := by decide +kernel
theorem dL_law_564 : decode cL_law 564 = .ok (.aload_n 0, 1) := by decide +kernel
theorem dL_law_565 : decode cL_law 565 = .ok (.iload_n 3, 1) := by decide +kernel
theorem dL_law_566 : decode cL_law 566 = .ok (.iconst 1, 1) := by decide +kernel
theorem dL_law_567 : decode cL_law 567 = .ok (.iadd, 1) := by decide +kernel
theorem dL_law_568 : decode cL_law 568 = .ok (.iaload, 1) := by decide +kernel
theorem dL_law_569 : decode cL_law 569 = .ok (.aload_n 0, 1) := by decide +kernel
theorem dL_law_570 : decode cL_law 570 = .ok (.iload_n 3, 1) := by decide +kernel
theorem dL_law_571 : decode cL_law 571 = .ok (.iconst 2, 1) := by decide +kernel
theorem dL_law_572 : decode cL_law 572 = .ok (.iadd, 1) := by decide +kernel
theorem dL_law_573 : decode cL_law 573 = .ok (.iaload, 1) := by decide +kernel
theorem dL_law_574 : decode cL_law 574 = .ok (.invokevirtual 70, 3) := by decide +kernel
theorem dL_law_577 : decode cL_law 577 = .ok (.aload_n 2, 1) := by decide +kernel
theorem dL_law_578 : decode cL_law 578 = .ok (.aload_n 0, 1) := by decide +kernel
theorem dL_law_579 : decode cL_law 579 = .ok (.iload_n 3, 1) := by decide +kernel
theorem dL_law_580 : decode cL_law 580 = .ok (.iconst 1, 1) := by decide +kernel
theorem dL_law_581 : decode cL_law 581 = .ok (.iadd, 1) := by decide +kernel
theorem dL_law_582 : decode cL_law 582 = .ok (.iaload, 1) := by decide +kernel
theorem dL_law_583 : decode cL_law 583 = .ok (.aload_n 0, 1) := by decide +kernel
theorem dL_law_584 : decode cL_law 584 = .ok (.iload_n 3, 1) := by decide +kernel
theorem dL_law_585 : decode cL_law 585 = .ok (.iconst 2, 1) := by decide +kernel
theorem dL_law_586 : decode cL_law 586 = .ok (.iadd, 1) := by decide +kernel
theorem dL_law_587 : decode cL_law 587 = .ok (.iaload, 1) := by decide +kernel
theorem dL_law_588 : decode cL_law 588 = .ok (.invokevirtual 73, 3) := by decide +kernel
theorem dL_law_591 : decode cL_law 591 = .ok (.if_icmp .eq 831, 3) := by decide +kernel
theorem dL_law_594 : decode cL_law 594 = .ok (.iconst 0, 1) := by decide +kernel
theorem dL_law_595 : decode cL_law 595 = .ok (.ireturn, 1) := by decide +kernel
theorem dL_law_596 : decode cL_law 596 = .ok (.aload_n 1, 1) := by decide +kernel
theorem dL_law_597 : decode cL_law 597 = .ok (.aload_n 0, 1) := by decide +kernel
theorem dL_law_598 : decode cL_law 598 = .ok (.iload_n 3, 1) := by decide +kernel
theorem dL_law_599 : decode cL_law 599 = .ok (.iconst 1, 1) := by decide +kernel
theorem dL_law_600 : decode cL_law 600 = .ok (.iadd, 1) := by decide +kernel
theorem dL_law_601 : decode cL_law 601 = .ok (.iaload, 1) := by decide +kernel
theorem dL_law_602 : decode cL_law 602 = .ok (.aload_n 0, 1) := by decide +kernel
theorem dL_law_603 : decode cL_law 603 = .ok (.iload_n 3, 1) := by decide +kernel
theorem dL_law_604 : decode cL_law 604 = .ok (.iconst 2, 1) := by decide +kernel
theorem dL_law_605 : decode cL_law 605 = .ok (.iadd, 1) := by decide +kernel
theorem dL_law_606 : decode cL_law 606 = .ok (.iaload, 1) := by decide +kernel
theorem dL_law_607 : decode cL_law 607 = .ok (.invokevirtual 74, 3) := by decide +kernel
theorem dL_law_610 : decode cL_law 610 = .ok (.aload_n 2, 1) := by decide +kernel
theorem dL_law_611 : decode cL_law 611 = .ok (.aload_n 0, 1) := by decide +kernel
theorem dL_law_612 : decode cL_law 612 = .ok (.iload_n 3, 1) := by decide +kernel
theorem dL_law_613 : decode cL_law 613 = .ok (.iconst 1, 1) := by decide +kernel
theorem dL_law_614 : decode cL_law 614 = .ok (.iadd, 1) := by decide +kernel
theorem dL_law_615 : decode cL_law 615 = .ok (.iaload, 1) := by decide +kernel
theorem dL_law_616 : decode cL_law 616 = .ok (.aload_n 0, 1) := by decide +kernel
theorem dL_law_617 : decode cL_law 617 = .ok (.iload_n 3, 1) := by decide +kernel
theorem dL_law_618 : decode cL_law 618 = .ok (.iconst 2, 1) := by decide +kernel
theorem dL_law_619 : decode cL_law 619 = .ok (.iadd, 1) := by decide +kernel
theorem dL_law_620 : decode cL_law 620 = .ok (.iaload, 1) := by decide +kernel
theorem dL_law_621 : decode cL_law 621 = .ok (.invokevirtual 77, 3) := by decide +kernel
theorem dL_law_624 : decode cL_law 624 = .ok (.if_icmp .eq 798, 3) := by decide +kernel
theorem dL_law_627 : decode cL_law 627 = .ok (.iconst 0, 1) := by decide +kernel
theorem dL_law_628 : decode cL_law 628 = .ok (.ireturn, 1) := by decide +kernel
theorem dL_law_629 : decode cL_law 629 = .ok (.aload_n 1, 1) := by decide +kernel
theorem dL_law_630 : decode cL_law 630 = .ok (.aload_n 0, 1) := by decide +kernel
theorem dL_law_631 : decode cL_law 631 = .ok (.iload_n 3, 1) := by decide +kernel
theorem dL_law_632 : decode cL_law 632 = .ok (.iconst 1, 1) := by decide +kernel
theorem dL_law_633 : decode cL_law 633 = .ok (.iadd, 1) := by decide +kernel
theorem dL_law_634 : decode cL_law 634 = .ok (.iaload, 1) := by decide +kernel
theorem dL_law_635 : decode cL_law 635 = .ok (.invokevirtual 78, 3) := by decide +kernel
theorem dL_law_638 : decode cL_law 638 = .ok (.aload_n 2, 1) := by decide +kernel
theorem dL_law_639 : decode cL_law 639 = .ok (.aload_n 0, 1) := by decide +kernel
theorem dL_law_640 : decode cL_law 640 = .ok (.iload_n 3, 1) := by decide +kernel
theorem dL_law_641 : decode cL_law 641 = .ok (.iconst 1, 1) := by decide +kernel
theorem dL_law_642 : decode cL_law 642 = .ok (.iadd, 1) := by decide +kernel
theorem dL_law_643 : decode cL_law 643 = .ok (.iaload, 1) := by decide +kernel
theorem dL_law_644 : decode cL_law 644 = .ok (.invokevirtual 81, 3) := by decide +kernel
theorem dL_law_647 : decode cL_law 647 = .ok (.if_icmp .eq 775, 3) := by decide +kernel
theorem dL_law_650 : decode cL_law 650 = .ok (.iconst 0, 1) := by decide +kernel
theorem dL_law_651 : decode cL_law 651 = .ok (.ireturn, 1) := by decide +kernel
theorem dL_law_652 : decode cL_law 652 = .ok (.aload_n 1, 1) := by decide +kernel
theorem dL_law_653 : decode cL_law 653 = .ok (.aload_n 0, 1) := by decide +kernel
theorem dL_law_654 : decode cL_law 654 = .ok (.iload_n 3, 1) := by decide +kernel
theorem dL_law_655 : decode cL_law 655 = .ok (.iconst 1, 1) := by decide +kernel
theorem dL_law_656 : decode cL_law 656 = .ok (.iadd, 1) := by decide +kernel
theorem dL_law_657 : decode cL_law 657 = .ok (.iaload, 1) := by decide +kernel
theorem dL_law_658 : decode cL_law 658 = .ok (.aload_n 0, 1) := by decide +kernel
theorem dL_law_659 : decode cL_law 659 = .ok (.iload_n 3, 1) := by decide +kernel
theorem dL_law_660 : decode cL_law 660 = .ok (.iconst 2, 1) := by decide +kernel
theorem dL_law_661 : decode cL_law 661 = .ok (.iadd, 1) := by decide +kernel
theorem dL_law_662 : decode cL_law 662 = .ok (.iaload, 1) := by decide +kernel
theorem dL_law_663 : decode cL_law 663 = .ok (.invokevirtual 82, 3) := by decide +kernel
theorem dL_law_666 : decode cL_law 666 = .ok (.aload_n 2, 1) := by decide +kernel
theorem dL_law_667 : decode cL_law 667 = .ok (.aload_n 0, 1) := by decide +kernel
theorem dL_law_668 : decode cL_law 668 = .ok (.iload_n 3, 1) := by decide +kernel
theorem dL_law_669 : decode cL_law 669 = .ok (.iconst 1, 1) := by decide +kernel
theorem dL_law_670 : decode cL_law 670 = .ok (.iadd, 1) := by decide +kernel
theorem dL_law_671 : decode cL_law 671 = .ok (.iaload, 1) := by decide +kernel
theorem dL_law_672 : decode cL_law 672 = .ok (.aload_n 0, 1) := by decide +kernel
theorem dL_law_673 : decode cL_law 673 = .ok (.iload_n 3, 1) := by decide +kernel
theorem dL_law_674 : decode cL_law 674 = .ok (.iconst 2, 1) := by decide +kernel
theorem dL_law_675 : decode cL_law 675 = .ok (.iadd, 1) := by decide +kernel
theorem dL_law_676 : decode cL_law 676 = .ok (.iaload, 1) := by decide +kernel
theorem dL_law_677 : decode cL_law 677 = .ok (.invokevirtual 85, 3) := by decide +kernel
theorem dL_law_680 : decode cL_law 680 = .ok (.if_icmp .eq 742, 3) := by decide +kernel
theorem dL_law_683 : decode cL_law 683 = .ok (.iconst 0, 1) := by decide +kernel
theorem dL_law_684 : decode cL_law 684 = .ok (.ireturn, 1) := by decide +kernel
theorem dL_law_685 : decode cL_law 685 = .ok (.aload_n 1, 1) := by decide +kernel
theorem dL_law_686 : decode cL_law 686 = .ok (.aload_n 0, 1) := by decide +kernel
theorem dL_law_687 : decode cL_law 687 = .ok (.iload_n 3, 1) := by decide +kernel
theorem dL_law_688 : decode cL_law 688 = .ok (.iconst 1, 1) := by decide +kernel
theorem dL_law_689 : decode cL_law 689 = .ok (.iadd, 1) := by decide +kernel
theorem dL_law_690 : decode cL_law 690 = .ok (.iaload, 1) := by decide +kernel
theorem dL_law_691 : decode cL_law 691 = .ok (.invokevirtual 86, 3) := by decide +kernel
theorem dL_law_694 : decode cL_law 694 = .ok (.aload_n 2, 1) := by decide +kernel
theorem dL_law_695 : decode cL_law 695 = .ok (.aload_n 0, 1) := by decide +kernel
theorem dL_law_696 : decode cL_law 696 = .ok (.iload_n 3, 1) := by decide +kernel
theorem dL_law_697 : decode cL_law 697 = .ok (.iconst 1, 1) := by decide +kernel
theorem dL_law_698 : decode cL_law 698 = .ok (.iadd, 1) := by decide +kernel
theorem dL_law_699 : decode cL_law 699 = .ok (.iaload, 1) := by decide +kernel
theorem dL_law_700 : decode cL_law 700 = .ok (.invokevirtual 89, 3) := by decide +kernel
theorem dL_law_703 : decode cL_law 703 = .ok (.if_icmp .eq 719, 3) := by decide +kernel
theorem dL_law_706 : decode cL_law 706 = .ok (.iconst 0, 1) := by decide +kernel
theorem dL_law_707 : decode cL_law 707 = .ok (.ireturn, 1) := by decide +kernel
theorem dL_law_708 : decode cL_law 708 = .ok (.aload_n 1, 1) := by decide +kernel
theorem dL_law_709 : decode cL_law 709 = .ok (.aload_n 0, 1) := by decide +kernel
theorem dL_law_710 : decode cL_law 710 = .ok (.iload_n 3, 1) := by decide +kernel
theorem dL_law_711 : decode cL_law 711 = .ok (.iconst 1, 1) := by decide +kernel
theorem dL_law_712 : decode cL_law 712 = .ok (.iadd, 1) := by decide +kernel
theorem dL_law_713 : decode cL_law 713 = .ok (.iaload, 1) := by decide +kernel
theorem dL_law_714 : decode cL_law 714 = .ok (.aload_n 0, 1) := by decide +kernel
theorem dL_law_715 : decode cL_law 715 = .ok (.iload_n 3, 1) := by decide +kernel
theorem dL_law_716 : decode cL_law 716 = .ok (.iconst 2, 1) := by decide +kernel
theorem dL_law_717 : decode cL_law 717 = .ok (.iadd, 1) := by decide +kernel
theorem dL_law_718 : decode cL_law 718 = .ok (.iaload, 1) := by decide +kernel
theorem dL_law_719 : decode cL_law 719 = .ok (.invokevirtual 90, 3) := by decide +kernel
theorem dL_law_722 : decode cL_law 722 = .ok (.aload_n 2, 1) := by decide +kernel
theorem dL_law_723 : decode cL_law 723 = .ok (.aload_n 0, 1) := by decide +kernel
theorem dL_law_724 : decode cL_law 724 = .ok (.iload_n 3, 1) := by decide +kernel
theorem dL_law_725 : decode cL_law 725 = .ok (.iconst 1, 1) := by decide +kernel
theorem dL_law_726 : decode cL_law 726 = .ok (.iadd, 1) := by decide +kernel
theorem dL_law_727 : decode cL_law 727 = .ok (.iaload, 1) := by decide +kernel
theorem dL_law_728 : decode cL_law 728 = .ok (.aload_n 0, 1) := by decide +kernel
theorem dL_law_729 : decode cL_law 729 = .ok (.iload_n 3, 1) := by decide +kernel
theorem dL_law_730 : decode cL_law 730 = .ok (.iconst 2, 1) := by decide +kernel
theorem dL_law_731 : decode cL_law 731 = .ok (.iadd, 1) := by decide +kernel
theorem dL_law_732 : decode cL_law 732 = .ok (.iaload, 1) := by decide +kernel
theorem dL_law_733 : decode cL_law 733 = .ok (.invokevirtual 93, 3) := by decide +kernel
theorem dL_law_736 : decode cL_law 736 = .ok (.if_icmp .eq 686, 3) := by decide +kernel
theorem dL_law_739 : decode cL_law 739 = .ok (.iconst 0, 1) := by decide +kernel
theorem dL_law_740 : decode cL_law 740 = .ok (.ireturn, 1) := by decide +kernel
theorem dL_law_741 : decode cL_law 741 = .ok (.aload_n 1, 1) := by decide +kernel
theorem dL_law_742 : decode cL_law 742 = .ok (.aload_n 0, 1) := by decide +kernel
theorem dL_law_743 : decode cL_law 743 = .ok (.iload_n 3, 1) := by decide +kernel
theorem dL_law_744 : decode cL_law 744 = .ok (.iconst 1, 1) := by decide +kernel
theorem dL_law_745 : decode cL_law 745 = .ok (.iadd, 1) := by decide +kernel
theorem dL_law_746 : decode cL_law 746 = .ok (.iaload, 1) := by decide +kernel
theorem dL_law_747 : decode cL_law 747 = .ok (.invokevirtual 94, 3) := by decide +kernel
theorem dL_law_750 : decode cL_law 750 = .ok (.aload_n 2, 1) := by decide +kernel
theorem dL_law_751 : decode cL_law 751 = .ok (.aload_n 0, 1) := by decide +kernel
theorem dL_law_752 : decode cL_law 752 = .ok (.iload_n 3, 1) := by decide +kernel
theorem dL_law_753 : decode cL_law 753 = .ok (.iconst 1, 1) := by decide +kernel
theorem dL_law_754 : decode cL_law 754 = .ok (.iadd, 1) := by decide +kernel
theorem dL_law_755 : decode cL_law 755 = .ok (.iaload, 1) := by decide +kernel
theorem dL_law_756 : decode cL_law 756 = .ok (.invokevirtual 97, 3) := by decide +kernel
theorem dL_law_759 : decode cL_law 759 = .ok (.if_icmp .eq 663, 3) := by decide +kernel
theorem dL_law_762 : decode cL_law 762 = .ok (.iconst 0, 1) := by decide +kernel
theorem dL_law_763 : decode cL_law 763 = .ok (.ireturn, 1) := by decide +kernel
theorem dL_law_764 : decode cL_law 764 = .ok (.aload_n 1, 1) := by decide +kernel
theorem dL_law_765 : decode cL_law 765 = .ok (.aload_n 0, 1) := by decide +kernel
theorem dL_law_766 : decode cL_law 766 = .ok (.iload_n 3, 1) := by decide +kernel
theorem dL_law_767 : decode cL_law 767 = .ok (.iconst 1, 1) := by decide +kernel
theorem dL_law_768 : decode cL_law 768 = .ok (.iadd, 1) := by decide +kernel
theorem dL_law_769 : decode cL_law 769 = .ok (.iaload, 1) := by decide +kernel
theorem dL_law_770 : decode cL_law 770 = .ok (.invokevirtual 98, 3) := by decide +kernel
theorem dL_law_773 : decode cL_law 773 = .ok (.aload_n 2, 1) := by decide +kernel
theorem dL_law_774 : decode cL_law 774 = .ok (.aload_n 0, 1) := by decide +kernel
theorem dL_law_775 : decode cL_law 775 = .ok (.iload_n 3, 1) := by decide +kernel
theorem dL_law_776 : decode cL_law 776 = .ok (.iconst 1, 1) := by decide +kernel
theorem dL_law_777 : decode cL_law 777 = .ok (.iadd, 1) := by decide +kernel
theorem dL_law_778 : decode cL_law 778 = .ok (.iaload, 1) := by decide +kernel
theorem dL_law_779 : decode cL_law 779 = .ok (.invokevirtual 101, 3) := by decide +kernel
theorem dL_law_782 : decode cL_law 782 = .ok (.if_icmp .eq 640, 3) := by decide +kernel
theorem dL_law_785 : decode cL_law 785 = .ok (.iconst 0, 1) := by decide +kernel
theorem dL_law_786 : decode cL_law 786 = .ok (.ireturn, 1) := by decide +kernel
theorem dL_law_787 : decode cL_law 787 = .ok (.aload_n 1, 1) := by decide +kernel
theorem dL_law_788 : decode cL_law 788 = .ok (.aload_n 0, 1) := by decide +kernel
theorem dL_law_789 : decode cL_law 789 = .ok (.iload_n 3, 1) := by decide +kernel
theorem dL_law_790 : decode cL_law 790 = .ok (.iconst 1, 1) := by decide +kernel
theorem dL_law_791 : decode cL_law 791 = .ok (.iadd, 1) := by decide +kernel
theorem dL_law_792 : decode cL_law 792 = .ok (.iaload, 1) := by decide +kernel
theorem dL_law_793 : decode cL_law 793 = .ok (.invokevirtual 102, 3) := by decide +kernel
theorem dL_law_796 : decode cL_law 796 = .ok (.aload_n 2, 1) := by decide +kernel
theorem dL_law_797 : decode cL_law 797 = .ok (.aload_n 0, 1) := by decide +kernel
theorem dL_law_798 : decode cL_law 798 = .ok (.iload_n 3, 1) := by decide +kernel
theorem dL_law_799 : decode cL_law 799 = .ok (.iconst 1, 1) := by decide +kernel
theorem dL_law_800 : decode cL_law 800 = .ok (.iadd, 1) := by decide +kernel
theorem dL_law_801 : decode cL_law 801 = .ok (.iaload, 1) := by decide +kernel
theorem dL_law_802 : decode cL_law 802 = .ok (.invokevirtual 105, 3) := by decide +kernel
theorem dL_law_805 : decode cL_law 805 = .ok (.if_icmp .eq 617, 3) := by decide +kernel
theorem dL_law_808 : decode cL_law 808 = .ok (.iconst 0, 1) := by decide +kernel
theorem dL_law_809 : decode cL_law 809 = .ok (.ireturn, 1) := by decide +kernel
theorem dL_law_810 : decode cL_law 810 = .ok (.aload_n 1, 1) := by decide +kernel
theorem dL_law_811 : decode cL_law 811 = .ok (.aload_n 0, 1) := by decide +kernel
theorem dL_law_812 : decode cL_law 812 = .ok (.iload_n 3, 1) := by decide +kernel
theorem dL_law_813 : decode cL_law 813 = .ok (.iconst 1, 1) := by decide +kernel
theorem dL_law_814 : decode cL_law 814 = .ok (.iadd, 1) := by decide +kernel
theorem dL_law_815 : decode cL_law 815 = .ok (.iaload, 1) := by decide +kernel
theorem dL_law_816 : decode cL_law 816 = .ok (.invokevirtual 106, 3) := by decide +kernel
theorem dL_law_819 : decode cL_law 819 = .ok (.aload_n 2, 1) := by decide +kernel
theorem dL_law_820 : decode cL_law 820 = .ok (.aload_n 0, 1) := by decide +kernel
theorem dL_law_821 : decode cL_law 821 = .ok (.iload_n 3, 1) := by decide +kernel
theorem dL_law_822 : decode cL_law 822 = .ok (.iconst 1, 1) := by decide +kernel
theorem dL_law_823 : decode cL_law 823 = .ok (.iadd, 1) := by decide +kernel
theorem dL_law_824 : decode cL_law 824 = .ok (.iaload, 1) := by decide +kernel
theorem dL_law_825 : decode cL_law 825 = .ok (.invokevirtual 109, 3) := by decide +kernel
theorem dL_law_828 : decode cL_law 828 = .ok (.if_icmp .eq 594, 3) := by decide +kernel
theorem dL_law_831 : decode cL_law 831 = .ok (.iconst 0, 1) := by decide +kernel
theorem dL_law_832 : decode cL_law 832 = .ok (.ireturn, 1) := by decide +kernel
theorem dL_law_833 : decode cL_law 833 = .ok (.aload_n 1, 1) := by decide +kernel
theorem dL_law_834 : decode cL_law 834 = .ok (.invokevirtual 110, 3) := by decide +kernel
theorem dL_law_837 : decode cL_law 837 = .ok (.aload_n 2, 1) := by decide +kernel
theorem dL_law_838 : decode cL_law 838 = .ok (.invokevirtual 113, 3) := by decide +kernel
theorem dL_law_841 : decode cL_law 841 = .ok (.if_icmp .eq 581, 3) := by decide +kernel
theorem dL_law_844 : decode cL_law 844 = .ok (.iconst 0, 1) := by decide +kernel
theorem dL_law_845 : decode cL_law 845 = .ok (.ireturn, 1) := by decide +kernel
theorem dL_law_846 : decode cL_law 846 = .ok (.aload_n 1, 1) := by decide +kernel
theorem dL_law_847 : decode cL_law 847 = .ok (.aload_n 0, 1) := by decide +kernel
theorem dL_law_848 : decode cL_law 848 = .ok (.iload_n 3, 1) := by decide +kernel
theorem dL_law_849 : decode cL_law 849 = .ok (.iconst 1, 1) := by decide +kernel
theorem dL_law_850 : decode cL_law 850 = .ok (.iadd, 1) := by decide +kernel
theorem dL_law_851 : decode cL_law 851 = .ok (.iaload, 1) := by decide +kernel
theorem dL_law_852 : decode cL_law 852 = .ok (.aload_n 0, 1) := by decide +kernel
theorem dL_law_853 : decode cL_law 853 = .ok (.iload_n 3, 1) := by decide +kernel
theorem dL_law_854 : decode cL_law 854 = .ok (.iconst 2, 1) := by decide +kernel
theorem dL_law_855 : decode cL_law 855 = .ok (.iadd, 1) := by decide +kernel
theorem dL_law_856 : decode cL_law 856 = .ok (.iaload, 1) := by decide +kernel
theorem dL_law_857 : decode cL_law 857 = .ok (.aload_n 0, 1) := by decide +kernel
theorem dL_law_858 : decode cL_law 858 = .ok (.iload_n 3, 1) := by decide +kernel
theorem dL_law_859 : decode cL_law 859 = .ok (.iconst 3, 1) := by decide +kernel
theorem dL_law_860 : decode cL_law 860 = .ok (.iadd, 1) := by decide +kernel
theorem dL_law_861 : decode cL_law 861 = .ok (.iaload, 1) := by decide +kernel
theorem dL_law_862 : decode cL_law 862 = .ok (.aload_n 0, 1) := by decide +kernel
theorem dL_law_863 : decode cL_law 863 = .ok (.iload_n 3, 1) := by decide +kernel
theorem dL_law_864 : decode cL_law 864 = .ok (.iconst 4, 1) := by decide +kernel
theorem dL_law_865 : decode cL_law 865 = .ok (.iadd, 1) := by decide +kernel
theorem dL_law_866 : decode cL_law 866 = .ok (.iaload, 1) := by decide +kernel
theorem dL_law_867 : decode cL_law 867 = .ok (.invokevirtual 114, 3) := by decide +kernel
theorem dL_law_870 : decode cL_law 870 = .ok (.aload_n 2, 1) := by decide +kernel
theorem dL_law_871 : decode cL_law 871 = .ok (.aload_n 0, 1) := by decide +kernel
theorem dL_law_872 : decode cL_law 872 = .ok (.iload_n 3, 1) := by decide +kernel
theorem dL_law_873 : decode cL_law 873 = .ok (.iconst 1, 1) := by decide +kernel
theorem dL_law_874 : decode cL_law 874 = .ok (.iadd, 1) := by decide +kernel
theorem dL_law_875 : decode cL_law 875 = .ok (.iaload, 1) := by decide +kernel
theorem dL_law_876 : decode cL_law 876 = .ok (.aload_n 0, 1) := by decide +kernel
theorem dL_law_877 : decode cL_law 877 = .ok (.iload_n 3, 1) := by decide +kernel
theorem dL_law_878 : decode cL_law 878 = .ok (.iconst 2, 1) := by decide +kernel
theorem dL_law_879 : decode cL_law 879 = .ok (.iadd, 1) := by decide +kernel
theorem dL_law_880 : decode cL_law 880 = .ok (.iaload, 1) := by decide +kernel
theorem dL_law_881 : decode cL_law 881 = .ok (.aload_n 0, 1) := by decide +kernel
theorem dL_law_882 : decode cL_law 882 = .ok (.iload_n 3, 1) := by decide +kernel
theorem dL_law_883 : decode cL_law 883 = .ok (.iconst 3, 1) := by decide +kernel
theorem dL_law_884 : decode cL_law 884 = .ok (.iadd, 1) := by decide +kernel
theorem dL_law_885 : decode cL_law 885 = .ok (.iaload, 1) := by decide +kernel
theorem dL_law_886 : decode cL_law 886 = .ok (.aload_n 0, 1) := by decide +kernel
theorem dL_law_887 : decode cL_law 887 = .ok (.iload_n 3, 1) := by decide +kernel
theorem dL_law_888 : decode cL_law 888 = .ok (.iconst 4, 1) := by decide +kernel
theorem dL_law_889 : decode cL_law 889 = .ok (.iadd, 1) := by decide +kernel
theorem dL_law_890 : decode cL_law 890 = .ok (.iaload, 1) := by decide +kernel
theorem dL_law_891 : decode cL_law 891 = .ok (.invokevirtual 118, 3) := by decide +kernel
theorem dL_law_894 : decode cL_law 894 = .ok (.if_icmp .eq 528, 3) := by decide +kernel
theorem dL_law_897 : decode cL_law 897 = .ok (.iconst 0, 1) := by decide +kernel
theorem dL_law_898 : decode cL_law 898 = .ok (.ireturn, 1) := by decide +kernel
theorem dL_law_899 : decode cL_law 899 = .ok (.aload_n 1, 1) := by decide +kernel
theorem dL_law_900 : decode cL_law 900 = .ok (.aload_n 0, 1) := by decide +kernel
theorem dL_law_901 : decode cL_law 901 = .ok (.iload_n 3, 1) := by decide +kernel
theorem dL_law_902 : decode cL_law 902 = .ok (.iconst 1, 1) := by decide +kernel
theorem dL_law_903 : decode cL_law 903 = .ok (.iadd, 1) := by decide +kernel
theorem dL_law_904 : decode cL_law 904 = .ok (.iaload, 1) := by decide +kernel
theorem dL_law_905 : decode cL_law 905 = .ok (.aload_n 0, 1) := by decide +kernel
theorem dL_law_906 : decode cL_law 906 = .ok (.iload_n 3, 1) := by decide +kernel
theorem dL_law_907 : decode cL_law 907 = .ok (.iconst 2, 1) := by decide +kernel
theorem dL_law_908 : decode cL_law 908 = .ok (.iadd, 1) := by decide +kernel
theorem dL_law_909 : decode cL_law 909 = .ok (.iaload, 1) := by decide +kernel
theorem dL_law_910 : decode cL_law 910 = .ok (.invokevirtual 119, 3) := by decide +kernel
theorem dL_law_913 : decode cL_law 913 = .ok (.aload_n 2, 1) := by decide +kernel
theorem dL_law_914 : decode cL_law 914 = .ok (.aload_n 0, 1) := by decide +kernel
theorem dL_law_915 : decode cL_law 915 = .ok (.iload_n 3, 1) := by decide +kernel
theorem dL_law_916 : decode cL_law 916 = .ok (.iconst 1, 1) := by decide +kernel
theorem dL_law_917 : decode cL_law 917 = .ok (.iadd, 1) := by decide +kernel
theorem dL_law_918 : decode cL_law 918 = .ok (.iaload, 1) := by decide +kernel
theorem dL_law_919 : decode cL_law 919 = .ok (.aload_n 0, 1) := by decide +kernel
theorem dL_law_920 : decode cL_law 920 = .ok (.iload_n 3, 1) := by decide +kernel
theorem dL_law_921 : decode cL_law 921 = .ok (.iconst 2, 1) := by decide +kernel
theorem dL_law_922 : decode cL_law 922 = .ok (.iadd, 1) := by decide +kernel
theorem dL_law_923 : decode cL_law 923 = .ok (.iaload, 1) := by decide +kernel
theorem dL_law_924 : decode cL_law 924 = .ok (.invokevirtual 122, 3) := by decide +kernel
theorem dL_law_927 : decode cL_law 927 = .ok (.if_icmp .eq 495, 3) := by decide +kernel
theorem dL_law_930 : decode cL_law 930 = .ok (.iconst 0, 1) := by decide +kernel
theorem dL_law_931 : decode cL_law 931 = .ok (.ireturn, 1) := by decide +kernel
theorem dL_law_932 : decode cL_law 932 = .ok (.aload_n 1, 1) := by decide +kernel
theorem dL_law_933 : decode cL_law 933 = .ok (.aload_n 0, 1) := by decide +kernel
theorem dL_law_934 : decode cL_law 934 = .ok (.iload_n 3, 1) := by decide +kernel
theorem dL_law_935 : decode cL_law 935 = .ok (.iconst 1, 1) := by decide +kernel
theorem dL_law_936 : decode cL_law 936 = .ok (.iadd, 1) := by decide +kernel
theorem dL_law_937 : decode cL_law 937 = .ok (.iaload, 1) := by decide +kernel
theorem dL_law_938 : decode cL_law 938 = .ok (.aload_n 0, 1) := by decide +kernel
theorem dL_law_939 : decode cL_law 939 = .ok (.iload_n 3, 1) := by decide +kernel
theorem dL_law_940 : decode cL_law 940 = .ok (.iconst 2, 1) := by decide +kernel
theorem dL_law_941 : decode cL_law 941 = .ok (.iadd, 1) := by decide +kernel
theorem dL_law_942 : decode cL_law 942 = .ok (.iaload, 1) := by decide +kernel
theorem dL_law_943 : decode cL_law 943 = .ok (.aload_n 0, 1) := by decide +kernel
theorem dL_law_944 : decode cL_law 944 = .ok (.iload_n 3, 1) := by decide +kernel
theorem dL_law_945 : decode cL_law 945 = .ok (.iconst 3, 1) := by decide +kernel
theorem dL_law_946 : decode cL_law 946 = .ok (.iadd, 1) := by decide +kernel
theorem dL_law_947 : decode cL_law 947 = .ok (.iaload, 1) := by decide +kernel
theorem dL_law_948 : decode cL_law 948 = .ok (.aload_n 0, 1) := by decide +kernel
theorem dL_law_949 : decode cL_law 949 = .ok (.iload_n 3, 1) := by decide +kernel
theorem dL_law_950 : decode cL_law 950 = .ok (.iconst 4, 1) := by decide +kernel
theorem dL_law_951 : decode cL_law 951 = .ok (.iadd, 1) := by decide +kernel
theorem dL_law_952 : decode cL_law 952 = .ok (.iaload, 1) := by decide +kernel
theorem dL_law_953 : decode cL_law 953 = .ok (.aload_n 0, 1) := by decide +kernel
theorem dL_law_954 : decode cL_law 954 = .ok (.iload_n 3, 1) := by decide +kernel
theorem dL_law_955 : decode cL_law 955 = .ok (.iconst 5, 1) := by decide +kernel
theorem dL_law_956 : decode cL_law 956 = .ok (.iadd, 1) := by decide +kernel
theorem dL_law_957 : decode cL_law 957 = .ok (.iaload, 1) := by decide +kernel
theorem dL_law_958 : decode cL_law 958 = .ok (.invokevirtual 123, 3) := by decide +kernel
theorem dL_law_961 : decode cL_law 961 = .ok (.aload_n 2, 1) := by decide +kernel
theorem dL_law_962 : decode cL_law 962 = .ok (.aload_n 0, 1) := by decide +kernel
theorem dL_law_963 : decode cL_law 963 = .ok (.iload_n 3, 1) := by decide +kernel
theorem dL_law_964 : decode cL_law 964 = .ok (.iconst 1, 1) := by decide +kernel
theorem dL_law_965 : decode cL_law 965 = .ok (.iadd, 1) := by decide +kernel
theorem dL_law_966 : decode cL_law 966 = .ok (.iaload, 1) := by decide +kernel
theorem dL_law_967 : decode cL_law 967 = .ok (.aload_n 0, 1) := by decide +kernel
theorem dL_law_968 : decode cL_law 968 = .ok (.iload_n 3, 1) := by decide +kernel
theorem dL_law_969 : decode cL_law 969 = .ok (.iconst 2, 1) := by decide +kernel
theorem dL_law_970 : decode cL_law 970 = .ok (.iadd, 1) := by decide +kernel
theorem dL_law_971 : decode cL_law 971 = .ok (.iaload, 1) := by decide +kernel
theorem dL_law_972 : decode cL_law 972 = .ok (.aload_n 0, 1) := by decide +kernel
theorem dL_law_973 : decode cL_law 973 = .ok (.iload_n 3, 1) := by decide +kernel
theorem dL_law_974 : decode cL_law 974 = .ok (.iconst 3, 1) := by decide +kernel
theorem dL_law_975 : decode cL_law 975 = .ok (.iadd, 1) := by decide +kernel
theorem dL_law_976 : decode cL_law 976 = .ok (.iaload, 1) := by decide +kernel
theorem dL_law_977 : decode cL_law 977 = .ok (.aload_n 0, 1) := by decide +kernel
theorem dL_law_978 : decode cL_law 978 = .ok (.iload_n 3, 1) := by decide +kernel
theorem dL_law_979 : decode cL_law 979 = .ok (.iconst 4, 1) := by decide +kernel
theorem dL_law_980 : decode cL_law 980 = .ok (.iadd, 1) := by decide +kernel
theorem dL_law_981 : decode cL_law 981 = .ok (.iaload, 1) := by decide +kernel
theorem dL_law_982 : decode cL_law 982 = .ok (.aload_n 0, 1) := by decide +kernel
theorem dL_law_983 : decode cL_law 983 = .ok (.iload_n 3, 1) := by decide +kernel
theorem dL_law_984 : decode cL_law 984 = .ok (.iconst 5, 1) := by decide +kernel
theorem dL_law_985 : decode cL_law 985 = .ok (.iadd, 1) := by decide +kernel
theorem dL_law_986 : decode cL_law 986 = .ok (.iaload, 1) := by decide +kernel
theorem dL_law_987 : decode cL_law 987 = .ok (.invokevirtual 126, 3) := by decide +kernel
theorem dL_law_990 : decode cL_law 990 = .ok (.if_icmp .eq 432, 3) := by decide +kernel
theorem dL_law_993 : decode cL_law 993 = .ok (.iconst 0, 1) := by decide +kernel
theorem dL_law_994 : decode cL_law 994 = .ok (.ireturn, 1) := by decide +kernel
theorem dL_law_995 : decode cL_law 995 = .ok (.aload_n 1, 1) := by decide +kernel
theorem dL_law_996 : decode cL_law 996 = .ok (.aload_n 0, 1) := by decide +kernel
theorem dL_law_997 : decode cL_law 997 = .ok (.iload_n 3, 1) := by decide +kernel
theorem dL_law_998 : decode cL_law 998 = .ok (.iconst 1, 1) := by decide +kernel
theorem dL_law_999 : decode cL_law 999 = .ok (.iadd, 1) := by decide +kernel
theorem dL_law_1000 : decode cL_law 1000 = .ok (.iaload, 1) := by decide +kernel
theorem dL_law_1001 : decode cL_law 1001 = .ok (.aload_n 0, 1) := by decide +kernel
theorem dL_law_1002 : decode cL_law 1002 = .ok (.iload_n 3, 1) := by decide +kernel
theorem dL_law_1003 : decode cL_law 1003 = .ok (.iconst 2, 1) := by decide +kernel
theorem dL_law_1004 : decode cL_law 1004 = .ok (.iadd, 1) := by decide +kernel
theorem dL_law_1005 : decode cL_law 1005 = .ok (.iaload, 1) := by decide +kernel
theorem dL_law_1006 : decode cL_law 1006 = .ok (.aload_n 0, 1) := by decide +kernel
theorem dL_law_1007 : decode cL_law 1007 = .ok (.iload_n 3, 1) := by decide +kernel
theorem dL_law_1008 : decode cL_law 1008 = .ok (.iconst 3, 1) := by decide +kernel
theorem dL_law_1009 : decode cL_law 1009 = .ok (.iadd, 1) := by decide +kernel
theorem dL_law_1010 : decode cL_law 1010 = .ok (.iaload, 1) := by decide +kernel
theorem dL_law_1011 : decode cL_law 1011 = .ok (.aload_n 0, 1) := by decide +kernel
theorem dL_law_1012 : decode cL_law 1012 = .ok (.iload_n 3, 1) := by decide +kernel
theorem dL_law_1013 : decode cL_law 1013 = .ok (.iconst 4, 1) := by decide +kernel
theorem dL_law_1014 : decode cL_law 1014 = .ok (.iadd, 1) := by decide +kernel
theorem dL_law_1015 : decode cL_law 1015 = .ok (.iaload, 1) := by decide +kernel
theorem dL_law_1016 : decode cL_law 1016 = .ok (.aload_n 0, 1) := by decide +kernel
theorem dL_law_1017 : decode cL_law 1017 = .ok (.iload_n 3, 1) := by decide +kernel
theorem dL_law_1018 : decode cL_law 1018 = .ok (.iconst 5, 1) := by decide +kernel
theorem dL_law_1019 : decode cL_law 1019 = .ok (.iadd, 1) := by decide +kernel
theorem dL_law_1020 : decode cL_law 1020 = .ok (.iaload, 1) := by decide +kernel
theorem dL_law_1021 : decode cL_law 1021 = .ok (.invokevirtual 127, 3) := by decide +kernel
theorem dL_law_1024 : decode cL_law 1024 = .ok (.aload_n 2, 1) := by decide +kernel
theorem dL_law_1025 : decode cL_law 1025 = .ok (.aload_n 0, 1) := by decide +kernel
theorem dL_law_1026 : decode cL_law 1026 = .ok (.iload_n 3, 1) := by decide +kernel
theorem dL_law_1027 : decode cL_law 1027 = .ok (.iconst 1, 1) := by decide +kernel
theorem dL_law_1028 : decode cL_law 1028 = .ok (.iadd, 1) := by decide +kernel
theorem dL_law_1029 : decode cL_law 1029 = .ok (.iaload, 1) := by decide +kernel
theorem dL_law_1030 : decode cL_law 1030 = .ok (.aload_n 0, 1) := by decide +kernel
theorem dL_law_1031 : decode cL_law 1031 = .ok (.iload_n 3, 1) := by decide +kernel
theorem dL_law_1032 : decode cL_law 1032 = .ok (.iconst 2, 1) := by decide +kernel
theorem dL_law_1033 : decode cL_law 1033 = .ok (.iadd, 1) := by decide +kernel
theorem dL_law_1034 : decode cL_law 1034 = .ok (.iaload, 1) := by decide +kernel
theorem dL_law_1035 : decode cL_law 1035 = .ok (.aload_n 0, 1) := by decide +kernel
theorem dL_law_1036 : decode cL_law 1036 = .ok (.iload_n 3, 1) := by decide +kernel
theorem dL_law_1037 : decode cL_law 1037 = .ok (.iconst 3, 1) := by decide +kernel
theorem dL_law_1038 : decode cL_law 1038 = .ok (.iadd, 1) := by decide +kernel
theorem dL_law_1039 : decode cL_law 1039 = .ok (.iaload, 1) := by decide +kernel
theorem dL_law_1040 : decode cL_law 1040 = .ok (.aload_n 0, 1) := by decide +kernel
theorem dL_law_1041 : decode cL_law 1041 = .ok (.iload_n 3, 1) := by decide +kernel
theorem dL_law_1042 : decode cL_law 1042 = .ok (.iconst 4, 1) := by decide +kernel
theorem dL_law_1043 : decode cL_law 1043 = .ok (.iadd, 1) := by decide +kernel
theorem dL_law_1044 : decode cL_law 1044 = .ok (.iaload, 1) := by decide +kernel
theorem dL_law_1045 : decode cL_law 1045 = .ok (.aload_n 0, 1) := by decide +kernel
theorem dL_law_1046 : decode cL_law 1046 = .ok (.iload_n 3, 1) := by decide +kernel
theorem dL_law_1047 : decode cL_law 1047 = .ok (.iconst 5, 1) := by decide +kernel
theorem dL_law_1048 : decode cL_law 1048 = .ok (.iadd, 1) := by decide +kernel
theorem dL_law_1049 : decode cL_law 1049 = .ok (.iaload, 1) := by decide +kernel
theorem dL_law_1050 : decode cL_law 1050 = .ok (.invokevirtual 130, 3) := by decide +kernel
theorem dL_law_1053 : decode cL_law 1053 = .ok (.if_icmp .eq 369, 3) := by decide +kernel
theorem dL_law_1056 : decode cL_law 1056 = .ok (.iconst 0, 1) := by decide +kernel
theorem dL_law_1057 : decode cL_law 1057 = .ok (.ireturn, 1) := by decide +kernel
theorem dL_law_1058 : decode cL_law 1058 = .ok (.aload_n 1, 1) := by decide +kernel
theorem dL_law_1059 : decode cL_law 1059 = .ok (.aload_n 0, 1) := by decide +kernel
theorem dL_law_1060 : decode cL_law 1060 = .ok (.iload_n 3, 1) := by decide +kernel
theorem dL_law_1061 : decode cL_law 1061 = .ok (.iconst 1, 1) := by decide +kernel
theorem dL_law_1062 : decode cL_law 1062 = .ok (.iadd, 1) := by decide +kernel
theorem dL_law_1063 : decode cL_law 1063 = .ok (.iaload, 1) := by decide +kernel
theorem dL_law_1064 : decode cL_law 1064 = .ok (.aload_n 0, 1) := by decide +kernel
theorem dL_law_1065 : decode cL_law 1065 = .ok (.iload_n 3, 1) := by decide +kernel
theorem dL_law_1066 : decode cL_law 1066 = .ok (.iconst 2, 1) := by decide +kernel
theorem dL_law_1067 : decode cL_law 1067 = .ok (.iadd, 1) := by decide +kernel
theorem dL_law_1068 : decode cL_law 1068 = .ok (.iaload, 1) := by decide +kernel
theorem dL_law_1069 : decode cL_law 1069 = .ok (.aload_n 0, 1) := by decide +kernel
theorem dL_law_1070 : decode cL_law 1070 = .ok (.iload_n 3, 1) := by decide +kernel
theorem dL_law_1071 : decode cL_law 1071 = .ok (.iconst 3, 1) := by decide +kernel
theorem dL_law_1072 : decode cL_law 1072 = .ok (.iadd, 1) := by decide +kernel
theorem dL_law_1073 : decode cL_law 1073 = .ok (.iaload, 1) := by decide +kernel
theorem dL_law_1074 : decode cL_law 1074 = .ok (.aload_n 0, 1) := by decide +kernel
theorem dL_law_1075 : decode cL_law 1075 = .ok (.iload_n 3, 1) := by decide +kernel
theorem dL_law_1076 : decode cL_law 1076 = .ok (.iconst 4, 1) := by decide +kernel
theorem dL_law_1077 : decode cL_law 1077 = .ok (.iadd, 1) := by decide +kernel
theorem dL_law_1078 : decode cL_law 1078 = .ok (.iaload, 1) := by decide +kernel
theorem dL_law_1079 : decode cL_law 1079 = .ok (.aload_n 0, 1) := by decide +kernel
theorem dL_law_1080 : decode cL_law 1080 = .ok (.iload_n 3, 1) := by decide +kernel
theorem dL_law_1081 : decode cL_law 1081 = .ok (.iconst 5, 1) := by decide +kernel
theorem dL_law_1082 : decode cL_law 1082 = .ok (.iadd, 1) := by decide +kernel
theorem dL_law_1083 : decode cL_law 1083 = .ok (.iaload, 1) := by decide +kernel
theorem dL_law_1084 : decode cL_law 1084 = .ok (.invokevirtual 131, 3) := by decide +kernel
theorem dL_law_1087 : decode cL_law 1087 = .ok (.aload_n 2, 1) := by decide +kernel
theorem dL_law_1088 : decode cL_law 1088 = .ok (.aload_n 0, 1) := by decide +kernel
theorem dL_law_1089 : decode cL_law 1089 = .ok (.iload_n 3, 1) := by decide +kernel
theorem dL_law_1090 : decode cL_law 1090 = .ok (.iconst 1, 1) := by decide +kernel
theorem dL_law_1091 : decode cL_law 1091 = .ok (.iadd, 1) := by decide +kernel
theorem dL_law_1092 : decode cL_law 1092 = .ok (.iaload, 1) := by decide +kernel
theorem dL_law_1093 : decode cL_law 1093 = .ok (.aload_n 0, 1) := by decide +kernel
theorem dL_law_1094 : decode cL_law 1094 = .ok (.iload_n 3, 1) := by decide +kernel
theorem dL_law_1095 : decode cL_law 1095 = .ok (.iconst 2, 1) := by decide +kernel
theorem dL_law_1096 : decode cL_law 1096 = .ok (.iadd, 1) := by decide +kernel
theorem dL_law_1097 : decode cL_law 1097 = .ok (.iaload, 1) := by decide +kernel
theorem dL_law_1098 : decode cL_law 1098 = .ok (.aload_n 0, 1) := by decide +kernel
theorem dL_law_1099 : decode cL_law 1099 = .ok (.iload_n 3, 1) := by decide +kernel
theorem dL_law_1100 : decode cL_law 1100 = .ok (.iconst 3, 1) := by decide +kernel
theorem dL_law_1101 : decode cL_law 1101 = .ok (.iadd, 1) := by decide +kernel
theorem dL_law_1102 : decode cL_law 1102 = .ok (.iaload, 1) := by decide +kernel
theorem dL_law_1103 : decode cL_law 1103 = .ok (.aload_n 0, 1) := by decide +kernel
theorem dL_law_1104 : decode cL_law 1104 = .ok (.iload_n 3, 1) := by decide +kernel
theorem dL_law_1105 : decode cL_law 1105 = .ok (.iconst 4, 1) := by decide +kernel
theorem dL_law_1106 : decode cL_law 1106 = .ok (.iadd, 1) := by decide +kernel
theorem dL_law_1107 : decode cL_law 1107 = .ok (.iaload, 1) := by decide +kernel
theorem dL_law_1108 : decode cL_law 1108 = .ok (.aload_n 0, 1) := by decide +kernel
theorem dL_law_1109 : decode cL_law 1109 = .ok (.iload_n 3, 1) := by decide +kernel
theorem dL_law_1110 : decode cL_law 1110 = .ok (.iconst 5, 1) := by decide +kernel
theorem dL_law_1111 : decode cL_law 1111 = .ok (.iadd, 1) := by decide +kernel
theorem dL_law_1112 : decode cL_law 1112 = .ok (.iaload, 1) := by decide +kernel
theorem dL_law_1113 : decode cL_law 1113 = .ok (.invokevirtual 134, 3) := by decide +kernel
theorem dL_law_1116 : decode cL_law 1116 = .ok (.if_icmp .eq 306, 3) := by decide +kernel
theorem dL_law_1119 : decode cL_law 1119 = .ok (.iconst 0, 1) := by decide +kernel
theorem dL_law_1120 : decode cL_law 1120 = .ok (.ireturn, 1) := by decide +kernel
theorem dL_law_1121 : decode cL_law 1121 = .ok (.aload_n 1, 1) := by decide +kernel
theorem dL_law_1122 : decode cL_law 1122 = .ok (.aload_n 0, 1) := by decide +kernel
theorem dL_law_1123 : decode cL_law 1123 = .ok (.iload_n 3, 1) := by decide +kernel
theorem dL_law_1124 : decode cL_law 1124 = .ok (.iconst 1, 1) := by decide +kernel
theorem dL_law_1125 : decode cL_law 1125 = .ok (.iadd, 1) := by decide +kernel
theorem dL_law_1126 : decode cL_law 1126 = .ok (.iaload, 1) := by decide +kernel
theorem dL_law_1127 : decode cL_law 1127 = .ok (.aload_n 0, 1) := by decide +kernel
theorem dL_law_1128 : decode cL_law 1128 = .ok (.iload_n 3, 1) := by decide +kernel
theorem dL_law_1129 : decode cL_law 1129 = .ok (.iconst 2, 1) := by decide +kernel
theorem dL_law_1130 : decode cL_law 1130 = .ok (.iadd, 1) := by decide +kernel
theorem dL_law_1131 : decode cL_law 1131 = .ok (.iaload, 1) := by decide +kernel
theorem dL_law_1132 : decode cL_law 1132 = .ok (.aload_n 0, 1) := by decide +kernel
theorem dL_law_1133 : decode cL_law 1133 = .ok (.iload_n 3, 1) := by decide +kernel
theorem dL_law_1134 : decode cL_law 1134 = .ok (.iconst 3, 1) := by decide +kernel
theorem dL_law_1135 : decode cL_law 1135 = .ok (.iadd, 1) := by decide +kernel
theorem dL_law_1136 : decode cL_law 1136 = .ok (.iaload, 1) := by decide +kernel
theorem dL_law_1137 : decode cL_law 1137 = .ok (.aload_n 0, 1) := by decide +kernel
theorem dL_law_1138 : decode cL_law 1138 = .ok (.iload_n 3, 1) := by decide +kernel
theorem dL_law_1139 : decode cL_law 1139 = .ok (.iconst 4, 1) := by decide +kernel
theorem dL_law_1140 : decode cL_law 1140 = .ok (.iadd, 1) := by decide +kernel
theorem dL_law_1141 : decode cL_law 1141 = .ok (.iaload, 1) := by decide +kernel
theorem dL_law_1142 : decode cL_law 1142 = .ok (.aload_n 0, 1) := by decide +kernel
theorem dL_law_1143 : decode cL_law 1143 = .ok (.iload_n 3, 1) := by decide +kernel
theorem dL_law_1144 : decode cL_law 1144 = .ok (.iconst 5, 1) := by decide +kernel
theorem dL_law_1145 : decode cL_law 1145 = .ok (.iadd, 1) := by decide +kernel
theorem dL_law_1146 : decode cL_law 1146 = .ok (.iaload, 1) := by decide +kernel
theorem dL_law_1147 : decode cL_law 1147 = .ok (.invokevirtual 135, 3) := by decide +kernel
theorem dL_law_1150 : decode cL_law 1150 = .ok (.aload_n 2, 1) := by decide +kernel
theorem dL_law_1151 : decode cL_law 1151 = .ok (.aload_n 0, 1) := by decide +kernel
theorem dL_law_1152 : decode cL_law 1152 = .ok (.iload_n 3, 1) := by decide +kernel
theorem dL_law_1153 : decode cL_law 1153 = .ok (.iconst 1, 1) := by decide +kernel
theorem dL_law_1154 : decode cL_law 1154 = .ok (.iadd, 1) := by decide +kernel
theorem dL_law_1155 : decode cL_law 1155 = .ok (.iaload, 1) := by decide +kernel
theorem dL_law_1156 : decode cL_law 1156 = .ok (.aload_n 0, 1) := by decide +kernel
theorem dL_law_1157 : decode cL_law 1157 = .ok (.iload_n 3, 1) := by decide +kernel
theorem dL_law_1158 : decode cL_law 1158 = .ok (.iconst 2, 1) := by decide +kernel
theorem dL_law_1159 : decode cL_law 1159 = .ok (.iadd, 1) := by decide +kernel
theorem dL_law_1160 : decode cL_law 1160 = .ok (.iaload, 1) := by decide +kernel
theorem dL_law_1161 : decode cL_law 1161 = .ok (.aload_n 0, 1) := by decide +kernel
theorem dL_law_1162 : decode cL_law 1162 = .ok (.iload_n 3, 1) := by decide +kernel
theorem dL_law_1163 : decode cL_law 1163 = .ok (.iconst 3, 1) := by decide +kernel
theorem dL_law_1164 : decode cL_law 1164 = .ok (.iadd, 1) := by decide +kernel
theorem dL_law_1165 : decode cL_law 1165 = .ok (.iaload, 1) := by decide +kernel
theorem dL_law_1166 : decode cL_law 1166 = .ok (.aload_n 0, 1) := by decide +kernel
theorem dL_law_1167 : decode cL_law 1167 = .ok (.iload_n 3, 1) := by decide +kernel
theorem dL_law_1168 : decode cL_law 1168 = .ok (.iconst 4, 1) := by decide +kernel
theorem dL_law_1169 : decode cL_law 1169 = .ok (.iadd, 1) := by decide +kernel
theorem dL_law_1170 : decode cL_law 1170 = .ok (.iaload, 1) := by decide +kernel
theorem dL_law_1171 : decode cL_law 1171 = .ok (.aload_n 0, 1) := by decide +kernel
theorem dL_law_1172 : decode cL_law 1172 = .ok (.iload_n 3, 1) := by decide +kernel
theorem dL_law_1173 : decode cL_law 1173 = .ok (.iconst 5, 1) := by decide +kernel
theorem dL_law_1174 : decode cL_law 1174 = .ok (.iadd, 1) := by decide +kernel
theorem dL_law_1175 : decode cL_law 1175 = .ok (.iaload, 1) := by decide +kernel
theorem dL_law_1176 : decode cL_law 1176 = .ok (.invokevirtual 139, 3) := by decide +kernel
theorem dL_law_1179 : decode cL_law 1179 = .ok (.lcmp, 1) := by decide +kernel
theorem dL_law_1180 : decode cL_law 1180 = .ok (.ifCond .eq 242, 3) := by decide +kernel
theorem dL_law_1183 : decode cL_law 1183 = .ok (.iconst 0, 1) := by decide +kernel
theorem dL_law_1184 : decode cL_law 1184 = .ok (.ireturn, 1) := by decide +kernel
theorem dL_law_1185 : decode cL_law 1185 = .ok (.aload_n 1, 1) := by decide +kernel
theorem dL_law_1186 : decode cL_law 1186 = .ok (.aload_n 0, 1) := by decide +kernel
theorem dL_law_1187 : decode cL_law 1187 = .ok (.iload_n 3, 1) := by decide +kernel
theorem dL_law_1188 : decode cL_law 1188 = .ok (.iconst 1, 1) := by decide +kernel
theorem dL_law_1189 : decode cL_law 1189 = .ok (.iadd, 1) := by decide +kernel
theorem dL_law_1190 : decode cL_law 1190 = .ok (.iaload, 1) := by decide +kernel
theorem dL_law_1191 : decode cL_law 1191 = .ok (.aload_n 0, 1) := by decide +kernel
theorem dL_law_1192 : decode cL_law 1192 = .ok (.iload_n 3, 1) := by decide +kernel
theorem dL_law_1193 : decode cL_law 1193 = .ok (.iconst 2, 1) := by decide +kernel
theorem dL_law_1194 : decode cL_law 1194 = .ok (.iadd, 1) := by decide +kernel
theorem dL_law_1195 : decode cL_law 1195 = .ok (.iaload, 1) := by decide +kernel
theorem dL_law_1196 : decode cL_law 1196 = .ok (.aload_n 0, 1) := by decide +kernel
theorem dL_law_1197 : decode cL_law 1197 = .ok (.iload_n 3, 1) := by decide +kernel
theorem dL_law_1198 : decode cL_law 1198 = .ok (.iconst 3, 1) := by decide +kernel
theorem dL_law_1199 : decode cL_law 1199 = .ok (.iadd, 1) := by decide +kernel
theorem dL_law_1200 : decode cL_law 1200 = .ok (.iaload, 1) := by decide +kernel
theorem dL_law_1201 : decode cL_law 1201 = .ok (.invokevirtual 140, 3) := by decide +kernel
theorem dL_law_1204 : decode cL_law 1204 = .ok (.aload_n 2, 1) := by decide +kernel
theorem dL_law_1205 : decode cL_law 1205 = .ok (.aload_n 0, 1) := by decide +kernel
theorem dL_law_1206 : decode cL_law 1206 = .ok (.iload_n 3, 1) := by decide +kernel
theorem dL_law_1207 : decode cL_law 1207 = .ok (.iconst 1, 1) := by decide +kernel
theorem dL_law_1208 : decode cL_law 1208 = .ok (.iadd, 1) := by decide +kernel
theorem dL_law_1209 : decode cL_law 1209 = .ok (.iaload, 1) := by decide +kernel
theorem dL_law_1210 : decode cL_law 1210 = .ok (.aload_n 0, 1) := by decide +kernel
theorem dL_law_1211 : decode cL_law 1211 = .ok (.iload_n 3, 1) := by decide +kernel
theorem dL_law_1212 : decode cL_law 1212 = .ok (.iconst 2, 1) := by decide +kernel
theorem dL_law_1213 : decode cL_law 1213 = .ok (.iadd, 1) := by decide +kernel
theorem dL_law_1214 : decode cL_law 1214 = .ok (.iaload, 1) := by decide +kernel
theorem dL_law_1215 : decode cL_law 1215 = .ok (.aload_n 0, 1) := by decide +kernel
theorem dL_law_1216 : decode cL_law 1216 = .ok (.iload_n 3, 1) := by decide +kernel
theorem dL_law_1217 : decode cL_law 1217 = .ok (.iconst 3, 1) := by decide +kernel
theorem dL_law_1218 : decode cL_law 1218 = .ok (.iadd, 1) := by decide +kernel
theorem dL_law_1219 : decode cL_law 1219 = .ok (.iaload, 1) := by decide +kernel
theorem dL_law_1220 : decode cL_law 1220 = .ok (.invokevirtual 143, 3) := by decide +kernel
theorem dL_law_1223 : decode cL_law 1223 = .ok (.if_icmp .eq 199, 3) := by decide +kernel
theorem dL_law_1226 : decode cL_law 1226 = .ok (.iconst 0, 1) := by decide +kernel
theorem dL_law_1227 : decode cL_law 1227 = .ok (.ireturn, 1) := by decide +kernel
theorem dL_law_1228 : decode cL_law 1228 = .ok (.aload_n 1, 1) := by decide +kernel
theorem dL_law_1229 : decode cL_law 1229 = .ok (.aload_n 0, 1) := by decide +kernel
theorem dL_law_1230 : decode cL_law 1230 = .ok (.iload_n 3, 1) := by decide +kernel
theorem dL_law_1231 : decode cL_law 1231 = .ok (.iconst 1, 1) := by decide +kernel
theorem dL_law_1232 : decode cL_law 1232 = .ok (.iadd, 1) := by decide +kernel
theorem dL_law_1233 : decode cL_law 1233 = .ok (.iaload, 1) := by decide +kernel
theorem dL_law_1234 : decode cL_law 1234 = .ok (.invokevirtual 144, 3) := by decide +kernel
theorem dL_law_1237 : decode cL_law 1237 = .ok (.aload_n 2, 1) := by decide +kernel
theorem dL_law_1238 : decode cL_law 1238 = .ok (.aload_n 0, 1) := by decide +kernel
theorem dL_law_1239 : decode cL_law 1239 = .ok (.iload_n 3, 1) := by decide +kernel
theorem dL_law_1240 : decode cL_law 1240 = .ok (.iconst 1, 1) := by decide +kernel
theorem dL_law_1241 : decode cL_law 1241 = .ok (.iadd, 1) := by decide +kernel
theorem dL_law_1242 : decode cL_law 1242 = .ok (.iaload, 1) := by decide +kernel
theorem dL_law_1243 : decode cL_law 1243 = .ok (.invokevirtual 147, 3) := by decide +kernel
theorem dL_law_1246 : decode cL_law 1246 = .ok (.if_icmp .eq 176, 3) := by decide +kernel
theorem dL_law_1249 : decode cL_law 1249 = .ok (.iconst 0, 1) := by decide +kernel
theorem dL_law_1250 : decode cL_law 1250 = .ok (.ireturn, 1) := by decide +kernel
theorem dL_law_1251 : decode cL_law 1251 = .ok (.aload_n 1, 1) := by decide +kernel
theorem dL_law_1252 : decode cL_law 1252 = .ok (.aload_n 0, 1) := by decide +kernel
theorem dL_law_1253 : decode cL_law 1253 = .ok (.iload_n 3, 1) := by decide +kernel
theorem dL_law_1254 : decode cL_law 1254 = .ok (.iconst 1, 1) := by decide +kernel
theorem dL_law_1255 : decode cL_law 1255 = .ok (.iadd, 1) := by decide +kernel
theorem dL_law_1256 : decode cL_law 1256 = .ok (.iaload, 1) := by decide +kernel
theorem dL_law_1257 : decode cL_law 1257 = .ok (.invokevirtual 148, 3) := by decide +kernel
theorem dL_law_1260 : decode cL_law 1260 = .ok (.aload_n 2, 1) := by decide +kernel
theorem dL_law_1261 : decode cL_law 1261 = .ok (.aload_n 0, 1) := by decide +kernel
theorem dL_law_1262 : decode cL_law 1262 = .ok (.iload_n 3, 1) := by decide +kernel
theorem dL_law_1263 : decode cL_law 1263 = .ok (.iconst 1, 1) := by decide +kernel
theorem dL_law_1264 : decode cL_law 1264 = .ok (.iadd, 1) := by decide +kernel
theorem dL_law_1265 : decode cL_law 1265 = .ok (.iaload, 1) := by decide +kernel
theorem dL_law_1266 : decode cL_law 1266 = .ok (.invokevirtual 151, 3) := by decide +kernel
theorem dL_law_1269 : decode cL_law 1269 = .ok (.if_icmp .eq 153, 3) := by decide +kernel
theorem dL_law_1272 : decode cL_law 1272 = .ok (.iconst 0, 1) := by decide +kernel
theorem dL_law_1273 : decode cL_law 1273 = .ok (.ireturn, 1) := by decide +kernel
theorem dL_law_1274 : decode cL_law 1274 = .ok (.aload_n 1, 1) := by decide +kernel
theorem dL_law_1275 : decode cL_law 1275 = .ok (.aload_n 0, 1) := by decide +kernel
theorem dL_law_1276 : decode cL_law 1276 = .ok (.iload_n 3, 1) := by decide +kernel
theorem dL_law_1277 : decode cL_law 1277 = .ok (.iconst 1, 1) := by decide +kernel
theorem dL_law_1278 : decode cL_law 1278 = .ok (.iadd, 1) := by decide +kernel
theorem dL_law_1279 : decode cL_law 1279 = .ok (.iaload, 1) := by decide +kernel
theorem dL_law_1280 : decode cL_law 1280 = .ok (.invokevirtual 152, 3) := by decide +kernel
theorem dL_law_1283 : decode cL_law 1283 = .ok (.aload_n 2, 1) := by decide +kernel
theorem dL_law_1284 : decode cL_law 1284 = .ok (.aload_n 0, 1) := by decide +kernel
theorem dL_law_1285 : decode cL_law 1285 = .ok (.iload_n 3, 1) := by decide +kernel
theorem dL_law_1286 : decode cL_law 1286 = .ok (.iconst 1, 1) := by decide +kernel
theorem dL_law_1287 : decode cL_law 1287 = .ok (.iadd, 1) := by decide +kernel
theorem dL_law_1288 : decode cL_law 1288 = .ok (.iaload, 1) := by decide +kernel
theorem dL_law_1289 : decode cL_law 1289 = .ok (.invokevirtual 155, 3) := by decide +kernel
theorem dL_law_1292 : decode cL_law 1292 = .ok (.if_icmp .eq 130, 3) := by decide +kernel
theorem dL_law_1295 : decode cL_law 1295 = .ok (.iconst 0, 1) := by decide +kernel
theorem dL_law_1296 : decode cL_law 1296 = .ok (.ireturn, 1) := by decide +kernel
theorem dL_law_1297 : decode cL_law 1297 = .ok (.aload_n 1, 1) := by decide +kernel
theorem dL_law_1298 : decode cL_law 1298 = .ok (.aload_n 0, 1) := by decide +kernel
theorem dL_law_1299 : decode cL_law 1299 = .ok (.iload_n 3, 1) := by decide +kernel
theorem dL_law_1300 : decode cL_law 1300 = .ok (.iconst 1, 1) := by decide +kernel
theorem dL_law_1301 : decode cL_law 1301 = .ok (.iadd, 1) := by decide +kernel
theorem dL_law_1302 : decode cL_law 1302 = .ok (.iaload, 1) := by decide +kernel
theorem dL_law_1303 : decode cL_law 1303 = .ok (.aload_n 0, 1) := by decide +kernel
theorem dL_law_1304 : decode cL_law 1304 = .ok (.iload_n 3, 1) := by decide +kernel
theorem dL_law_1305 : decode cL_law 1305 = .ok (.iconst 2, 1) := by decide +kernel
theorem dL_law_1306 : decode cL_law 1306 = .ok (.iadd, 1) := by decide +kernel
theorem dL_law_1307 : decode cL_law 1307 = .ok (.iaload, 1) := by decide +kernel
theorem dL_law_1308 : decode cL_law 1308 = .ok (.invokevirtual 156, 3) := by decide +kernel
theorem dL_law_1311 : decode cL_law 1311 = .ok (.aload_n 2, 1) := by decide +kernel
theorem dL_law_1312 : decode cL_law 1312 = .ok (.aload_n 0, 1) := by decide +kernel
theorem dL_law_1313 : decode cL_law 1313 = .ok (.iload_n 3, 1) := by decide +kernel
theorem dL_law_1314 : decode cL_law 1314 = .ok (.iconst 1, 1) := by decide +kernel
theorem dL_law_1315 : decode cL_law 1315 = .ok (.iadd, 1) := by decide +kernel
theorem dL_law_1316 : decode cL_law 1316 = .ok (.iaload, 1) := by decide +kernel
theorem dL_law_1317 : decode cL_law 1317 = .ok (.aload_n 0, 1) := by decide +kernel
theorem dL_law_1318 : decode cL_law 1318 = .ok (.iload_n 3, 1) := by decide +kernel
theorem dL_law_1319 : decode cL_law 1319 = .ok (.iconst 2, 1) := by decide +kernel
theorem dL_law_1320 : decode cL_law 1320 = .ok (.iadd, 1) := by decide +kernel
theorem dL_law_1321 : decode cL_law 1321 = .ok (.iaload, 1) := by decide +kernel
theorem dL_law_1322 : decode cL_law 1322 = .ok (.invokevirtual 159, 3) := by decide +kernel
theorem dL_law_1325 : decode cL_law 1325 = .ok (.if_icmp .eq 97, 3) := by decide +kernel
theorem dL_law_1328 : decode cL_law 1328 = .ok (.iconst 0, 1) := by decide +kernel
theorem dL_law_1329 : decode cL_law 1329 = .ok (.ireturn, 1) := by decide +kernel
theorem dL_law_1330 : decode cL_law 1330 = .ok (.aload_n 1, 1) := by decide +kernel
theorem dL_law_1331 : decode cL_law 1331 = .ok (.aload_n 0, 1) := by decide +kernel
theorem dL_law_1332 : decode cL_law 1332 = .ok (.iload_n 3, 1) := by decide +kernel
theorem dL_law_1333 : decode cL_law 1333 = .ok (.iconst 1, 1) := by decide +kernel
theorem dL_law_1334 : decode cL_law 1334 = .ok (.iadd, 1) := by decide +kernel
theorem dL_law_1335 : decode cL_law 1335 = .ok (.iaload, 1) := by decide +kernel
theorem dL_law_1336 : decode cL_law 1336 = .ok (.aload_n 0, 1) := by decide +kernel
theorem dL_law_1337 : decode cL_law 1337 = .ok (.iload_n 3, 1) := by decide +kernel
theorem dL_law_1338 : decode cL_law 1338 = .ok (.iconst 2, 1) := by decide +kernel
theorem dL_law_1339 : decode cL_law 1339 = .ok (.iadd, 1) := by decide +kernel
theorem dL_law_1340 : decode cL_law 1340 = .ok (.iaload, 1) := by decide +kernel
theorem dL_law_1341 : decode cL_law 1341 = .ok (.invokevirtual 160, 3) := by decide +kernel
theorem dL_law_1344 : decode cL_law 1344 = .ok (.aload_n 2, 1) := by decide +kernel
theorem dL_law_1345 : decode cL_law 1345 = .ok (.aload_n 0, 1) := by decide +kernel
theorem dL_law_1346 : decode cL_law 1346 = .ok (.iload_n 3, 1) := by decide +kernel
theorem dL_law_1347 : decode cL_law 1347 = .ok (.iconst 1, 1) := by decide +kernel
theorem dL_law_1348 : decode cL_law 1348 = .ok (.iadd, 1) := by decide +kernel
theorem dL_law_1349 : decode cL_law 1349 = .ok (.iaload, 1) := by decide +kernel
theorem dL_law_1350 : decode cL_law 1350 = .ok (.aload_n 0, 1) := by decide +kernel
theorem dL_law_1351 : decode cL_law 1351 = .ok (.iload_n 3, 1) := by decide +kernel
theorem dL_law_1352 : decode cL_law 1352 = .ok (.iconst 2, 1) := by decide +kernel
theorem dL_law_1353 : decode cL_law 1353 = .ok (.iadd, 1) := by decide +kernel
theorem dL_law_1354 : decode cL_law 1354 = .ok (.iaload, 1) := by decide +kernel
theorem dL_law_1355 : decode cL_law 1355 = .ok (.invokevirtual 163, 3) := by decide +kernel
theorem dL_law_1358 : decode cL_law 1358 = .ok (.if_icmp .eq 64, 3) := by decide +kernel
theorem dL_law_1361 : decode cL_law 1361 = .ok (.iconst 0, 1) := by decide +kernel
theorem dL_law_1362 : decode cL_law 1362 = .ok (.ireturn, 1) := by decide +kernel
theorem dL_law_1363 : decode cL_law 1363 = .ok (.aload_n 1, 1) := by decide +kernel
theorem dL_law_1364 : decode cL_law 1364 = .ok (.aload_n 0, 1) := by decide +kernel
theorem dL_law_1365 : decode cL_law 1365 = .ok (.iload_n 3, 1) := by decide +kernel
theorem dL_law_1366 : decode cL_law 1366 = .ok (.iconst 1, 1) := by decide +kernel
theorem dL_law_1367 : decode cL_law 1367 = .ok (.iadd, 1) := by decide +kernel
theorem dL_law_1368 : decode cL_law 1368 = .ok (.iaload, 1) := by decide +kernel
theorem dL_law_1369 : decode cL_law 1369 = .ok (.invokevirtual 164, 3) := by decide +kernel
theorem dL_law_1372 : decode cL_law 1372 = .ok (.aload_n 2, 1) := by decide +kernel
theorem dL_law_1373 : decode cL_law 1373 = .ok (.aload_n 0, 1) := by decide +kernel
theorem dL_law_1374 : decode cL_law 1374 = .ok (.iload_n 3, 1) := by decide +kernel
theorem dL_law_1375 : decode cL_law 1375 = .ok (.iconst 1, 1) := by decide +kernel
theorem dL_law_1376 : decode cL_law 1376 = .ok (.iadd, 1) := by decide +kernel
theorem dL_law_1377 : decode cL_law 1377 = .ok (.iaload, 1) := by decide +kernel
theorem dL_law_1378 : decode cL_law 1378 = .ok (.invokevirtual 167, 3) := by decide +kernel
theorem dL_law_1381 : decode cL_law 1381 = .ok (.if_icmp .eq 41, 3) := by decide +kernel
theorem dL_law_1384 : decode cL_law 1384 = .ok (.iconst 0, 1) := by decide +kernel
theorem dL_law_1385 : decode cL_law 1385 = .ok (.ireturn, 1) := by decide +kernel
theorem dL_law_1386 : decode cL_law 1386 = .ok (.aload_n 1, 1) := by decide +kernel
theorem dL_law_1387 : decode cL_law 1387 = .ok (.aload_n 0, 1) := by decide +kernel
theorem dL_law_1388 : decode cL_law 1388 = .ok (.iload_n 3, 1) := by decide +kernel
theorem dL_law_1389 : decode cL_law 1389 = .ok (.iconst 1, 1) := by decide +kernel
theorem dL_law_1390 : decode cL_law 1390 = .ok (.iadd, 1) := by decide +kernel
theorem dL_law_1391 : decode cL_law 1391 = .ok (.iaload, 1) := by decide +kernel
theorem dL_law_1392 : decode cL_law 1392 = .ok (.invokevirtual 168, 3) := by decide +kernel
theorem dL_law_1395 : decode cL_law 1395 = .ok (.aload_n 2, 1) := by decide +kernel
theorem dL_law_1396 : decode cL_law 1396 = .ok (.aload_n 0, 1) := by decide +kernel
theorem dL_law_1397 : decode cL_law 1397 = .ok (.iload_n 3, 1) := by decide +kernel
theorem dL_law_1398 : decode cL_law 1398 = .ok (.iconst 1, 1) := by decide +kernel
theorem dL_law_1399 : decode cL_law 1399 = .ok (.iadd, 1) := by decide +kernel
theorem dL_law_1400 : decode cL_law 1400 = .ok (.iaload, 1) := by decide +kernel
theorem dL_law_1401 : decode cL_law 1401 = .ok (.invokevirtual 171, 3) := by decide +kernel
theorem dL_law_1404 : decode cL_law 1404 = .ok (.if_icmp .eq 18, 3) := by decide +kernel
theorem dL_law_1407 : decode cL_law 1407 = .ok (.iconst 0, 1) := by decide +kernel
theorem dL_law_1408 : decode cL_law 1408 = .ok (.ireturn, 1) := by decide +kernel
theorem dL_law_1409 : decode cL_law 1409 = .ok (.aload_n 1, 1) := by decide +kernel
theorem dL_law_1410 : decode cL_law 1410 = .ok (.invokevirtual 172, 3) := by decide +kernel
theorem dL_law_1413 : decode cL_law 1413 = .ok (.aload_n 2, 1) := by decide +kernel
theorem dL_law_1414 : decode cL_law 1414 = .ok (.invokevirtual 175, 3) := by decide +kernel
theorem dL_law_1417 : decode cL_law 1417 = .ok (.if_icmp .eq 5, 3) := by decide +kernel
theorem dL_law_1420 : decode cL_law 1420 = .ok (.iconst 0, 1) := by decide +kernel
theorem dL_law_1421 : decode cL_law 1421 = .ok (.ireturn, 1) := by decide +kernel
theorem dL_law_1422 : decode cL_law 1422 = .ok (.iinc 3 6, 3) := by decide +kernel
theorem dL_law_1425 : decode cL_law 1425 = .ok (.goto (-1407), 3) := by decide +kernel
theorem dL_law_1428 : decode cL_law 1428 = .ok (.iconst 1, 1) := by decide +kernel
theorem dL_law_1429 : decode cL_law 1429 = .ok (.ireturn, 1) := by decide +kernel
end
section
def gT : List Cond := lw_tbl.filter goodWord
theorem gT_good : GoodIn gT gT := fun w h => ⟨h, good_of_word (List.mem_filter.mp h).2⟩
theorem gT_in {w : Cond} (i : Nat) (h : lw_tbl[i]? = some w) (g : goodWord w = true) : w ∈ gT := List.mem_filter.mpr ⟨List.mem_of_getElem? h, g⟩
end
section
/-! ===== the layer: heaps as functions of relative addresses, a judgement over them ===== -/
abbrev xE : Type := Launch × Nat × va_G × (Nat → ClassId)
def xI (n : Int) : Int32 := Int32.ofInt n
def xJ (n : Int) : Int64 := Int64.ofInt n
abbrev xi (n : Int) : Value := .int (xI n)
abbrev xl (n : Int) : Value := .long (xJ n)
abbrev xr (E : xE) (k : Nat) : Value := .ref (E.2.1 + k)
def xA (E : xE) : Nat → Prop := fun q => E.2.1 ≤ q
def xW (E : xE) (n : Nat) (hp : Nat → va_E) : va_W := (List.range n).map fun k => (E.2.1 + k, hp k)
theorem xW_at {E : xE} {n : Nat} {hp : Nat → va_E} {k : Nat} (h : k < n) : (xW E n hp)[k]? = some (E.2.1 + k, hp k) := by
  simp [xW, h]
theorem xW_get {E : xE} {n : Nat} {hp : Nat → va_E} {k : Nat} {q : Nat × va_E} (h : (xW E n hp)[k]? = some q) : k < n ∧ q = (E.2.1 + k, hp k) := by
  have hk : k < n := by
    have := (List.getElem?_eq_some_iff.mp h).1
    simpa [xW] using this
  rw [xW_at hk] at h
  exact ⟨hk, (Option.some.inj h).symm⟩
theorem xD (E : xE) (n : Nat) (hp : Nat → va_E) : va_D (xA E) (xW E n hp) := by
  refine ⟨fun i j p q hi hj e => ?_, fun k q hk => ?_⟩
  · obtain ⟨_, rfl⟩ := xW_get hi
    obtain ⟨_, rfl⟩ := xW_get hj
    dsimp only at e
    omega
  · obtain ⟨_, rfl⟩ := xW_get hk
    exact Nat.le_add_right _ _
theorem xW_set {E : xE} {n : Nat} {hp : Nat → va_E} {k : Nat} {e : va_E} : (xW E n hp).set k (E.2.1 + k, e) = xW E n (va_up hp k e) := by
  apply List.ext_getElem?
  intro i
  rw [List.getElem?_set]
  by_cases hi : i < n
  · rw [xW_at hi, xW_at hi]
    by_cases hk : k = i
    · subst hk
      simp [xW, va_up, hi]
    · simp [hk, va_up, Ne.symm hk]
  · have h1 : (xW E n (va_up hp k e))[i]? = none := by simp [xW, Nat.not_lt.mp hi]
    have h2 : (xW E n hp)[i]? = none := by simp [xW, Nat.not_lt.mp hi]
    rw [h1, h2]
    by_cases hk : k = i
    · subst hk
      simp [xW, hi]
    · simp [hk]
def xP (E : xE) (n : Nat) (hp : Nat → va_E) (H : Heap) : Prop := H.size = E.2.1 + n ∧ va_P E.2.2.1 vwCl (xW E n hp) H
theorem xP.at {E : xE} {n : Nat} {hp : Nat → va_E} {H : Heap} (h : xP E n hp H) {k : Nat} (hk : k < n) : va_at E.2.2.1 vwCl (E.2.1 + k, hp k) H := h.2 k _ (xW_at hk)
theorem xP.put {E : xE} {n : Nat} {hp : Nat → va_E} {H H1 : Heap} (h : xP E n hp H) {k : Nat} (hk : k < n) {e : va_E} (z : H1.size = H.size) (oq : ∀ q : Nat, q ≠ E.2.1 + k → H1[q]? = H[q]?) (he : va_at E.2.2.1 vwCl (E.2.1 + k, e) H1) : xP E n (va_up hp k e) H1 := by
  refine ⟨by rw [z]; exact h.1, ?_⟩
  rw [← xW_set]
  exact h.2.set (xD E n hp) (xW_at hk) he oq
theorem xP.push {E : xE} {n : Nat} {hp : Nat → va_E} {H H1 : Heap} (h : xP E n hp H) {e : va_E} (z : H1.size = H.size + 1) (oq : ∀ q : Nat, q < H.size → H1[q]? = H[q]?) (he : va_at E.2.2.1 vwCl (E.2.1 + n, e) H1) : xP E (n + 1) (va_up hp n e) H1 := by
  refine ⟨by rw [z, h.1]; omega, fun k q hq => ?_⟩
  obtain ⟨hk, rfl⟩ := xW_get hq
  by_cases hn : k = n
  · subst hn
    simp only [va_up, if_pos]
    exact he
  · have hk' : k < n := by omega
    have h1 : va_up hp n e k = hp k := by simp [va_up, hn]
    rw [h1]
    exact (h.at hk').kept (oq _ (by rw [h.1]; show E.2.1 + k < _; omega))
def xtys (E : xE) : List (ClassId × FieldType) := [(E.2.2.2 0, .int), (E.2.2.2 1, .boolean), (E.2.2.2 2, .object RX5), (E.2.2.2 3, .object RX1), (E.2.2.2 4, .object RX6)]
def xtab (j : Nat) : List Int := match j with
  | 0 => [-1, 0, 1, 1, 0, 4]
  | 1 => [10, 11, 12, 11, 13, 14]
  | _ => [20, 21, 24, 22, 23, 23]
def xtabO (j : Nat) : String := match j with
  | 0 => RX9
  | _ => RX0
def xtabN (j : Nat) : String := match j with
  | 0 => "KIND_ABOVE"
  | 1 => "SIZE_BODIES"
  | _ => "MARK_BODIES"
def xZ (E : xE) (U : State) (H : Heap) : Prop := ∀ j, j < 3 → va_Z (xtabO j) (xtabN j) "[I" (.ref (E.2.2.2 (10 + j))) (xA E) U H ∧ va_T .int (E.2.2.2 (10 + j)) 6 (fun i => xi ((xtab j).getD i 0)) (xA E) U H
def xNest : List (String × Nat × MethodName) := [(RX9, 23, yX8_init), (RX9, 56, yX7_init), (RX9, 63, yX4_init), (RX4, 17, yX8_init), (RX9, 77, yX5_init), (RX9, 78, yX1_init), (RX1, 9, yX8_init)]
def xG (E : xE) (U : State) : Prop := va_K E.2.2.1 vwCl (xtys E) U ∧ (∀ w ∈ xNest, va_Nw (.methodLinkNest w.1 w.2.1 w.2.2 "CrierWeeks") U) ∧ (va_AO RX5 U ∧ va_AO RX1 U ∧ va_AO RX6 U) ∧ xZ E U U.heap
theorem xG.go {E : xE} {s U : State} (h : xG E s) (hW : s.WarmedH U.vm) (hq : ∀ a : Nat, a < s.heap.size → ¬ xA E a → U.heap[a]? = s.heap[a]?) : xG E U := by
  obtain ⟨h1, h2, ⟨h3, h4, h5⟩, h6⟩ := h
  refine ⟨va_K.moved hW.alike h1, fun w hw => va_Nw.warmM hW (h2 w hw), ⟨va_AO.moved hW.alike h3, va_AO.moved hW.alike h4, va_AO.moved hW.alike h5⟩, fun j hj => ?_⟩
  obtain ⟨a1, a2⟩ := h6 j hj
  exact ⟨va_Z.moved hW.alike (a1.kept hq), va_T.moved hW.alike (a2.kept hq)⟩
theorem xG.call {E : xE} {U : State} (h : xG E U) (g : JFrame) (mk : MethodId) (a : Array Value) : xG E (U.calling g mk a) := by
  obtain ⟨h1, h2, ⟨h3, h4, h5⟩, h6⟩ := h
  have hal : U.vm.Alike (U.calling g mk a).vm := Vm.Alike.refl U.vm
  refine ⟨va_K.moved hal h1, fun w hw => va_Nw.same rfl rfl (h2 w hw), ⟨va_AO.moved hal h3, va_AO.moved hal h4, va_AO.moved hal h5⟩, fun j hj => ?_⟩
  obtain ⟨a1, a2⟩ := h6 j hj
  exact ⟨va_Z.moved hal a1, va_T.moved hal a2⟩
/-! locals: a list of options -/
def xlv : Nat → List (Option Value) → List (Nat × Value)
  | _, [] => []
  | i, none :: t => xlv (i + 1) t
  | i, some v :: t => (i, v) :: xlv (i + 1) t
theorem xlv_mem : ∀ (ls : List (Option Value)) (i : Nat) (q : Nat × Value), q ∈ xlv i ls ↔ ∃ j, q.1 = i + j ∧ ls[j]? = some (some q.2)
  | [], i, q => by simp [xlv]
  | none :: t, i, q => by
    rw [xlv, xlv_mem t (i + 1) q]
    constructor
    · rintro ⟨j, h1, h2⟩
      exact ⟨j + 1, by omega, by simpa using h2⟩
    · rintro ⟨j, h1, h2⟩
      cases j with
      | zero => simp at h2
      | succ j => exact ⟨j, by omega, by simpa using h2⟩
  | some v :: t, i, q => by
    rw [xlv, List.mem_cons, xlv_mem t (i + 1) q]
    constructor
    · rintro (rfl | ⟨j, h1, h2⟩)
      · exact ⟨0, rfl, rfl⟩
      · exact ⟨j + 1, by omega, by simpa using h2⟩
    · rintro ⟨j, h1, h2⟩
      cases j with
      | zero =>
        left
        simp at h2
        obtain ⟨a, b⟩ := q
        simp at h1 h2
        subst h1; subst h2; rfl
      | succ j => exact Or.inr ⟨j, by omega, by simpa using h2⟩
def xL (la : Array Slot) (ls : List (Option Value)) : Prop := lv_has la ls.length (xlv 0 ls)
theorem xL.at {la : Array Slot} {ls : List (Option Value)} (h : xL la ls) {k : Nat} {v : Value} (hk : ls[k]? = some (some v)) : la[k]? = some (.val v) :=
  h.2.2 (k, v) ((xlv_mem ls 0 (k, v)).mpr ⟨k, by simp, hk⟩)
def xc1 : Option Value → Bool
  | none => true
  | some v => v.category == 1
theorem xL.set1 {la : Array Slot} {ls : List (Option Value)} (h : xL la ls) {i : Nat} {v : Value} (hi : i < ls.length) (hp : ∀ w, 0 < i → ls[i - 1]? = some w → xc1 w = true) {la' : Array Slot} (h' : lv_has la' ls.length ((i, v) :: (xlv 0 ls).filter (fun q => !(q.1 == i) && !(q.1 + 1 == i && q.2.category == 2)))) : xL la' (ls.set i (some v)) := by
  unfold xL
  rw [List.length_set]
  refine ⟨h'.1, h'.2.1, fun q hq => ?_⟩
  obtain ⟨j, e1, e2⟩ := (xlv_mem _ _ _).mp hq
  refine h'.2.2 q ?_
  rw [List.getElem?_set] at e2
  by_cases hj : i = j
  · subst hj
    simp [hi] at e2
    obtain ⟨a, b⟩ := q
    simp at e1 e2
    subst e1; subst e2
    exact List.mem_cons_self
  · rw [if_neg hj] at e2
    refine List.mem_cons_of_mem _ (List.mem_filter.mpr ⟨(xlv_mem _ _ _).mpr ⟨j, e1, e2⟩, ?_⟩)
    have a1 : ¬ q.1 = i := by omega
    simp only [Bool.and_eq_true, Bool.not_eq_true', beq_eq_false_iff_ne, ne_eq, Bool.and_eq_false_iff]
    refine ⟨a1, ?_⟩
    by_cases a2 : q.1 + 1 = i
    · right
      have := hp (some q.2) (by omega) (by rw [show i - 1 = j by omega]; exact e2)
      simp [xc1] at this
      omega
    · exact Or.inl a2
theorem xL.set2 {la : Array Slot} {ls : List (Option Value)} (h : xL la ls) {i : Nat} {v : Value} (hi : i + 1 < ls.length) (hp : ∀ w, 0 < i → ls[i - 1]? = some w → xc1 w = true) {la' : Array Slot} (h' : lv_has la' ls.length ((i, v) :: (xlv 0 ls).filter (fun q => !(q.1 == i) && (!(q.1 == i + 1) && !(q.1 + 1 == i && q.2.category == 2))))) : xL la' ((ls.set i (some v)).set (i + 1) none) := by
  unfold xL
  rw [List.length_set, List.length_set]
  refine ⟨h'.1, h'.2.1, fun q hq => ?_⟩
  obtain ⟨j, e1, e2⟩ := (xlv_mem _ _ _).mp hq
  refine h'.2.2 q ?_
  rw [List.getElem?_set] at e2
  by_cases hj1 : i + 1 = j
  · subst hj1
    simp [hi] at e2
  · rw [if_neg hj1, List.getElem?_set] at e2
    by_cases hj : i = j
    · subst hj
      simp [show i < ls.length by omega] at e2
      obtain ⟨a, b⟩ := q
      simp at e1 e2
      subst e1; subst e2
      exact List.mem_cons_self
    · rw [if_neg hj] at e2
      refine List.mem_cons_of_mem _ (List.mem_filter.mpr ⟨(xlv_mem _ _ _).mpr ⟨j, e1, e2⟩, ?_⟩)
      have a1 : ¬ q.1 = i := by omega
      have a3 : ¬ q.1 = i + 1 := by omega
      simp only [Bool.and_eq_true, Bool.not_eq_true', beq_eq_false_iff_ne, ne_eq, Bool.and_eq_false_iff]
      refine ⟨a1, a3, ?_⟩
      by_cases a2 : q.1 + 1 = i
      · right
        have := hp (some q.2) (by omega) (by rw [show i - 1 = j by omega]; exact e2)
        simp [xc1] at this
        omega
      · exact Or.inl a2
/-- the locals with which a method begins -/
def xargs (av : List Value) (n : Nat) : List (Option Value) := (av.flatMap fun v => if v.category = 2 then [some v, none] else [some v]) ++ List.replicate n none
theorem xargs_at : ∀ (av : List Value) (n i j : Nat) (v : Value), (xargs av n)[j]? = some (some v) → (i + j, v) ∈ lv_args i av
  | [], n, i, j, v, h => by
    simp only [xargs, List.flatMap_nil, List.nil_append] at h
    have := List.eq_of_mem_replicate (List.mem_of_getElem? h)
    cases this
  | w :: av, n, i, j, v, h => by
    unfold lv_args
    by_cases hc : w.category = 2
    · have e : xargs (w :: av) n = some w :: none :: xargs av n := by simp [xargs, hc]
      rw [e] at h
      rw [if_pos hc]
      match j, h with
      | 0, h => simp at h; subst h; exact List.mem_cons_self
      | 1, h => simp at h
      | j + 2, h =>
        have h2 : (xargs av n)[j]? = some (some v) := by simpa using h
        have := xargs_at av n (i + 2) j v h2
        rw [show i + (j + 2) = i + 2 + j by omega]
        exact List.mem_cons_of_mem _ this
    · have e : xargs (w :: av) n = some w :: xargs av n := by simp [xargs, hc]
      rw [e] at h
      rw [if_neg hc]
      match j, h with
      | 0, h => simp at h; subst h; exact List.mem_cons_self
      | j + 1, h =>
        have h2 : (xargs av n)[j]? = some (some v) := by simpa using h
        have := xargs_at av n (i + 1) j v h2
        rw [show i + (j + 1) = i + 1 + j by omega]
        exact List.mem_cons_of_mem _ this
theorem xargs_len (av : List Value) (n : Nat) : (xargs av n).length = (lg_sl av).length + n := by
  induction av with
  | nil => simp [xargs, lg_sl]
  | cons w av ih =>
    by_cases hc : w.category = 2
    · have e : xargs (w :: av) n = some w :: none :: xargs av n := by simp [xargs, hc]
      have e2 : lg_sl (w :: av) = .val w :: .second :: lg_sl av := by simp [lg_sl, hc]
      rw [e, e2]
      simp only [List.length_cons]
      omega
    · have e : xargs (w :: av) n = some w :: xargs av n := by simp [xargs, hc]
      have e2 : lg_sl (w :: av) = .val w :: lg_sl av := by simp [lg_sl, hc]
      rw [e, e2]
      simp only [List.length_cons]
      omega
theorem xL.entry (av : List Value) (n : Nat) : xL ((lg_sl av ++ List.replicate n Slot.unset).toArray) (xargs av n) := by
  have h := lv_entry av (n := (lg_sl av).length + n) (by omega)
  rw [show (lg_sl av).length + n - (lg_sl av).length = n by omega] at h
  unfold xL
  rw [xargs_len]
  refine ⟨h.1, h.2.1, fun q hq => h.2.2 q ?_⟩
  obtain ⟨j, e1, e2⟩ := (xlv_mem _ _ _).mp hq
  have := xargs_at av n 0 j q.2 e2
  rw [show (0 : Nat) + j = q.1 by omega] at this
  exact this
/-! the judgement -/
def xOk (E : xE) (y : MethodName) (cc : ByteArray) (nL : Nat) (rt : Option FieldType) (p : Program) (s : State) (m : MethodId) (args : Array Value) (meth : Method) (c : Code) : Prop :=
  p.tables.exec = Jvm.exec ∧ c.code = cc ∧ c.maxLocals = nL ∧ s.vm.findClass y.cls = some m.cls ∧ (∀ w ∈ gT, w.before args s = true) ∧ meth.sig.returnType = rt ∧ meth.name = y.name ∧ meth.locks = false ∧ xG E s
def xRm (d mc ms : Nat) : Room := { frames := d, cells := mc, slots := ms, locals := 40 * d }
def xQ (E : xE) (Q : Option Value → Nat → (Nat → va_E) → Prop) : Array Value → State → Outcome → State → Prop := fun _ st o t => (∃ v n hp, o = .returned v ∧ Q v n hp ∧ xP E n hp t.heap) ∧ va_F (xA E) st t
abbrev xM : Type := MethodName × ByteArray × Option FieldType
def V0 (E : xE) (y : xM) (d mc ms : Nat) (Q : Option Value → Nat → (Nat → va_E) → Prop) (pc : Nat) (ls : List (Option Value)) (st : List Value) (n : Nat) (hp : Nat → va_E) (ce sl : Nat) : Prop :=
  ∀ (p : Program) (e : Env) (s : State) (m : MethodId) (args : Array Value) (below : List Frame) (meth : Method) (c : Code) (H : Heap) (locs : List Loc) (la : Array Slot),
    xOk E y.1 y.2.1 ls.length y.2.2 p s m args meth c → xP E n hp H → va_S (xA E) s.heap H locs → xL la ls →
    W p E.1 e (xRm d mc ms) s m args below meth c H locs ce sl (MQ below (xQ E Q) args s mc ms (xA E)) (F0 m pc la st)
/-- a method's contract -/
def xK (E : xE) (y : xM) (nL d mc ms : Nat) (av : List Value) (n : Nat) (hp : Nat → va_E) (Q : Option Value → Nat → (Nat → va_E) → Prop) : Prop :=
  Met E.1 y.1 (.code y.1 y.2.1 nL y.2.2 :: gT) (xRm d mc ms) (va_Pc av (fun U => xP E n hp U.heap ∧ xG E U)) (xQ E Q) mc ms (xA E)
theorem xK.of {E : xE} {y : xM} {d mc ms : Nat} {av : List Value} {n : Nat} {hp : Nat → va_E} {Q : Option Value → Nat → (Nat → va_E) → Prop} (k : Nat) (hy : plainName y.1.cls = true)
    (h : V0 E y d mc ms Q 0 (xargs av k) [] n hp 0 0) : xK E y ((lg_sl av).length + k) d mc ms av n hp Q := by
  refine Met.ofW (cc := y.2.1) (maxL := (lg_sl av).length + k) (ret := y.2.2) hy rfl ?_
  intro p e s m args below meth c s₁ B hml hv
  obtain ⟨rfl, hP, hG⟩ := hv
  have hts0 := atoms_spec (ws := .code y.1 y.2.1 ((lg_sl av).length + k) y.2.2 :: gT) B.pre
  rw [lg_entry_eq, show (lg_sl av).length + k - (lg_sl av).length = k by omega]
  refine h p e s m _ below meth c s.heap [] _ ⟨B.exec, B.bytes, by rw [xargs_len]; exact hml, findClass_of_methodNamed B.named, fun w hw => hts0 w (List.mem_cons_of_mem _ hw), B.returns, (name_of_methodNamed B.named B.method).1, B.notSynchronized, hG⟩ hP va_S.rf (xL.entry av k)
end
section
/-! ===== numbers: Int32 by Int ===== -/
theorem xI_add (a b : Int) : xI a + xI b = xI (a + b) := (Int32.ofInt_add a b).symm
theorem xI_sub (a b : Int) : xI a - xI b = xI (a - b) := (Int32.ofInt_sub a b).symm
theorem xI_mul (a b : Int) : xI a * xI b = xI (a * b) := (Int32.ofInt_mul a b).symm
theorem xI_neg (a : Int) : - xI a = xI (-a) := (Int32.ofInt_neg a).symm
theorem xI_toInt {a : Int} (h : -2147483648 ≤ a ∧ a < 2147483648) : (xI a).toInt = a := Int32.toInt_ofInt_of_le h.1 h.2
theorem xI_of (x : Int32) : xI x.toInt = x := Int32.ofInt_toInt x
theorem xI_rg (x : Int32) : -2147483648 ≤ x.toInt ∧ x.toInt < 2147483648 := ⟨x.le_toInt, x.toInt_lt⟩
theorem xI_lt {a b : Int} (ha : -2147483648 ≤ a ∧ a < 2147483648) (hb : -2147483648 ≤ b ∧ b < 2147483648) : xI a < xI b ↔ a < b := by
  rw [Int32.lt_iff_toInt_lt, xI_toInt ha, xI_toInt hb]
theorem xI_le {a b : Int} (ha : -2147483648 ≤ a ∧ a < 2147483648) (hb : -2147483648 ≤ b ∧ b < 2147483648) : xI a ≤ xI b ↔ a ≤ b := by
  rw [Int32.le_iff_toInt_le, xI_toInt ha, xI_toInt hb]
theorem xI_eq {a b : Int} (ha : -2147483648 ≤ a ∧ a < 2147483648) (hb : -2147483648 ≤ b ∧ b < 2147483648) : xI a = xI b ↔ a = b := by
  rw [← Int32.toInt_inj, xI_toInt ha, xI_toInt hb]
theorem xI_nat (n : Nat) : xI (n : Int) = nI n := Int32.ofInt_eq_ofNat
theorem xI_clamp {a : Int} (h : -2147483648 ≤ a ∧ a < 2147483648) : (xI a).toNatClampNeg = a.toNat := by
  show (xI a).toInt.toNat = a.toNat
  rw [xI_toInt h]
theorem xI_in {a : Int} {n : Nat} (h0 : 0 ≤ a) (h1 : a < n) (h2 : a < 2147483648) : vp_in (xI a) n := by
  rw [vp_in_iff, xI_toInt ⟨by omega, h2⟩]
  exact ⟨h0, h1⟩
theorem xI_div {a b : Int} (ha : 0 ≤ a ∧ a < 2147483648) (hb : 0 < b ∧ b < 2147483648) : xI a / xI b = xI (a / b) := by
  obtain ⟨m, rfl⟩ := Int.eq_ofNat_of_zero_le ha.1
  obtain ⟨k, rfl⟩ := Int.eq_ofNat_of_zero_le (Int.le_of_lt hb.1)
  rw [xI_nat, xI_nat, pk_div (by omega) (by omega) (by omega), ← xI_nat]
  congr 1
theorem xI_rem {a b : Int} (ha : 0 ≤ a ∧ a < 2147483648) (hb : 0 < b ∧ b < 2147483648) : xI a - xI a / xI b * xI b = xI (a % b) := by
  obtain ⟨m, rfl⟩ := Int.eq_ofNat_of_zero_le ha.1
  obtain ⟨k, rfl⟩ := Int.eq_ofNat_of_zero_le (Int.le_of_lt hb.1)
  rw [xI_nat, xI_nat, pk_rem (by omega) (by omega) (by omega), ← xI_nat]
  congr 1
def xand (a b : Int) : Int := ((a.toNat &&& b.toNat : Nat) : Int)
def xor2 (a b : Int) : Int := ((a.toNat ||| b.toNat : Nat) : Int)
def xbnd (a b : Int) : Int := ((a.toNat ^^^ (a.toNat &&& b.toNat) : Nat) : Int)
theorem xI_tn {n : Nat} (h : n < 2147483648) : (xI (n : Int)).toBitVec.toNat = n := by
  rw [xI_nat]
  exact pk_tn (by omega)
theorem xI_ext {x y : Int32} (h : x.toBitVec.toNat = y.toBitVec.toNat) : x = y := Int32.toBitVec_inj.mp (BitVec.eq_of_toNat_eq h)
theorem xand_rg {a b : Int} (ha : 0 ≤ a ∧ a < 2147483648) : 0 ≤ xand a b ∧ xand a b < 2147483648 := by
  have : a.toNat &&& b.toNat ≤ a.toNat := Nat.and_le_left
  unfold xand
  omega
theorem xor2_rg {a b : Int} (ha : 0 ≤ a ∧ a < 2147483648) (hb : 0 ≤ b ∧ b < 2147483648) : 0 ≤ xor2 a b ∧ xor2 a b < 2147483648 := by
  have : a.toNat ||| b.toNat < 2 ^ 31 := Nat.or_lt_two_pow (by omega) (by omega)
  unfold xor2
  omega
theorem xbnd_rg {a b : Int} (ha : 0 ≤ a ∧ a < 2147483648) : 0 ≤ xbnd a b ∧ xbnd a b < 2147483648 := by
  have h1 : a.toNat &&& b.toNat ≤ a.toNat := Nat.and_le_left
  have : a.toNat ^^^ (a.toNat &&& b.toNat) < 2 ^ 31 := Nat.xor_lt_two_pow (by omega) (by omega)
  unfold xbnd
  omega
theorem xI_and {a b : Int} (ha : 0 ≤ a ∧ a < 2147483648) (hb : 0 ≤ b ∧ b < 2147483648) : xI a &&& xI b = xI (xand a b) := by
  have hr := xand_rg (b := b) ha
  obtain ⟨m, rfl⟩ := Int.eq_ofNat_of_zero_le ha.1
  obtain ⟨k, rfl⟩ := Int.eq_ofNat_of_zero_le hb.1
  unfold xand at hr ⊢
  apply xI_ext
  rw [xI_tn (by omega), Int32.toBitVec_and, BitVec.toNat_and, xI_tn (by omega), xI_tn (by omega)]
  simp
theorem xI_or {a b : Int} (ha : 0 ≤ a ∧ a < 2147483648) (hb : 0 ≤ b ∧ b < 2147483648) : xI a ||| xI b = xI (xor2 a b) := by
  have hr := xor2_rg ha hb
  obtain ⟨m, rfl⟩ := Int.eq_ofNat_of_zero_le ha.1
  obtain ⟨k, rfl⟩ := Int.eq_ofNat_of_zero_le hb.1
  unfold xor2 at hr ⊢
  apply xI_ext
  rw [xI_tn (by omega), Int32.toBitVec_or, BitVec.toNat_or, xI_tn (by omega), xI_tn (by omega)]
  simp
theorem xI_not (b : Int) : xI b ^^^ xI (-1) = xI (-1 - b) := by
  have h : xI (-1 - b) = ~~~ (xI b) := by
    rw [← xI_sub]
    apply Int32.toBitVec_inj.mp
    rw [Int32.toBitVec_sub, Int32.toBitVec_not]
    generalize (xI b).toBitVec = x
    show BitVec.ofInt 32 (-1) - x = ~~~ x
    rw [show BitVec.ofInt 32 (-1) = BitVec.allOnes 32 from by decide +kernel, BitVec.allOnes_sub_eq_not]
  rw [h]
  apply Int32.toBitVec_inj.mp
  rw [Int32.toBitVec_xor, Int32.toBitVec_not]
  show _ ^^^ BitVec.ofInt 32 (-1) = _
  rw [show BitVec.ofInt 32 (-1) = BitVec.allOnes 32 from by decide +kernel, BitVec.xor_allOnes]
theorem xI_bnd {a b : Int} (ha : 0 ≤ a ∧ a < 2147483648) (hb : 0 ≤ b ∧ b < 2147483648) : xI a &&& xI (-1 - b) = xI (xbnd a b) := by
  have hr := xbnd_rg (b := b) ha
  have h1 : xI a &&& xI (-1 - b) = xI a ^^^ (xI a &&& xI b) := by
    rw [← xI_not]
    apply Int32.toBitVec_inj.mp
    simp only [Int32.toBitVec_and, Int32.toBitVec_xor]
    generalize (xI a).toBitVec = x
    generalize (xI b).toBitVec = y
    show x &&& (y ^^^ BitVec.ofInt 32 (-1)) = _
    rw [show BitVec.ofInt 32 (-1) = BitVec.allOnes 32 from by decide +kernel, BitVec.xor_allOnes]
    ext i hi
    simp
    cases x[i] <;> cases y[i] <;> rfl
  rw [h1]
  obtain ⟨m, rfl⟩ := Int.eq_ofNat_of_zero_le ha.1
  obtain ⟨k, rfl⟩ := Int.eq_ofNat_of_zero_le hb.1
  unfold xbnd at hr ⊢
  apply xI_ext
  rw [xI_tn (by omega), Int32.toBitVec_xor, BitVec.toNat_xor, Int32.toBitVec_and, BitVec.toNat_and, xI_tn (by omega), xI_tn (by omega)]
  simp
theorem xI_bvn (a : Int) : (xI a).toBitVec.toNat = (a % 4294967296).toNat := by
  show (BitVec.ofInt 32 a).toNat = _
  rw [BitVec.toNat_ofInt]
  rfl
theorem xI_and63 (a : Int) : xI a &&& xI 63 = xI (a % 64) := by
  rw [pk_and (xI a) (m := xI 63) 6 (by decide +kernel), xI_bvn, ← xI_nat]
  congr 1
  omega
theorem xI_sh {s : Int} (h : 0 ≤ s ∧ s < 32) : ((xI s &&& 31).toBitVec.smod 32).toNat = s.toNat := by
  obtain ⟨k, rfl⟩ := Int.eq_ofNat_of_zero_le h.1
  rw [xI_nat]
  have hk : k < 32 := by omega
  have key : ∀ n, n < 32 → ((nI n &&& 31).toBitVec.smod 32).toNat = n := by decide +kernel
  rw [key k hk]
  simp
theorem xI_shl {a s : Int} (h : 0 ≤ s ∧ s < 32) : xI a <<< (xI s &&& 31) = xI (a * 2 ^ s.toNat) := by
  apply xI_ext
  rw [pk_shl _ _ s.toNat (xI_sh h), xI_bvn, xI_bvn]
  have e : ((a % 4294967296).toNat * 2 ^ s.toNat % 2 ^ 32 : Nat) = (((a % 4294967296) * 2 ^ s.toNat) % 4294967296).toNat := by
    have h0 : 0 ≤ a % 4294967296 := Int.emod_nonneg _ (by decide)
    obtain ⟨m, hm⟩ := Int.eq_ofNat_of_zero_le h0
    rw [hm]
    have hk : ((2 ^ s.toNat : Nat) : Int) = 2 ^ s.toNat := by rw [Int.natCast_pow]; rfl
    have e2 : ((m : Int) * 2 ^ s.toNat) % 4294967296 = ((m * 2 ^ s.toNat % 4294967296 : Nat) : Int) := by
      rw [← hk, Int.natCast_emod, Int.natCast_mul]
      rfl
    rw [e2, Int.toNat_natCast, Int.toNat_natCast]
  rw [e]
  congr 1
  rw [Int.mul_emod, Int.emod_emod_of_dvd _ (Int.dvd_refl _), ← Int.mul_emod]
theorem xI_shr {a s : Int} (ha : -2147483648 ≤ a ∧ a < 2147483648) (h : 0 ≤ s ∧ s < 32) : xI a >>> (xI s &&& 31) = xI (a / 2 ^ s.toNat) := by
  apply Int32.toInt_inj.mp
  rw [pk_shr _ _ s.toNat (xI_sh h), xI_toInt ha, Int.shiftRight_eq_div_pow]
  have h1 : (0 : Int) < 2 ^ s.toNat := Int.pow_pos (by decide)
  have hcast : ((2 ^ s.toNat : Nat) : Int) = 2 ^ s.toNat := by rw [Int.natCast_pow]; rfl
  rw [hcast, xI_toInt]
  have hp : (1 : Int) ≤ 2 ^ s.toNat := h1
  constructor
  · have : a / 2 ^ s.toNat ≥ -2147483648 := by
      rw [ge_iff_le, Int.le_ediv_iff_mul_le h1]
      have : (-2147483648 : Int) * 2 ^ s.toNat ≤ -2147483648 * 1 := Int.mul_le_mul_of_nonpos_left (by decide) hp
      omega
    exact this
  · rw [Int.ediv_lt_iff_lt_mul h1]
    have : (2147483648 : Int) * 1 ≤ 2147483648 * 2 ^ s.toNat := Int.mul_le_mul_of_nonneg_left hp (by decide)
    omega
def i8 (v : Int) : Int := (xI v).toInt8.toInt32.toInt
def i16 (v : Int) : Int := (xI v).toInt16.toInt32.toInt
theorem i8_rg (v : Int) : -2147483648 ≤ i8 v ∧ i8 v < 2147483648 := xI_rg _
theorem i16_rg (v : Int) : -2147483648 ≤ i16 v ∧ i16 v < 2147483648 := xI_rg _
/-! longs -/
theorem xJ_add (a b : Int) : xJ a + xJ b = xJ (a + b) := (Int64.ofInt_add a b).symm
theorem xJ_mul (a b : Int) : xJ a * xJ b = xJ (a * b) := (Int64.ofInt_mul a b).symm
theorem xJ_toInt {a : Int} (h : -9223372036854775808 ≤ a ∧ a < 9223372036854775808) : (xJ a).toInt = a := Int64.toInt_ofInt_of_le h.1 h.2
theorem xJ_nat (n : Nat) : xJ (n : Int) = lN n := Int64.ofInt_eq_ofNat
theorem xJ_eq {a b : Int} (ha : -9223372036854775808 ≤ a ∧ a < 9223372036854775808) (hb : -9223372036854775808 ≤ b ∧ b < 9223372036854775808) : xJ a = xJ b ↔ a = b := by
  rw [← Int64.toInt_inj, xJ_toInt ha, xJ_toInt hb]
theorem xJ_div {a b : Int} (ha : 0 ≤ a ∧ a < 9223372036854775808) (hb : 0 < b ∧ b < 9223372036854775808) : xJ a / xJ b = xJ (a / b) := by
  obtain ⟨m, rfl⟩ := Int.eq_ofNat_of_zero_le ha.1
  obtain ⟨k, rfl⟩ := Int.eq_ofNat_of_zero_le (Int.le_of_lt hb.1)
  rw [xJ_nat, xJ_nat, pk_lDiv (by omega) (by omega) (by omega), ← xJ_nat]
  congr 1
theorem xJ_rem {a b : Int} (ha : 0 ≤ a ∧ a < 9223372036854775808) (hb : 0 < b ∧ b < 9223372036854775808) : xJ a - xJ a / xJ b * xJ b = xJ (a % b) := by
  obtain ⟨m, rfl⟩ := Int.eq_ofNat_of_zero_le ha.1
  obtain ⟨k, rfl⟩ := Int.eq_ofNat_of_zero_le (Int.le_of_lt hb.1)
  rw [xJ_nat, xJ_nat, pk_lRem (by omega) (by omega) (by omega), ← xJ_nat]
  congr 1
theorem xJ_of {a : Int} (h : -2147483648 ≤ a ∧ a < 2147483648) : (xI a).toInt64 = xJ a := Int32.toInt64_ofInt (by rw [show Int32.minValue.toInt = -2147483648 from rfl]; exact h.1) (by rw [show Int32.maxValue.toInt = 2147483647 from rfl]; omega)
theorem xJ_i (a : Int) : (xJ a).toInt32 = xI a := Int64.toInt32_ofInt
theorem xJ_cmp {a b : Int} (ha : -9223372036854775808 ≤ a ∧ a < 9223372036854775808) (hb : -9223372036854775808 ≤ b ∧ b < 9223372036854775808) : lg_cmp (xJ a) (xJ b) = xI (if b < a then 1 else if a = b then 0 else -1) := by
  unfold lg_cmp
  simp only [gt_iff_lt, Int64.lt_iff_toInt_lt, ← Int64.toInt_inj, xJ_toInt ha, xJ_toInt hb]
  split
  · rfl
  · split <;> rfl
def b2i (P : Prop) [Decidable P] : Int := if P then 1 else 0
theorem b2i_t {P : Prop} [Decidable P] (h : P) : b2i P = 1 := if_pos h
theorem b2i_f {P : Prop} [Decidable P] (h : ¬ P) : b2i P = 0 := if_neg h
theorem b2i_rg {P : Prop} [Decidable P] : 0 ≤ b2i P ∧ b2i P ≤ 1 := by
  unfold b2i
  split <;> omega
theorem b2i_cg {P P' : Prop} [Decidable P] [Decidable P'] (h : P ↔ P') : b2i P = b2i P' := by
  unfold b2i
  by_cases hp : P
  · rw [if_pos hp, if_pos (h.mp hp)]
  · rw [if_neg hp, if_neg (fun q => hp (h.mpr q))]
end
section
section XR
variable {E : xE} {y : xM} {d mc ms : Nat} {Q : Option Value → Nat → (Nat → va_E) → Prop} {pc : Nat} {ls : List (Option Value)} {st : List Value} {n : Nat} {hp : Nat → va_E} {ce sl : Nat}
theorem V0_st {pc' : Nat} {ls' : List (Option Value)} {st' : List Value} (hl : ls'.length = ls.length)
    (h : ∀ (p : Program) (e : Env) (s : State) (m : MethodId) (args : Array Value) (below : List Frame) (meth : Method) (c : Code) (H : Heap) (locs : List Loc) (la : Array Slot) (Z : State → Prop),
      xOk E y.1 y.2.1 ls.length y.2.2 p s m args meth c → xL la ls → (∀ la', xL la' ls' → W p E.1 e (xRm d mc ms) s m args below meth c H locs ce sl Z (F0 m pc' la' st')) → W p E.1 e (xRm d mc ms) s m args below meth c H locs ce sl Z (F0 m pc la st))
    (k : V0 E y d mc ms Q pc' ls' st' n hp ce sl) : V0 E y d mc ms Q pc ls st n hp ce sl := by
  intro p e s m args below meth c H locs la ok hP hS hL
  exact h p e s m args below meth c H locs la _ ok hL (fun la' hL' => k p e s m args below meth c H locs la' (by rw [hl]; exact ok) hP hS hL')
theorem r_iconst {a : Int} (hd : decode y.2.1 pc = .ok (.iconst a, 1)) (k : V0 E y d mc ms Q (pc + 1) ls (xi a :: st) n hp ce sl) : V0 E y d mc ms Q pc ls st n hp ce sl :=
  V0_st rfl (fun p e s m args below meth c H locs la Z ok hL kk => by exact lv_iconst ok.1 ok.2.1 hd rfl (kk la hL)) k
theorem r_bipush {a : Int} (hd : decode y.2.1 pc = .ok (.bipush a, 2)) (hv : (Int8.ofInt a).toInt32 = xI a := by decide +kernel) (k : V0 E y d mc ms Q (pc + 2) ls (xi a :: st) n hp ce sl) : V0 E y d mc ms Q pc ls st n hp ce sl :=
  V0_st rfl (fun p e s m args below meth c H locs la Z ok hL kk => by exact lv_bipush ok.1 ok.2.1 hd hv (kk la hL)) k
theorem r_sipush {a : Int} (hd : decode y.2.1 pc = .ok (.sipush a, 3)) (hv : (Int16.ofInt a).toInt32 = xI a := by decide +kernel) (k : V0 E y d mc ms Q (pc + 3) ls (xi a :: st) n hp ce sl) : V0 E y d mc ms Q pc ls st n hp ce sl :=
  V0_st rfl (fun p e s m args below meth c H locs la Z ok hL kk => by exact lv_sipush ok.1 ok.2.1 hd hv (kk la hL)) k
theorem r_ldc {idx : Nat} (a : Int) (hd : decode y.2.1 pc = .ok (.ldc idx, 2)) (hw : Cond.constant y.1.cls idx (xI a) ∈ gT) (k : V0 E y d mc ms Q (pc + 2) ls (xi a :: st) n hp ce sl) : V0 E y d mc ms Q pc ls st n hp ce sl :=
  V0_st rfl (fun p e s m args below meth c H locs la Z ok hL kk => by exact lv_ldc ok.1 ok.2.1 ok.2.2.2.1 (ok.2.2.2.2.1 _ hw) hd (kk la hL)) k
theorem r_ldcw {idx : Nat} (a : Int) (hd : decode y.2.1 pc = .ok (.ldc_w idx, 3)) (hw : Cond.constant y.1.cls idx (xI a) ∈ gT) (k : V0 E y d mc ms Q (pc + 3) ls (xi a :: st) n hp ce sl) : V0 E y d mc ms Q pc ls st n hp ce sl :=
  V0_st rfl (fun p e s m args below meth c H locs la Z ok hL kk => by exact lv_ldcw ok.1 ok.2.1 ok.2.2.2.1 (ok.2.2.2.2.1 _ hw) hd (kk la hL)) k
theorem r_ldc2 {idx : Nat} (a : Int) (hd : decode y.2.1 pc = .ok (.ldc2_w idx, 3)) (hw : Cond.constantLong y.1.cls idx (xJ a) ∈ gT) (k : V0 E y d mc ms Q (pc + 3) ls (xl a :: st) n hp ce sl) : V0 E y d mc ms Q pc ls st n hp ce sl :=
  V0_st rfl (fun p e s m args below meth c H locs la Z ok hL kk => by exact lv_ldc2 ok.1 ok.2.1 ok.2.2.2.1 (ok.2.2.2.2.1 _ hw) hd (kk la hL)) k
theorem r_lconst0  (hd : decode y.2.1 pc = .ok (.lconst 0, 1)) (k : V0 E y d mc ms Q (pc + 1) ls (xl 0 :: st) n hp ce sl) : V0 E y d mc ms Q pc ls st n hp ce sl :=
  V0_st rfl (fun p e s m args below meth c H locs la Z ok hL kk => by exact lv_lconst ok.1 ok.2.1 hd rfl (kk la hL)) k
theorem r_lconst1  (hd : decode y.2.1 pc = .ok (.lconst 1, 1)) (k : V0 E y d mc ms Q (pc + 1) ls (xl 1 :: st) n hp ce sl) : V0 E y d mc ms Q pc ls st n hp ce sl :=
  V0_st rfl (fun p e s m args below meth c H locs la Z ok hL kk => by exact lv_lconst ok.1 ok.2.1 hd rfl (kk la hL)) k
theorem r_ild0 {x : Int32} (hd : decode y.2.1 pc = .ok (.iload_n 0, 1)) (k : V0 E y d mc ms Q (pc + 1) (some (.int x) :: ls) (.int x :: st) n hp ce sl) : V0 E y d mc ms Q pc (some (.int x) :: ls) st n hp ce sl :=
  V0_st rfl (fun p e s m args below meth c H locs la Z ok hL kk => lv_iload_n ok.1 ok.2.1 hd rfl (hL.at (k := 0) rfl) (kk la hL)) k
theorem r_lld0 {x : Int64} (hd : decode y.2.1 pc = .ok (.lload_n 0, 1)) (k : V0 E y d mc ms Q (pc + 1) (some (.long x) :: ls) (.long x :: st) n hp ce sl) : V0 E y d mc ms Q pc (some (.long x) :: ls) st n hp ce sl :=
  V0_st rfl (fun p e s m args below meth c H locs la Z ok hL kk => lv_lload_n ok.1 ok.2.1 hd rfl (hL.at (k := 0) rfl) (kk la hL)) k
theorem r_ald0 {x : Nat} (hd : decode y.2.1 pc = .ok (.aload_n 0, 1)) (k : V0 E y d mc ms Q (pc + 1) (some (.ref x) :: ls) (.ref x :: st) n hp ce sl) : V0 E y d mc ms Q pc (some (.ref x) :: ls) st n hp ce sl :=
  V0_st rfl (fun p e s m args below meth c H locs la Z ok hL kk => lv_aload_n ok.1 ok.2.1 hd rfl (hL.at (k := 0) rfl) (kk la hL)) k
theorem r_ist0 {b : Option Value} {x : Int32} (hd : decode y.2.1 pc = .ok (.istore_n 0, 1)) (k : V0 E y d mc ms Q (pc + 1) (some (.int x) :: ls) st n hp ce sl) : V0 E y d mc ms Q pc (b :: ls) (.int x :: st) n hp ce sl :=
  V0_st (ls' := (some (.int x) :: ls)) rfl (fun p e s m args below meth c H locs la Z ok hL kk => lv_istore_n ok.1 ok.2.1 hd rfl hL (by simp only [List.length_cons]; omega) rfl (fun la2 h2 => kk la2 (hL.set1 (i := 0) (by simp only [List.length_cons]; omega) (fun w h0 _ => absurd h0 (by decide)) h2))) k
theorem r_ast0 {b : Option Value} {x : Nat} (hd : decode y.2.1 pc = .ok (.astore_n 0, 1)) (k : V0 E y d mc ms Q (pc + 1) (some (.ref x) :: ls) st n hp ce sl) : V0 E y d mc ms Q pc (b :: ls) (.ref x :: st) n hp ce sl :=
  V0_st (ls' := (some (.ref x) :: ls)) rfl (fun p e s m args below meth c H locs la Z ok hL kk => lv_astore_n ok.1 ok.2.1 hd rfl hL (by simp only [List.length_cons]; omega) rfl (fun la2 h2 => kk la2 (hL.set1 (i := 0) (by simp only [List.length_cons]; omega) (fun w h0 _ => absurd h0 (by decide)) h2))) k
theorem r_lst0 {b b2 : Option Value} {x : Int64} (hd : decode y.2.1 pc = .ok (.lstore_n 0, 1)) (k : V0 E y d mc ms Q (pc + 1) (some (.long x) :: none :: ls) st n hp ce sl) : V0 E y d mc ms Q pc (b :: b2 :: ls) (.long x :: st) n hp ce sl :=
  V0_st (ls' := (some (.long x) :: none :: ls)) rfl (fun p e s m args below meth c H locs la Z ok hL kk => lv_lstore_n ok.1 ok.2.1 hd rfl hL (by simp only [List.length_cons]; omega) rfl (fun la2 h2 => kk la2 (hL.set2 (i := 0) (by simp only [List.length_cons]; omega) (fun w h0 _ => absurd h0 (by decide)) h2))) k
theorem r_iinc0 {a z : Int} (hd : decode y.2.1 pc = .ok (.iinc 0 z, 3)) (k : V0 E y d mc ms Q (pc + 3) (some (xi (a + z)) :: ls) st n hp ce sl) : V0 E y d mc ms Q pc (some (xi a) :: ls) st n hp ce sl :=
  V0_st (ls' := (some (xi (a + z)) :: ls)) rfl (fun p e s m args below meth c H locs la Z ok hL kk => by
    obtain ⟨j, hj⟩ := List.getElem?_of_mem ((xlv_mem (some (xi a) :: ls) 0 (0, xi a)).mpr ⟨0, rfl, rfl⟩)
    exact lv_iinc ok.1 ok.2.1 hd hL (k := j) hj (xI_add a z) (by simp only [List.length_cons]; omega) rfl (fun la2 h2 => kk la2 (hL.set1 (i := 0) (by simp only [List.length_cons]; omega) (fun w h0 _ => absurd h0 (by decide)) h2))) k
theorem r_ild1 {a0 : Option Value} {x : Int32} (hd : decode y.2.1 pc = .ok (.iload_n 1, 1)) (k : V0 E y d mc ms Q (pc + 1) (a0 :: some (.int x) :: ls) (.int x :: st) n hp ce sl) : V0 E y d mc ms Q pc (a0 :: some (.int x) :: ls) st n hp ce sl :=
  V0_st rfl (fun p e s m args below meth c H locs la Z ok hL kk => lv_iload_n ok.1 ok.2.1 hd rfl (hL.at (k := 1) rfl) (kk la hL)) k
theorem r_lld1 {a0 : Option Value} {x : Int64} (hd : decode y.2.1 pc = .ok (.lload_n 1, 1)) (k : V0 E y d mc ms Q (pc + 1) (a0 :: some (.long x) :: ls) (.long x :: st) n hp ce sl) : V0 E y d mc ms Q pc (a0 :: some (.long x) :: ls) st n hp ce sl :=
  V0_st rfl (fun p e s m args below meth c H locs la Z ok hL kk => lv_lload_n ok.1 ok.2.1 hd rfl (hL.at (k := 1) rfl) (kk la hL)) k
theorem r_ald1 {a0 : Option Value} {x : Nat} (hd : decode y.2.1 pc = .ok (.aload_n 1, 1)) (k : V0 E y d mc ms Q (pc + 1) (a0 :: some (.ref x) :: ls) (.ref x :: st) n hp ce sl) : V0 E y d mc ms Q pc (a0 :: some (.ref x) :: ls) st n hp ce sl :=
  V0_st rfl (fun p e s m args below meth c H locs la Z ok hL kk => lv_aload_n ok.1 ok.2.1 hd rfl (hL.at (k := 1) rfl) (kk la hL)) k
theorem r_ist1 {a0 : Option Value} {b : Option Value} {x : Int32} (hd : decode y.2.1 pc = .ok (.istore_n 1, 1)) (hc : xc1 a0 = true) (k : V0 E y d mc ms Q (pc + 1) (a0 :: some (.int x) :: ls) st n hp ce sl) : V0 E y d mc ms Q pc (a0 :: b :: ls) (.int x :: st) n hp ce sl :=
  V0_st (ls' := (a0 :: some (.int x) :: ls)) rfl (fun p e s m args below meth c H locs la Z ok hL kk => lv_istore_n ok.1 ok.2.1 hd rfl hL (by simp only [List.length_cons]; omega) rfl (fun la2 h2 => kk la2 (hL.set1 (i := 1) (by simp only [List.length_cons]; omega) (fun w _ hw => by cases hw; exact hc) h2))) k
theorem r_ast1 {a0 : Option Value} {b : Option Value} {x : Nat} (hd : decode y.2.1 pc = .ok (.astore_n 1, 1)) (hc : xc1 a0 = true) (k : V0 E y d mc ms Q (pc + 1) (a0 :: some (.ref x) :: ls) st n hp ce sl) : V0 E y d mc ms Q pc (a0 :: b :: ls) (.ref x :: st) n hp ce sl :=
  V0_st (ls' := (a0 :: some (.ref x) :: ls)) rfl (fun p e s m args below meth c H locs la Z ok hL kk => lv_astore_n ok.1 ok.2.1 hd rfl hL (by simp only [List.length_cons]; omega) rfl (fun la2 h2 => kk la2 (hL.set1 (i := 1) (by simp only [List.length_cons]; omega) (fun w _ hw => by cases hw; exact hc) h2))) k
theorem r_lst1 {a0 : Option Value} {b b2 : Option Value} {x : Int64} (hd : decode y.2.1 pc = .ok (.lstore_n 1, 1)) (hc : xc1 a0 = true) (k : V0 E y d mc ms Q (pc + 1) (a0 :: some (.long x) :: none :: ls) st n hp ce sl) : V0 E y d mc ms Q pc (a0 :: b :: b2 :: ls) (.long x :: st) n hp ce sl :=
  V0_st (ls' := (a0 :: some (.long x) :: none :: ls)) rfl (fun p e s m args below meth c H locs la Z ok hL kk => lv_lstore_n ok.1 ok.2.1 hd rfl hL (by simp only [List.length_cons]; omega) rfl (fun la2 h2 => kk la2 (hL.set2 (i := 1) (by simp only [List.length_cons]; omega) (fun w _ hw => by cases hw; exact hc) h2))) k
theorem r_iinc1 {a0 : Option Value} {a z : Int} (hd : decode y.2.1 pc = .ok (.iinc 1 z, 3)) (hc : xc1 a0 = true) (k : V0 E y d mc ms Q (pc + 3) (a0 :: some (xi (a + z)) :: ls) st n hp ce sl) : V0 E y d mc ms Q pc (a0 :: some (xi a) :: ls) st n hp ce sl :=
  V0_st (ls' := (a0 :: some (xi (a + z)) :: ls)) rfl (fun p e s m args below meth c H locs la Z ok hL kk => by
    obtain ⟨j, hj⟩ := List.getElem?_of_mem ((xlv_mem (a0 :: some (xi a) :: ls) 0 (1, xi a)).mpr ⟨1, rfl, rfl⟩)
    exact lv_iinc ok.1 ok.2.1 hd hL (k := j) hj (xI_add a z) (by simp only [List.length_cons]; omega) rfl (fun la2 h2 => kk la2 (hL.set1 (i := 1) (by simp only [List.length_cons]; omega) (fun w _ hw => by cases hw; exact hc) h2))) k
theorem r_ild2 {a0 a1 : Option Value} {x : Int32} (hd : decode y.2.1 pc = .ok (.iload_n 2, 1)) (k : V0 E y d mc ms Q (pc + 1) (a0 :: a1 :: some (.int x) :: ls) (.int x :: st) n hp ce sl) : V0 E y d mc ms Q pc (a0 :: a1 :: some (.int x) :: ls) st n hp ce sl :=
  V0_st rfl (fun p e s m args below meth c H locs la Z ok hL kk => lv_iload_n ok.1 ok.2.1 hd rfl (hL.at (k := 2) rfl) (kk la hL)) k
theorem r_lld2 {a0 a1 : Option Value} {x : Int64} (hd : decode y.2.1 pc = .ok (.lload_n 2, 1)) (k : V0 E y d mc ms Q (pc + 1) (a0 :: a1 :: some (.long x) :: ls) (.long x :: st) n hp ce sl) : V0 E y d mc ms Q pc (a0 :: a1 :: some (.long x) :: ls) st n hp ce sl :=
  V0_st rfl (fun p e s m args below meth c H locs la Z ok hL kk => lv_lload_n ok.1 ok.2.1 hd rfl (hL.at (k := 2) rfl) (kk la hL)) k
theorem r_ald2 {a0 a1 : Option Value} {x : Nat} (hd : decode y.2.1 pc = .ok (.aload_n 2, 1)) (k : V0 E y d mc ms Q (pc + 1) (a0 :: a1 :: some (.ref x) :: ls) (.ref x :: st) n hp ce sl) : V0 E y d mc ms Q pc (a0 :: a1 :: some (.ref x) :: ls) st n hp ce sl :=
  V0_st rfl (fun p e s m args below meth c H locs la Z ok hL kk => lv_aload_n ok.1 ok.2.1 hd rfl (hL.at (k := 2) rfl) (kk la hL)) k
theorem r_ist2 {a0 a1 : Option Value} {b : Option Value} {x : Int32} (hd : decode y.2.1 pc = .ok (.istore_n 2, 1)) (hc : xc1 a1 = true) (k : V0 E y d mc ms Q (pc + 1) (a0 :: a1 :: some (.int x) :: ls) st n hp ce sl) : V0 E y d mc ms Q pc (a0 :: a1 :: b :: ls) (.int x :: st) n hp ce sl :=
  V0_st (ls' := (a0 :: a1 :: some (.int x) :: ls)) rfl (fun p e s m args below meth c H locs la Z ok hL kk => lv_istore_n ok.1 ok.2.1 hd rfl hL (by simp only [List.length_cons]; omega) rfl (fun la2 h2 => kk la2 (hL.set1 (i := 2) (by simp only [List.length_cons]; omega) (fun w _ hw => by cases hw; exact hc) h2))) k
theorem r_ast2 {a0 a1 : Option Value} {b : Option Value} {x : Nat} (hd : decode y.2.1 pc = .ok (.astore_n 2, 1)) (hc : xc1 a1 = true) (k : V0 E y d mc ms Q (pc + 1) (a0 :: a1 :: some (.ref x) :: ls) st n hp ce sl) : V0 E y d mc ms Q pc (a0 :: a1 :: b :: ls) (.ref x :: st) n hp ce sl :=
  V0_st (ls' := (a0 :: a1 :: some (.ref x) :: ls)) rfl (fun p e s m args below meth c H locs la Z ok hL kk => lv_astore_n ok.1 ok.2.1 hd rfl hL (by simp only [List.length_cons]; omega) rfl (fun la2 h2 => kk la2 (hL.set1 (i := 2) (by simp only [List.length_cons]; omega) (fun w _ hw => by cases hw; exact hc) h2))) k
theorem r_lst2 {a0 a1 : Option Value} {b b2 : Option Value} {x : Int64} (hd : decode y.2.1 pc = .ok (.lstore_n 2, 1)) (hc : xc1 a1 = true) (k : V0 E y d mc ms Q (pc + 1) (a0 :: a1 :: some (.long x) :: none :: ls) st n hp ce sl) : V0 E y d mc ms Q pc (a0 :: a1 :: b :: b2 :: ls) (.long x :: st) n hp ce sl :=
  V0_st (ls' := (a0 :: a1 :: some (.long x) :: none :: ls)) rfl (fun p e s m args below meth c H locs la Z ok hL kk => lv_lstore_n ok.1 ok.2.1 hd rfl hL (by simp only [List.length_cons]; omega) rfl (fun la2 h2 => kk la2 (hL.set2 (i := 2) (by simp only [List.length_cons]; omega) (fun w _ hw => by cases hw; exact hc) h2))) k
theorem r_iinc2 {a0 a1 : Option Value} {a z : Int} (hd : decode y.2.1 pc = .ok (.iinc 2 z, 3)) (hc : xc1 a1 = true) (k : V0 E y d mc ms Q (pc + 3) (a0 :: a1 :: some (xi (a + z)) :: ls) st n hp ce sl) : V0 E y d mc ms Q pc (a0 :: a1 :: some (xi a) :: ls) st n hp ce sl :=
  V0_st (ls' := (a0 :: a1 :: some (xi (a + z)) :: ls)) rfl (fun p e s m args below meth c H locs la Z ok hL kk => by
    obtain ⟨j, hj⟩ := List.getElem?_of_mem ((xlv_mem (a0 :: a1 :: some (xi a) :: ls) 0 (2, xi a)).mpr ⟨2, rfl, rfl⟩)
    exact lv_iinc ok.1 ok.2.1 hd hL (k := j) hj (xI_add a z) (by simp only [List.length_cons]; omega) rfl (fun la2 h2 => kk la2 (hL.set1 (i := 2) (by simp only [List.length_cons]; omega) (fun w _ hw => by cases hw; exact hc) h2))) k
theorem r_ild3 {a0 a1 a2 : Option Value} {x : Int32} (hd : decode y.2.1 pc = .ok (.iload_n 3, 1)) (k : V0 E y d mc ms Q (pc + 1) (a0 :: a1 :: a2 :: some (.int x) :: ls) (.int x :: st) n hp ce sl) : V0 E y d mc ms Q pc (a0 :: a1 :: a2 :: some (.int x) :: ls) st n hp ce sl :=
  V0_st rfl (fun p e s m args below meth c H locs la Z ok hL kk => lv_iload_n ok.1 ok.2.1 hd rfl (hL.at (k := 3) rfl) (kk la hL)) k
theorem r_lld3 {a0 a1 a2 : Option Value} {x : Int64} (hd : decode y.2.1 pc = .ok (.lload_n 3, 1)) (k : V0 E y d mc ms Q (pc + 1) (a0 :: a1 :: a2 :: some (.long x) :: ls) (.long x :: st) n hp ce sl) : V0 E y d mc ms Q pc (a0 :: a1 :: a2 :: some (.long x) :: ls) st n hp ce sl :=
  V0_st rfl (fun p e s m args below meth c H locs la Z ok hL kk => lv_lload_n ok.1 ok.2.1 hd rfl (hL.at (k := 3) rfl) (kk la hL)) k
theorem r_ald3 {a0 a1 a2 : Option Value} {x : Nat} (hd : decode y.2.1 pc = .ok (.aload_n 3, 1)) (k : V0 E y d mc ms Q (pc + 1) (a0 :: a1 :: a2 :: some (.ref x) :: ls) (.ref x :: st) n hp ce sl) : V0 E y d mc ms Q pc (a0 :: a1 :: a2 :: some (.ref x) :: ls) st n hp ce sl :=
  V0_st rfl (fun p e s m args below meth c H locs la Z ok hL kk => lv_aload_n ok.1 ok.2.1 hd rfl (hL.at (k := 3) rfl) (kk la hL)) k
theorem r_ist3 {a0 a1 a2 : Option Value} {b : Option Value} {x : Int32} (hd : decode y.2.1 pc = .ok (.istore_n 3, 1)) (hc : xc1 a2 = true) (k : V0 E y d mc ms Q (pc + 1) (a0 :: a1 :: a2 :: some (.int x) :: ls) st n hp ce sl) : V0 E y d mc ms Q pc (a0 :: a1 :: a2 :: b :: ls) (.int x :: st) n hp ce sl :=
  V0_st (ls' := (a0 :: a1 :: a2 :: some (.int x) :: ls)) rfl (fun p e s m args below meth c H locs la Z ok hL kk => lv_istore_n ok.1 ok.2.1 hd rfl hL (by simp only [List.length_cons]; omega) rfl (fun la2 h2 => kk la2 (hL.set1 (i := 3) (by simp only [List.length_cons]; omega) (fun w _ hw => by cases hw; exact hc) h2))) k
theorem r_ast3 {a0 a1 a2 : Option Value} {b : Option Value} {x : Nat} (hd : decode y.2.1 pc = .ok (.astore_n 3, 1)) (hc : xc1 a2 = true) (k : V0 E y d mc ms Q (pc + 1) (a0 :: a1 :: a2 :: some (.ref x) :: ls) st n hp ce sl) : V0 E y d mc ms Q pc (a0 :: a1 :: a2 :: b :: ls) (.ref x :: st) n hp ce sl :=
  V0_st (ls' := (a0 :: a1 :: a2 :: some (.ref x) :: ls)) rfl (fun p e s m args below meth c H locs la Z ok hL kk => lv_astore_n ok.1 ok.2.1 hd rfl hL (by simp only [List.length_cons]; omega) rfl (fun la2 h2 => kk la2 (hL.set1 (i := 3) (by simp only [List.length_cons]; omega) (fun w _ hw => by cases hw; exact hc) h2))) k
theorem r_lst3 {a0 a1 a2 : Option Value} {b b2 : Option Value} {x : Int64} (hd : decode y.2.1 pc = .ok (.lstore_n 3, 1)) (hc : xc1 a2 = true) (k : V0 E y d mc ms Q (pc + 1) (a0 :: a1 :: a2 :: some (.long x) :: none :: ls) st n hp ce sl) : V0 E y d mc ms Q pc (a0 :: a1 :: a2 :: b :: b2 :: ls) (.long x :: st) n hp ce sl :=
  V0_st (ls' := (a0 :: a1 :: a2 :: some (.long x) :: none :: ls)) rfl (fun p e s m args below meth c H locs la Z ok hL kk => lv_lstore_n ok.1 ok.2.1 hd rfl hL (by simp only [List.length_cons]; omega) rfl (fun la2 h2 => kk la2 (hL.set2 (i := 3) (by simp only [List.length_cons]; omega) (fun w _ hw => by cases hw; exact hc) h2))) k
theorem r_iinc3 {a0 a1 a2 : Option Value} {a z : Int} (hd : decode y.2.1 pc = .ok (.iinc 3 z, 3)) (hc : xc1 a2 = true) (k : V0 E y d mc ms Q (pc + 3) (a0 :: a1 :: a2 :: some (xi (a + z)) :: ls) st n hp ce sl) : V0 E y d mc ms Q pc (a0 :: a1 :: a2 :: some (xi a) :: ls) st n hp ce sl :=
  V0_st (ls' := (a0 :: a1 :: a2 :: some (xi (a + z)) :: ls)) rfl (fun p e s m args below meth c H locs la Z ok hL kk => by
    obtain ⟨j, hj⟩ := List.getElem?_of_mem ((xlv_mem (a0 :: a1 :: a2 :: some (xi a) :: ls) 0 (3, xi a)).mpr ⟨3, rfl, rfl⟩)
    exact lv_iinc ok.1 ok.2.1 hd hL (k := j) hj (xI_add a z) (by simp only [List.length_cons]; omega) rfl (fun la2 h2 => kk la2 (hL.set1 (i := 3) (by simp only [List.length_cons]; omega) (fun w _ hw => by cases hw; exact hc) h2))) k
theorem r_ild4 {a0 a1 a2 a3 : Option Value} {x : Int32} (hd : decode y.2.1 pc = .ok (.iload 4, 2)) (k : V0 E y d mc ms Q (pc + 2) (a0 :: a1 :: a2 :: a3 :: some (.int x) :: ls) (.int x :: st) n hp ce sl) : V0 E y d mc ms Q pc (a0 :: a1 :: a2 :: a3 :: some (.int x) :: ls) st n hp ce sl :=
  V0_st rfl (fun p e s m args below meth c H locs la Z ok hL kk => lv_iload ok.1 ok.2.1 hd (hL.at (k := 4) rfl) (kk la hL)) k
theorem r_lld4 {a0 a1 a2 a3 : Option Value} {x : Int64} (hd : decode y.2.1 pc = .ok (.lload 4, 2)) (k : V0 E y d mc ms Q (pc + 2) (a0 :: a1 :: a2 :: a3 :: some (.long x) :: ls) (.long x :: st) n hp ce sl) : V0 E y d mc ms Q pc (a0 :: a1 :: a2 :: a3 :: some (.long x) :: ls) st n hp ce sl :=
  V0_st rfl (fun p e s m args below meth c H locs la Z ok hL kk => lv_lload ok.1 ok.2.1 hd (hL.at (k := 4) rfl) (kk la hL)) k
theorem r_ald4 {a0 a1 a2 a3 : Option Value} {x : Nat} (hd : decode y.2.1 pc = .ok (.aload 4, 2)) (k : V0 E y d mc ms Q (pc + 2) (a0 :: a1 :: a2 :: a3 :: some (.ref x) :: ls) (.ref x :: st) n hp ce sl) : V0 E y d mc ms Q pc (a0 :: a1 :: a2 :: a3 :: some (.ref x) :: ls) st n hp ce sl :=
  V0_st rfl (fun p e s m args below meth c H locs la Z ok hL kk => lv_aload ok.1 ok.2.1 hd (hL.at (k := 4) rfl) (kk la hL)) k
theorem r_ist4 {a0 a1 a2 a3 : Option Value} {b : Option Value} {x : Int32} (hd : decode y.2.1 pc = .ok (.istore 4, 2)) (hc : xc1 a3 = true) (k : V0 E y d mc ms Q (pc + 2) (a0 :: a1 :: a2 :: a3 :: some (.int x) :: ls) st n hp ce sl) : V0 E y d mc ms Q pc (a0 :: a1 :: a2 :: a3 :: b :: ls) (.int x :: st) n hp ce sl :=
  V0_st (ls' := (a0 :: a1 :: a2 :: a3 :: some (.int x) :: ls)) rfl (fun p e s m args below meth c H locs la Z ok hL kk => lv_istore ok.1 ok.2.1 hd hL (by simp only [List.length_cons]; omega) rfl (fun la2 h2 => kk la2 (hL.set1 (i := 4) (by simp only [List.length_cons]; omega) (fun w _ hw => by cases hw; exact hc) h2))) k
theorem r_ast4 {a0 a1 a2 a3 : Option Value} {b : Option Value} {x : Nat} (hd : decode y.2.1 pc = .ok (.astore 4, 2)) (hc : xc1 a3 = true) (k : V0 E y d mc ms Q (pc + 2) (a0 :: a1 :: a2 :: a3 :: some (.ref x) :: ls) st n hp ce sl) : V0 E y d mc ms Q pc (a0 :: a1 :: a2 :: a3 :: b :: ls) (.ref x :: st) n hp ce sl :=
  V0_st (ls' := (a0 :: a1 :: a2 :: a3 :: some (.ref x) :: ls)) rfl (fun p e s m args below meth c H locs la Z ok hL kk => lv_astore ok.1 ok.2.1 hd hL (by simp only [List.length_cons]; omega) rfl (fun la2 h2 => kk la2 (hL.set1 (i := 4) (by simp only [List.length_cons]; omega) (fun w _ hw => by cases hw; exact hc) h2))) k
theorem r_lst4 {a0 a1 a2 a3 : Option Value} {b b2 : Option Value} {x : Int64} (hd : decode y.2.1 pc = .ok (.lstore 4, 2)) (hc : xc1 a3 = true) (k : V0 E y d mc ms Q (pc + 2) (a0 :: a1 :: a2 :: a3 :: some (.long x) :: none :: ls) st n hp ce sl) : V0 E y d mc ms Q pc (a0 :: a1 :: a2 :: a3 :: b :: b2 :: ls) (.long x :: st) n hp ce sl :=
  V0_st (ls' := (a0 :: a1 :: a2 :: a3 :: some (.long x) :: none :: ls)) rfl (fun p e s m args below meth c H locs la Z ok hL kk => lv_lstore ok.1 ok.2.1 hd hL (by simp only [List.length_cons]; omega) rfl (fun la2 h2 => kk la2 (hL.set2 (i := 4) (by simp only [List.length_cons]; omega) (fun w _ hw => by cases hw; exact hc) h2))) k
theorem r_iinc4 {a0 a1 a2 a3 : Option Value} {a z : Int} (hd : decode y.2.1 pc = .ok (.iinc 4 z, 3)) (hc : xc1 a3 = true) (k : V0 E y d mc ms Q (pc + 3) (a0 :: a1 :: a2 :: a3 :: some (xi (a + z)) :: ls) st n hp ce sl) : V0 E y d mc ms Q pc (a0 :: a1 :: a2 :: a3 :: some (xi a) :: ls) st n hp ce sl :=
  V0_st (ls' := (a0 :: a1 :: a2 :: a3 :: some (xi (a + z)) :: ls)) rfl (fun p e s m args below meth c H locs la Z ok hL kk => by
    obtain ⟨j, hj⟩ := List.getElem?_of_mem ((xlv_mem (a0 :: a1 :: a2 :: a3 :: some (xi a) :: ls) 0 (4, xi a)).mpr ⟨4, rfl, rfl⟩)
    exact lv_iinc ok.1 ok.2.1 hd hL (k := j) hj (xI_add a z) (by simp only [List.length_cons]; omega) rfl (fun la2 h2 => kk la2 (hL.set1 (i := 4) (by simp only [List.length_cons]; omega) (fun w _ hw => by cases hw; exact hc) h2))) k
theorem r_ild5 {a0 a1 a2 a3 a4 : Option Value} {x : Int32} (hd : decode y.2.1 pc = .ok (.iload 5, 2)) (k : V0 E y d mc ms Q (pc + 2) (a0 :: a1 :: a2 :: a3 :: a4 :: some (.int x) :: ls) (.int x :: st) n hp ce sl) : V0 E y d mc ms Q pc (a0 :: a1 :: a2 :: a3 :: a4 :: some (.int x) :: ls) st n hp ce sl :=
  V0_st rfl (fun p e s m args below meth c H locs la Z ok hL kk => lv_iload ok.1 ok.2.1 hd (hL.at (k := 5) rfl) (kk la hL)) k
theorem r_lld5 {a0 a1 a2 a3 a4 : Option Value} {x : Int64} (hd : decode y.2.1 pc = .ok (.lload 5, 2)) (k : V0 E y d mc ms Q (pc + 2) (a0 :: a1 :: a2 :: a3 :: a4 :: some (.long x) :: ls) (.long x :: st) n hp ce sl) : V0 E y d mc ms Q pc (a0 :: a1 :: a2 :: a3 :: a4 :: some (.long x) :: ls) st n hp ce sl :=
  V0_st rfl (fun p e s m args below meth c H locs la Z ok hL kk => lv_lload ok.1 ok.2.1 hd (hL.at (k := 5) rfl) (kk la hL)) k
theorem r_ald5 {a0 a1 a2 a3 a4 : Option Value} {x : Nat} (hd : decode y.2.1 pc = .ok (.aload 5, 2)) (k : V0 E y d mc ms Q (pc + 2) (a0 :: a1 :: a2 :: a3 :: a4 :: some (.ref x) :: ls) (.ref x :: st) n hp ce sl) : V0 E y d mc ms Q pc (a0 :: a1 :: a2 :: a3 :: a4 :: some (.ref x) :: ls) st n hp ce sl :=
  V0_st rfl (fun p e s m args below meth c H locs la Z ok hL kk => lv_aload ok.1 ok.2.1 hd (hL.at (k := 5) rfl) (kk la hL)) k
theorem r_ist5 {a0 a1 a2 a3 a4 : Option Value} {b : Option Value} {x : Int32} (hd : decode y.2.1 pc = .ok (.istore 5, 2)) (hc : xc1 a4 = true) (k : V0 E y d mc ms Q (pc + 2) (a0 :: a1 :: a2 :: a3 :: a4 :: some (.int x) :: ls) st n hp ce sl) : V0 E y d mc ms Q pc (a0 :: a1 :: a2 :: a3 :: a4 :: b :: ls) (.int x :: st) n hp ce sl :=
  V0_st (ls' := (a0 :: a1 :: a2 :: a3 :: a4 :: some (.int x) :: ls)) rfl (fun p e s m args below meth c H locs la Z ok hL kk => lv_istore ok.1 ok.2.1 hd hL (by simp only [List.length_cons]; omega) rfl (fun la2 h2 => kk la2 (hL.set1 (i := 5) (by simp only [List.length_cons]; omega) (fun w _ hw => by cases hw; exact hc) h2))) k
theorem r_ast5 {a0 a1 a2 a3 a4 : Option Value} {b : Option Value} {x : Nat} (hd : decode y.2.1 pc = .ok (.astore 5, 2)) (hc : xc1 a4 = true) (k : V0 E y d mc ms Q (pc + 2) (a0 :: a1 :: a2 :: a3 :: a4 :: some (.ref x) :: ls) st n hp ce sl) : V0 E y d mc ms Q pc (a0 :: a1 :: a2 :: a3 :: a4 :: b :: ls) (.ref x :: st) n hp ce sl :=
  V0_st (ls' := (a0 :: a1 :: a2 :: a3 :: a4 :: some (.ref x) :: ls)) rfl (fun p e s m args below meth c H locs la Z ok hL kk => lv_astore ok.1 ok.2.1 hd hL (by simp only [List.length_cons]; omega) rfl (fun la2 h2 => kk la2 (hL.set1 (i := 5) (by simp only [List.length_cons]; omega) (fun w _ hw => by cases hw; exact hc) h2))) k
theorem r_lst5 {a0 a1 a2 a3 a4 : Option Value} {b b2 : Option Value} {x : Int64} (hd : decode y.2.1 pc = .ok (.lstore 5, 2)) (hc : xc1 a4 = true) (k : V0 E y d mc ms Q (pc + 2) (a0 :: a1 :: a2 :: a3 :: a4 :: some (.long x) :: none :: ls) st n hp ce sl) : V0 E y d mc ms Q pc (a0 :: a1 :: a2 :: a3 :: a4 :: b :: b2 :: ls) (.long x :: st) n hp ce sl :=
  V0_st (ls' := (a0 :: a1 :: a2 :: a3 :: a4 :: some (.long x) :: none :: ls)) rfl (fun p e s m args below meth c H locs la Z ok hL kk => lv_lstore ok.1 ok.2.1 hd hL (by simp only [List.length_cons]; omega) rfl (fun la2 h2 => kk la2 (hL.set2 (i := 5) (by simp only [List.length_cons]; omega) (fun w _ hw => by cases hw; exact hc) h2))) k
theorem r_iinc5 {a0 a1 a2 a3 a4 : Option Value} {a z : Int} (hd : decode y.2.1 pc = .ok (.iinc 5 z, 3)) (hc : xc1 a4 = true) (k : V0 E y d mc ms Q (pc + 3) (a0 :: a1 :: a2 :: a3 :: a4 :: some (xi (a + z)) :: ls) st n hp ce sl) : V0 E y d mc ms Q pc (a0 :: a1 :: a2 :: a3 :: a4 :: some (xi a) :: ls) st n hp ce sl :=
  V0_st (ls' := (a0 :: a1 :: a2 :: a3 :: a4 :: some (xi (a + z)) :: ls)) rfl (fun p e s m args below meth c H locs la Z ok hL kk => by
    obtain ⟨j, hj⟩ := List.getElem?_of_mem ((xlv_mem (a0 :: a1 :: a2 :: a3 :: a4 :: some (xi a) :: ls) 0 (5, xi a)).mpr ⟨5, rfl, rfl⟩)
    exact lv_iinc ok.1 ok.2.1 hd hL (k := j) hj (xI_add a z) (by simp only [List.length_cons]; omega) rfl (fun la2 h2 => kk la2 (hL.set1 (i := 5) (by simp only [List.length_cons]; omega) (fun w _ hw => by cases hw; exact hc) h2))) k
theorem r_ild6 {a0 a1 a2 a3 a4 a5 : Option Value} {x : Int32} (hd : decode y.2.1 pc = .ok (.iload 6, 2)) (k : V0 E y d mc ms Q (pc + 2) (a0 :: a1 :: a2 :: a3 :: a4 :: a5 :: some (.int x) :: ls) (.int x :: st) n hp ce sl) : V0 E y d mc ms Q pc (a0 :: a1 :: a2 :: a3 :: a4 :: a5 :: some (.int x) :: ls) st n hp ce sl :=
  V0_st rfl (fun p e s m args below meth c H locs la Z ok hL kk => lv_iload ok.1 ok.2.1 hd (hL.at (k := 6) rfl) (kk la hL)) k
theorem r_lld6 {a0 a1 a2 a3 a4 a5 : Option Value} {x : Int64} (hd : decode y.2.1 pc = .ok (.lload 6, 2)) (k : V0 E y d mc ms Q (pc + 2) (a0 :: a1 :: a2 :: a3 :: a4 :: a5 :: some (.long x) :: ls) (.long x :: st) n hp ce sl) : V0 E y d mc ms Q pc (a0 :: a1 :: a2 :: a3 :: a4 :: a5 :: some (.long x) :: ls) st n hp ce sl :=
  V0_st rfl (fun p e s m args below meth c H locs la Z ok hL kk => lv_lload ok.1 ok.2.1 hd (hL.at (k := 6) rfl) (kk la hL)) k
theorem r_ald6 {a0 a1 a2 a3 a4 a5 : Option Value} {x : Nat} (hd : decode y.2.1 pc = .ok (.aload 6, 2)) (k : V0 E y d mc ms Q (pc + 2) (a0 :: a1 :: a2 :: a3 :: a4 :: a5 :: some (.ref x) :: ls) (.ref x :: st) n hp ce sl) : V0 E y d mc ms Q pc (a0 :: a1 :: a2 :: a3 :: a4 :: a5 :: some (.ref x) :: ls) st n hp ce sl :=
  V0_st rfl (fun p e s m args below meth c H locs la Z ok hL kk => lv_aload ok.1 ok.2.1 hd (hL.at (k := 6) rfl) (kk la hL)) k
theorem r_ist6 {a0 a1 a2 a3 a4 a5 : Option Value} {b : Option Value} {x : Int32} (hd : decode y.2.1 pc = .ok (.istore 6, 2)) (hc : xc1 a5 = true) (k : V0 E y d mc ms Q (pc + 2) (a0 :: a1 :: a2 :: a3 :: a4 :: a5 :: some (.int x) :: ls) st n hp ce sl) : V0 E y d mc ms Q pc (a0 :: a1 :: a2 :: a3 :: a4 :: a5 :: b :: ls) (.int x :: st) n hp ce sl :=
  V0_st (ls' := (a0 :: a1 :: a2 :: a3 :: a4 :: a5 :: some (.int x) :: ls)) rfl (fun p e s m args below meth c H locs la Z ok hL kk => lv_istore ok.1 ok.2.1 hd hL (by simp only [List.length_cons]; omega) rfl (fun la2 h2 => kk la2 (hL.set1 (i := 6) (by simp only [List.length_cons]; omega) (fun w _ hw => by cases hw; exact hc) h2))) k
theorem r_ast6 {a0 a1 a2 a3 a4 a5 : Option Value} {b : Option Value} {x : Nat} (hd : decode y.2.1 pc = .ok (.astore 6, 2)) (hc : xc1 a5 = true) (k : V0 E y d mc ms Q (pc + 2) (a0 :: a1 :: a2 :: a3 :: a4 :: a5 :: some (.ref x) :: ls) st n hp ce sl) : V0 E y d mc ms Q pc (a0 :: a1 :: a2 :: a3 :: a4 :: a5 :: b :: ls) (.ref x :: st) n hp ce sl :=
  V0_st (ls' := (a0 :: a1 :: a2 :: a3 :: a4 :: a5 :: some (.ref x) :: ls)) rfl (fun p e s m args below meth c H locs la Z ok hL kk => lv_astore ok.1 ok.2.1 hd hL (by simp only [List.length_cons]; omega) rfl (fun la2 h2 => kk la2 (hL.set1 (i := 6) (by simp only [List.length_cons]; omega) (fun w _ hw => by cases hw; exact hc) h2))) k
theorem r_lst6 {a0 a1 a2 a3 a4 a5 : Option Value} {b b2 : Option Value} {x : Int64} (hd : decode y.2.1 pc = .ok (.lstore 6, 2)) (hc : xc1 a5 = true) (k : V0 E y d mc ms Q (pc + 2) (a0 :: a1 :: a2 :: a3 :: a4 :: a5 :: some (.long x) :: none :: ls) st n hp ce sl) : V0 E y d mc ms Q pc (a0 :: a1 :: a2 :: a3 :: a4 :: a5 :: b :: b2 :: ls) (.long x :: st) n hp ce sl :=
  V0_st (ls' := (a0 :: a1 :: a2 :: a3 :: a4 :: a5 :: some (.long x) :: none :: ls)) rfl (fun p e s m args below meth c H locs la Z ok hL kk => lv_lstore ok.1 ok.2.1 hd hL (by simp only [List.length_cons]; omega) rfl (fun la2 h2 => kk la2 (hL.set2 (i := 6) (by simp only [List.length_cons]; omega) (fun w _ hw => by cases hw; exact hc) h2))) k
theorem r_iinc6 {a0 a1 a2 a3 a4 a5 : Option Value} {a z : Int} (hd : decode y.2.1 pc = .ok (.iinc 6 z, 3)) (hc : xc1 a5 = true) (k : V0 E y d mc ms Q (pc + 3) (a0 :: a1 :: a2 :: a3 :: a4 :: a5 :: some (xi (a + z)) :: ls) st n hp ce sl) : V0 E y d mc ms Q pc (a0 :: a1 :: a2 :: a3 :: a4 :: a5 :: some (xi a) :: ls) st n hp ce sl :=
  V0_st (ls' := (a0 :: a1 :: a2 :: a3 :: a4 :: a5 :: some (xi (a + z)) :: ls)) rfl (fun p e s m args below meth c H locs la Z ok hL kk => by
    obtain ⟨j, hj⟩ := List.getElem?_of_mem ((xlv_mem (a0 :: a1 :: a2 :: a3 :: a4 :: a5 :: some (xi a) :: ls) 0 (6, xi a)).mpr ⟨6, rfl, rfl⟩)
    exact lv_iinc ok.1 ok.2.1 hd hL (k := j) hj (xI_add a z) (by simp only [List.length_cons]; omega) rfl (fun la2 h2 => kk la2 (hL.set1 (i := 6) (by simp only [List.length_cons]; omega) (fun w _ hw => by cases hw; exact hc) h2))) k
theorem r_ild7 {a0 a1 a2 a3 a4 a5 a6 : Option Value} {x : Int32} (hd : decode y.2.1 pc = .ok (.iload 7, 2)) (k : V0 E y d mc ms Q (pc + 2) (a0 :: a1 :: a2 :: a3 :: a4 :: a5 :: a6 :: some (.int x) :: ls) (.int x :: st) n hp ce sl) : V0 E y d mc ms Q pc (a0 :: a1 :: a2 :: a3 :: a4 :: a5 :: a6 :: some (.int x) :: ls) st n hp ce sl :=
  V0_st rfl (fun p e s m args below meth c H locs la Z ok hL kk => lv_iload ok.1 ok.2.1 hd (hL.at (k := 7) rfl) (kk la hL)) k
theorem r_lld7 {a0 a1 a2 a3 a4 a5 a6 : Option Value} {x : Int64} (hd : decode y.2.1 pc = .ok (.lload 7, 2)) (k : V0 E y d mc ms Q (pc + 2) (a0 :: a1 :: a2 :: a3 :: a4 :: a5 :: a6 :: some (.long x) :: ls) (.long x :: st) n hp ce sl) : V0 E y d mc ms Q pc (a0 :: a1 :: a2 :: a3 :: a4 :: a5 :: a6 :: some (.long x) :: ls) st n hp ce sl :=
  V0_st rfl (fun p e s m args below meth c H locs la Z ok hL kk => lv_lload ok.1 ok.2.1 hd (hL.at (k := 7) rfl) (kk la hL)) k
theorem r_ald7 {a0 a1 a2 a3 a4 a5 a6 : Option Value} {x : Nat} (hd : decode y.2.1 pc = .ok (.aload 7, 2)) (k : V0 E y d mc ms Q (pc + 2) (a0 :: a1 :: a2 :: a3 :: a4 :: a5 :: a6 :: some (.ref x) :: ls) (.ref x :: st) n hp ce sl) : V0 E y d mc ms Q pc (a0 :: a1 :: a2 :: a3 :: a4 :: a5 :: a6 :: some (.ref x) :: ls) st n hp ce sl :=
  V0_st rfl (fun p e s m args below meth c H locs la Z ok hL kk => lv_aload ok.1 ok.2.1 hd (hL.at (k := 7) rfl) (kk la hL)) k
theorem r_ist7 {a0 a1 a2 a3 a4 a5 a6 : Option Value} {b : Option Value} {x : Int32} (hd : decode y.2.1 pc = .ok (.istore 7, 2)) (hc : xc1 a6 = true) (k : V0 E y d mc ms Q (pc + 2) (a0 :: a1 :: a2 :: a3 :: a4 :: a5 :: a6 :: some (.int x) :: ls) st n hp ce sl) : V0 E y d mc ms Q pc (a0 :: a1 :: a2 :: a3 :: a4 :: a5 :: a6 :: b :: ls) (.int x :: st) n hp ce sl :=
  V0_st (ls' := (a0 :: a1 :: a2 :: a3 :: a4 :: a5 :: a6 :: some (.int x) :: ls)) rfl (fun p e s m args below meth c H locs la Z ok hL kk => lv_istore ok.1 ok.2.1 hd hL (by simp only [List.length_cons]; omega) rfl (fun la2 h2 => kk la2 (hL.set1 (i := 7) (by simp only [List.length_cons]; omega) (fun w _ hw => by cases hw; exact hc) h2))) k
theorem r_ast7 {a0 a1 a2 a3 a4 a5 a6 : Option Value} {b : Option Value} {x : Nat} (hd : decode y.2.1 pc = .ok (.astore 7, 2)) (hc : xc1 a6 = true) (k : V0 E y d mc ms Q (pc + 2) (a0 :: a1 :: a2 :: a3 :: a4 :: a5 :: a6 :: some (.ref x) :: ls) st n hp ce sl) : V0 E y d mc ms Q pc (a0 :: a1 :: a2 :: a3 :: a4 :: a5 :: a6 :: b :: ls) (.ref x :: st) n hp ce sl :=
  V0_st (ls' := (a0 :: a1 :: a2 :: a3 :: a4 :: a5 :: a6 :: some (.ref x) :: ls)) rfl (fun p e s m args below meth c H locs la Z ok hL kk => lv_astore ok.1 ok.2.1 hd hL (by simp only [List.length_cons]; omega) rfl (fun la2 h2 => kk la2 (hL.set1 (i := 7) (by simp only [List.length_cons]; omega) (fun w _ hw => by cases hw; exact hc) h2))) k
theorem r_lst7 {a0 a1 a2 a3 a4 a5 a6 : Option Value} {b b2 : Option Value} {x : Int64} (hd : decode y.2.1 pc = .ok (.lstore 7, 2)) (hc : xc1 a6 = true) (k : V0 E y d mc ms Q (pc + 2) (a0 :: a1 :: a2 :: a3 :: a4 :: a5 :: a6 :: some (.long x) :: none :: ls) st n hp ce sl) : V0 E y d mc ms Q pc (a0 :: a1 :: a2 :: a3 :: a4 :: a5 :: a6 :: b :: b2 :: ls) (.long x :: st) n hp ce sl :=
  V0_st (ls' := (a0 :: a1 :: a2 :: a3 :: a4 :: a5 :: a6 :: some (.long x) :: none :: ls)) rfl (fun p e s m args below meth c H locs la Z ok hL kk => lv_lstore ok.1 ok.2.1 hd hL (by simp only [List.length_cons]; omega) rfl (fun la2 h2 => kk la2 (hL.set2 (i := 7) (by simp only [List.length_cons]; omega) (fun w _ hw => by cases hw; exact hc) h2))) k
theorem r_iinc7 {a0 a1 a2 a3 a4 a5 a6 : Option Value} {a z : Int} (hd : decode y.2.1 pc = .ok (.iinc 7 z, 3)) (hc : xc1 a6 = true) (k : V0 E y d mc ms Q (pc + 3) (a0 :: a1 :: a2 :: a3 :: a4 :: a5 :: a6 :: some (xi (a + z)) :: ls) st n hp ce sl) : V0 E y d mc ms Q pc (a0 :: a1 :: a2 :: a3 :: a4 :: a5 :: a6 :: some (xi a) :: ls) st n hp ce sl :=
  V0_st (ls' := (a0 :: a1 :: a2 :: a3 :: a4 :: a5 :: a6 :: some (xi (a + z)) :: ls)) rfl (fun p e s m args below meth c H locs la Z ok hL kk => by
    obtain ⟨j, hj⟩ := List.getElem?_of_mem ((xlv_mem (a0 :: a1 :: a2 :: a3 :: a4 :: a5 :: a6 :: some (xi a) :: ls) 0 (7, xi a)).mpr ⟨7, rfl, rfl⟩)
    exact lv_iinc ok.1 ok.2.1 hd hL (k := j) hj (xI_add a z) (by simp only [List.length_cons]; omega) rfl (fun la2 h2 => kk la2 (hL.set1 (i := 7) (by simp only [List.length_cons]; omega) (fun w _ hw => by cases hw; exact hc) h2))) k
theorem r_ild8 {a0 a1 a2 a3 a4 a5 a6 a7 : Option Value} {x : Int32} (hd : decode y.2.1 pc = .ok (.iload 8, 2)) (k : V0 E y d mc ms Q (pc + 2) (a0 :: a1 :: a2 :: a3 :: a4 :: a5 :: a6 :: a7 :: some (.int x) :: ls) (.int x :: st) n hp ce sl) : V0 E y d mc ms Q pc (a0 :: a1 :: a2 :: a3 :: a4 :: a5 :: a6 :: a7 :: some (.int x) :: ls) st n hp ce sl :=
  V0_st rfl (fun p e s m args below meth c H locs la Z ok hL kk => lv_iload ok.1 ok.2.1 hd (hL.at (k := 8) rfl) (kk la hL)) k
theorem r_lld8 {a0 a1 a2 a3 a4 a5 a6 a7 : Option Value} {x : Int64} (hd : decode y.2.1 pc = .ok (.lload 8, 2)) (k : V0 E y d mc ms Q (pc + 2) (a0 :: a1 :: a2 :: a3 :: a4 :: a5 :: a6 :: a7 :: some (.long x) :: ls) (.long x :: st) n hp ce sl) : V0 E y d mc ms Q pc (a0 :: a1 :: a2 :: a3 :: a4 :: a5 :: a6 :: a7 :: some (.long x) :: ls) st n hp ce sl :=
  V0_st rfl (fun p e s m args below meth c H locs la Z ok hL kk => lv_lload ok.1 ok.2.1 hd (hL.at (k := 8) rfl) (kk la hL)) k
theorem r_ald8 {a0 a1 a2 a3 a4 a5 a6 a7 : Option Value} {x : Nat} (hd : decode y.2.1 pc = .ok (.aload 8, 2)) (k : V0 E y d mc ms Q (pc + 2) (a0 :: a1 :: a2 :: a3 :: a4 :: a5 :: a6 :: a7 :: some (.ref x) :: ls) (.ref x :: st) n hp ce sl) : V0 E y d mc ms Q pc (a0 :: a1 :: a2 :: a3 :: a4 :: a5 :: a6 :: a7 :: some (.ref x) :: ls) st n hp ce sl :=
  V0_st rfl (fun p e s m args below meth c H locs la Z ok hL kk => lv_aload ok.1 ok.2.1 hd (hL.at (k := 8) rfl) (kk la hL)) k
theorem r_ist8 {a0 a1 a2 a3 a4 a5 a6 a7 : Option Value} {b : Option Value} {x : Int32} (hd : decode y.2.1 pc = .ok (.istore 8, 2)) (hc : xc1 a7 = true) (k : V0 E y d mc ms Q (pc + 2) (a0 :: a1 :: a2 :: a3 :: a4 :: a5 :: a6 :: a7 :: some (.int x) :: ls) st n hp ce sl) : V0 E y d mc ms Q pc (a0 :: a1 :: a2 :: a3 :: a4 :: a5 :: a6 :: a7 :: b :: ls) (.int x :: st) n hp ce sl :=
  V0_st (ls' := (a0 :: a1 :: a2 :: a3 :: a4 :: a5 :: a6 :: a7 :: some (.int x) :: ls)) rfl (fun p e s m args below meth c H locs la Z ok hL kk => lv_istore ok.1 ok.2.1 hd hL (by simp only [List.length_cons]; omega) rfl (fun la2 h2 => kk la2 (hL.set1 (i := 8) (by simp only [List.length_cons]; omega) (fun w _ hw => by cases hw; exact hc) h2))) k
theorem r_ast8 {a0 a1 a2 a3 a4 a5 a6 a7 : Option Value} {b : Option Value} {x : Nat} (hd : decode y.2.1 pc = .ok (.astore 8, 2)) (hc : xc1 a7 = true) (k : V0 E y d mc ms Q (pc + 2) (a0 :: a1 :: a2 :: a3 :: a4 :: a5 :: a6 :: a7 :: some (.ref x) :: ls) st n hp ce sl) : V0 E y d mc ms Q pc (a0 :: a1 :: a2 :: a3 :: a4 :: a5 :: a6 :: a7 :: b :: ls) (.ref x :: st) n hp ce sl :=
  V0_st (ls' := (a0 :: a1 :: a2 :: a3 :: a4 :: a5 :: a6 :: a7 :: some (.ref x) :: ls)) rfl (fun p e s m args below meth c H locs la Z ok hL kk => lv_astore ok.1 ok.2.1 hd hL (by simp only [List.length_cons]; omega) rfl (fun la2 h2 => kk la2 (hL.set1 (i := 8) (by simp only [List.length_cons]; omega) (fun w _ hw => by cases hw; exact hc) h2))) k
theorem r_lst8 {a0 a1 a2 a3 a4 a5 a6 a7 : Option Value} {b b2 : Option Value} {x : Int64} (hd : decode y.2.1 pc = .ok (.lstore 8, 2)) (hc : xc1 a7 = true) (k : V0 E y d mc ms Q (pc + 2) (a0 :: a1 :: a2 :: a3 :: a4 :: a5 :: a6 :: a7 :: some (.long x) :: none :: ls) st n hp ce sl) : V0 E y d mc ms Q pc (a0 :: a1 :: a2 :: a3 :: a4 :: a5 :: a6 :: a7 :: b :: b2 :: ls) (.long x :: st) n hp ce sl :=
  V0_st (ls' := (a0 :: a1 :: a2 :: a3 :: a4 :: a5 :: a6 :: a7 :: some (.long x) :: none :: ls)) rfl (fun p e s m args below meth c H locs la Z ok hL kk => lv_lstore ok.1 ok.2.1 hd hL (by simp only [List.length_cons]; omega) rfl (fun la2 h2 => kk la2 (hL.set2 (i := 8) (by simp only [List.length_cons]; omega) (fun w _ hw => by cases hw; exact hc) h2))) k
theorem r_iinc8 {a0 a1 a2 a3 a4 a5 a6 a7 : Option Value} {a z : Int} (hd : decode y.2.1 pc = .ok (.iinc 8 z, 3)) (hc : xc1 a7 = true) (k : V0 E y d mc ms Q (pc + 3) (a0 :: a1 :: a2 :: a3 :: a4 :: a5 :: a6 :: a7 :: some (xi (a + z)) :: ls) st n hp ce sl) : V0 E y d mc ms Q pc (a0 :: a1 :: a2 :: a3 :: a4 :: a5 :: a6 :: a7 :: some (xi a) :: ls) st n hp ce sl :=
  V0_st (ls' := (a0 :: a1 :: a2 :: a3 :: a4 :: a5 :: a6 :: a7 :: some (xi (a + z)) :: ls)) rfl (fun p e s m args below meth c H locs la Z ok hL kk => by
    obtain ⟨j, hj⟩ := List.getElem?_of_mem ((xlv_mem (a0 :: a1 :: a2 :: a3 :: a4 :: a5 :: a6 :: a7 :: some (xi a) :: ls) 0 (8, xi a)).mpr ⟨8, rfl, rfl⟩)
    exact lv_iinc ok.1 ok.2.1 hd hL (k := j) hj (xI_add a z) (by simp only [List.length_cons]; omega) rfl (fun la2 h2 => kk la2 (hL.set1 (i := 8) (by simp only [List.length_cons]; omega) (fun w _ hw => by cases hw; exact hc) h2))) k
theorem r_ild9 {a0 a1 a2 a3 a4 a5 a6 a7 a8 : Option Value} {x : Int32} (hd : decode y.2.1 pc = .ok (.iload 9, 2)) (k : V0 E y d mc ms Q (pc + 2) (a0 :: a1 :: a2 :: a3 :: a4 :: a5 :: a6 :: a7 :: a8 :: some (.int x) :: ls) (.int x :: st) n hp ce sl) : V0 E y d mc ms Q pc (a0 :: a1 :: a2 :: a3 :: a4 :: a5 :: a6 :: a7 :: a8 :: some (.int x) :: ls) st n hp ce sl :=
  V0_st rfl (fun p e s m args below meth c H locs la Z ok hL kk => lv_iload ok.1 ok.2.1 hd (hL.at (k := 9) rfl) (kk la hL)) k
theorem r_lld9 {a0 a1 a2 a3 a4 a5 a6 a7 a8 : Option Value} {x : Int64} (hd : decode y.2.1 pc = .ok (.lload 9, 2)) (k : V0 E y d mc ms Q (pc + 2) (a0 :: a1 :: a2 :: a3 :: a4 :: a5 :: a6 :: a7 :: a8 :: some (.long x) :: ls) (.long x :: st) n hp ce sl) : V0 E y d mc ms Q pc (a0 :: a1 :: a2 :: a3 :: a4 :: a5 :: a6 :: a7 :: a8 :: some (.long x) :: ls) st n hp ce sl :=
  V0_st rfl (fun p e s m args below meth c H locs la Z ok hL kk => lv_lload ok.1 ok.2.1 hd (hL.at (k := 9) rfl) (kk la hL)) k
theorem r_ald9 {a0 a1 a2 a3 a4 a5 a6 a7 a8 : Option Value} {x : Nat} (hd : decode y.2.1 pc = .ok (.aload 9, 2)) (k : V0 E y d mc ms Q (pc + 2) (a0 :: a1 :: a2 :: a3 :: a4 :: a5 :: a6 :: a7 :: a8 :: some (.ref x) :: ls) (.ref x :: st) n hp ce sl) : V0 E y d mc ms Q pc (a0 :: a1 :: a2 :: a3 :: a4 :: a5 :: a6 :: a7 :: a8 :: some (.ref x) :: ls) st n hp ce sl :=
  V0_st rfl (fun p e s m args below meth c H locs la Z ok hL kk => lv_aload ok.1 ok.2.1 hd (hL.at (k := 9) rfl) (kk la hL)) k
theorem r_ist9 {a0 a1 a2 a3 a4 a5 a6 a7 a8 : Option Value} {b : Option Value} {x : Int32} (hd : decode y.2.1 pc = .ok (.istore 9, 2)) (hc : xc1 a8 = true) (k : V0 E y d mc ms Q (pc + 2) (a0 :: a1 :: a2 :: a3 :: a4 :: a5 :: a6 :: a7 :: a8 :: some (.int x) :: ls) st n hp ce sl) : V0 E y d mc ms Q pc (a0 :: a1 :: a2 :: a3 :: a4 :: a5 :: a6 :: a7 :: a8 :: b :: ls) (.int x :: st) n hp ce sl :=
  V0_st (ls' := (a0 :: a1 :: a2 :: a3 :: a4 :: a5 :: a6 :: a7 :: a8 :: some (.int x) :: ls)) rfl (fun p e s m args below meth c H locs la Z ok hL kk => lv_istore ok.1 ok.2.1 hd hL (by simp only [List.length_cons]; omega) rfl (fun la2 h2 => kk la2 (hL.set1 (i := 9) (by simp only [List.length_cons]; omega) (fun w _ hw => by cases hw; exact hc) h2))) k
theorem r_ast9 {a0 a1 a2 a3 a4 a5 a6 a7 a8 : Option Value} {b : Option Value} {x : Nat} (hd : decode y.2.1 pc = .ok (.astore 9, 2)) (hc : xc1 a8 = true) (k : V0 E y d mc ms Q (pc + 2) (a0 :: a1 :: a2 :: a3 :: a4 :: a5 :: a6 :: a7 :: a8 :: some (.ref x) :: ls) st n hp ce sl) : V0 E y d mc ms Q pc (a0 :: a1 :: a2 :: a3 :: a4 :: a5 :: a6 :: a7 :: a8 :: b :: ls) (.ref x :: st) n hp ce sl :=
  V0_st (ls' := (a0 :: a1 :: a2 :: a3 :: a4 :: a5 :: a6 :: a7 :: a8 :: some (.ref x) :: ls)) rfl (fun p e s m args below meth c H locs la Z ok hL kk => lv_astore ok.1 ok.2.1 hd hL (by simp only [List.length_cons]; omega) rfl (fun la2 h2 => kk la2 (hL.set1 (i := 9) (by simp only [List.length_cons]; omega) (fun w _ hw => by cases hw; exact hc) h2))) k
theorem r_lst9 {a0 a1 a2 a3 a4 a5 a6 a7 a8 : Option Value} {b b2 : Option Value} {x : Int64} (hd : decode y.2.1 pc = .ok (.lstore 9, 2)) (hc : xc1 a8 = true) (k : V0 E y d mc ms Q (pc + 2) (a0 :: a1 :: a2 :: a3 :: a4 :: a5 :: a6 :: a7 :: a8 :: some (.long x) :: none :: ls) st n hp ce sl) : V0 E y d mc ms Q pc (a0 :: a1 :: a2 :: a3 :: a4 :: a5 :: a6 :: a7 :: a8 :: b :: b2 :: ls) (.long x :: st) n hp ce sl :=
  V0_st (ls' := (a0 :: a1 :: a2 :: a3 :: a4 :: a5 :: a6 :: a7 :: a8 :: some (.long x) :: none :: ls)) rfl (fun p e s m args below meth c H locs la Z ok hL kk => lv_lstore ok.1 ok.2.1 hd hL (by simp only [List.length_cons]; omega) rfl (fun la2 h2 => kk la2 (hL.set2 (i := 9) (by simp only [List.length_cons]; omega) (fun w _ hw => by cases hw; exact hc) h2))) k
theorem r_iinc9 {a0 a1 a2 a3 a4 a5 a6 a7 a8 : Option Value} {a z : Int} (hd : decode y.2.1 pc = .ok (.iinc 9 z, 3)) (hc : xc1 a8 = true) (k : V0 E y d mc ms Q (pc + 3) (a0 :: a1 :: a2 :: a3 :: a4 :: a5 :: a6 :: a7 :: a8 :: some (xi (a + z)) :: ls) st n hp ce sl) : V0 E y d mc ms Q pc (a0 :: a1 :: a2 :: a3 :: a4 :: a5 :: a6 :: a7 :: a8 :: some (xi a) :: ls) st n hp ce sl :=
  V0_st (ls' := (a0 :: a1 :: a2 :: a3 :: a4 :: a5 :: a6 :: a7 :: a8 :: some (xi (a + z)) :: ls)) rfl (fun p e s m args below meth c H locs la Z ok hL kk => by
    obtain ⟨j, hj⟩ := List.getElem?_of_mem ((xlv_mem (a0 :: a1 :: a2 :: a3 :: a4 :: a5 :: a6 :: a7 :: a8 :: some (xi a) :: ls) 0 (9, xi a)).mpr ⟨9, rfl, rfl⟩)
    exact lv_iinc ok.1 ok.2.1 hd hL (k := j) hj (xI_add a z) (by simp only [List.length_cons]; omega) rfl (fun la2 h2 => kk la2 (hL.set1 (i := 9) (by simp only [List.length_cons]; omega) (fun w _ hw => by cases hw; exact hc) h2))) k
theorem r_ild10 {a0 a1 a2 a3 a4 a5 a6 a7 a8 a9 : Option Value} {x : Int32} (hd : decode y.2.1 pc = .ok (.iload 10, 2)) (k : V0 E y d mc ms Q (pc + 2) (a0 :: a1 :: a2 :: a3 :: a4 :: a5 :: a6 :: a7 :: a8 :: a9 :: some (.int x) :: ls) (.int x :: st) n hp ce sl) : V0 E y d mc ms Q pc (a0 :: a1 :: a2 :: a3 :: a4 :: a5 :: a6 :: a7 :: a8 :: a9 :: some (.int x) :: ls) st n hp ce sl :=
  V0_st rfl (fun p e s m args below meth c H locs la Z ok hL kk => lv_iload ok.1 ok.2.1 hd (hL.at (k := 10) rfl) (kk la hL)) k
theorem r_lld10 {a0 a1 a2 a3 a4 a5 a6 a7 a8 a9 : Option Value} {x : Int64} (hd : decode y.2.1 pc = .ok (.lload 10, 2)) (k : V0 E y d mc ms Q (pc + 2) (a0 :: a1 :: a2 :: a3 :: a4 :: a5 :: a6 :: a7 :: a8 :: a9 :: some (.long x) :: ls) (.long x :: st) n hp ce sl) : V0 E y d mc ms Q pc (a0 :: a1 :: a2 :: a3 :: a4 :: a5 :: a6 :: a7 :: a8 :: a9 :: some (.long x) :: ls) st n hp ce sl :=
  V0_st rfl (fun p e s m args below meth c H locs la Z ok hL kk => lv_lload ok.1 ok.2.1 hd (hL.at (k := 10) rfl) (kk la hL)) k
theorem r_ald10 {a0 a1 a2 a3 a4 a5 a6 a7 a8 a9 : Option Value} {x : Nat} (hd : decode y.2.1 pc = .ok (.aload 10, 2)) (k : V0 E y d mc ms Q (pc + 2) (a0 :: a1 :: a2 :: a3 :: a4 :: a5 :: a6 :: a7 :: a8 :: a9 :: some (.ref x) :: ls) (.ref x :: st) n hp ce sl) : V0 E y d mc ms Q pc (a0 :: a1 :: a2 :: a3 :: a4 :: a5 :: a6 :: a7 :: a8 :: a9 :: some (.ref x) :: ls) st n hp ce sl :=
  V0_st rfl (fun p e s m args below meth c H locs la Z ok hL kk => lv_aload ok.1 ok.2.1 hd (hL.at (k := 10) rfl) (kk la hL)) k
theorem r_ist10 {a0 a1 a2 a3 a4 a5 a6 a7 a8 a9 : Option Value} {b : Option Value} {x : Int32} (hd : decode y.2.1 pc = .ok (.istore 10, 2)) (hc : xc1 a9 = true) (k : V0 E y d mc ms Q (pc + 2) (a0 :: a1 :: a2 :: a3 :: a4 :: a5 :: a6 :: a7 :: a8 :: a9 :: some (.int x) :: ls) st n hp ce sl) : V0 E y d mc ms Q pc (a0 :: a1 :: a2 :: a3 :: a4 :: a5 :: a6 :: a7 :: a8 :: a9 :: b :: ls) (.int x :: st) n hp ce sl :=
  V0_st (ls' := (a0 :: a1 :: a2 :: a3 :: a4 :: a5 :: a6 :: a7 :: a8 :: a9 :: some (.int x) :: ls)) rfl (fun p e s m args below meth c H locs la Z ok hL kk => lv_istore ok.1 ok.2.1 hd hL (by simp only [List.length_cons]; omega) rfl (fun la2 h2 => kk la2 (hL.set1 (i := 10) (by simp only [List.length_cons]; omega) (fun w _ hw => by cases hw; exact hc) h2))) k
theorem r_ast10 {a0 a1 a2 a3 a4 a5 a6 a7 a8 a9 : Option Value} {b : Option Value} {x : Nat} (hd : decode y.2.1 pc = .ok (.astore 10, 2)) (hc : xc1 a9 = true) (k : V0 E y d mc ms Q (pc + 2) (a0 :: a1 :: a2 :: a3 :: a4 :: a5 :: a6 :: a7 :: a8 :: a9 :: some (.ref x) :: ls) st n hp ce sl) : V0 E y d mc ms Q pc (a0 :: a1 :: a2 :: a3 :: a4 :: a5 :: a6 :: a7 :: a8 :: a9 :: b :: ls) (.ref x :: st) n hp ce sl :=
  V0_st (ls' := (a0 :: a1 :: a2 :: a3 :: a4 :: a5 :: a6 :: a7 :: a8 :: a9 :: some (.ref x) :: ls)) rfl (fun p e s m args below meth c H locs la Z ok hL kk => lv_astore ok.1 ok.2.1 hd hL (by simp only [List.length_cons]; omega) rfl (fun la2 h2 => kk la2 (hL.set1 (i := 10) (by simp only [List.length_cons]; omega) (fun w _ hw => by cases hw; exact hc) h2))) k
theorem r_lst10 {a0 a1 a2 a3 a4 a5 a6 a7 a8 a9 : Option Value} {b b2 : Option Value} {x : Int64} (hd : decode y.2.1 pc = .ok (.lstore 10, 2)) (hc : xc1 a9 = true) (k : V0 E y d mc ms Q (pc + 2) (a0 :: a1 :: a2 :: a3 :: a4 :: a5 :: a6 :: a7 :: a8 :: a9 :: some (.long x) :: none :: ls) st n hp ce sl) : V0 E y d mc ms Q pc (a0 :: a1 :: a2 :: a3 :: a4 :: a5 :: a6 :: a7 :: a8 :: a9 :: b :: b2 :: ls) (.long x :: st) n hp ce sl :=
  V0_st (ls' := (a0 :: a1 :: a2 :: a3 :: a4 :: a5 :: a6 :: a7 :: a8 :: a9 :: some (.long x) :: none :: ls)) rfl (fun p e s m args below meth c H locs la Z ok hL kk => lv_lstore ok.1 ok.2.1 hd hL (by simp only [List.length_cons]; omega) rfl (fun la2 h2 => kk la2 (hL.set2 (i := 10) (by simp only [List.length_cons]; omega) (fun w _ hw => by cases hw; exact hc) h2))) k
theorem r_iinc10 {a0 a1 a2 a3 a4 a5 a6 a7 a8 a9 : Option Value} {a z : Int} (hd : decode y.2.1 pc = .ok (.iinc 10 z, 3)) (hc : xc1 a9 = true) (k : V0 E y d mc ms Q (pc + 3) (a0 :: a1 :: a2 :: a3 :: a4 :: a5 :: a6 :: a7 :: a8 :: a9 :: some (xi (a + z)) :: ls) st n hp ce sl) : V0 E y d mc ms Q pc (a0 :: a1 :: a2 :: a3 :: a4 :: a5 :: a6 :: a7 :: a8 :: a9 :: some (xi a) :: ls) st n hp ce sl :=
  V0_st (ls' := (a0 :: a1 :: a2 :: a3 :: a4 :: a5 :: a6 :: a7 :: a8 :: a9 :: some (xi (a + z)) :: ls)) rfl (fun p e s m args below meth c H locs la Z ok hL kk => by
    obtain ⟨j, hj⟩ := List.getElem?_of_mem ((xlv_mem (a0 :: a1 :: a2 :: a3 :: a4 :: a5 :: a6 :: a7 :: a8 :: a9 :: some (xi a) :: ls) 0 (10, xi a)).mpr ⟨10, rfl, rfl⟩)
    exact lv_iinc ok.1 ok.2.1 hd hL (k := j) hj (xI_add a z) (by simp only [List.length_cons]; omega) rfl (fun la2 h2 => kk la2 (hL.set1 (i := 10) (by simp only [List.length_cons]; omega) (fun w _ hw => by cases hw; exact hc) h2))) k
theorem r_ild11 {a0 a1 a2 a3 a4 a5 a6 a7 a8 a9 a10 : Option Value} {x : Int32} (hd : decode y.2.1 pc = .ok (.iload 11, 2)) (k : V0 E y d mc ms Q (pc + 2) (a0 :: a1 :: a2 :: a3 :: a4 :: a5 :: a6 :: a7 :: a8 :: a9 :: a10 :: some (.int x) :: ls) (.int x :: st) n hp ce sl) : V0 E y d mc ms Q pc (a0 :: a1 :: a2 :: a3 :: a4 :: a5 :: a6 :: a7 :: a8 :: a9 :: a10 :: some (.int x) :: ls) st n hp ce sl :=
  V0_st rfl (fun p e s m args below meth c H locs la Z ok hL kk => lv_iload ok.1 ok.2.1 hd (hL.at (k := 11) rfl) (kk la hL)) k
theorem r_lld11 {a0 a1 a2 a3 a4 a5 a6 a7 a8 a9 a10 : Option Value} {x : Int64} (hd : decode y.2.1 pc = .ok (.lload 11, 2)) (k : V0 E y d mc ms Q (pc + 2) (a0 :: a1 :: a2 :: a3 :: a4 :: a5 :: a6 :: a7 :: a8 :: a9 :: a10 :: some (.long x) :: ls) (.long x :: st) n hp ce sl) : V0 E y d mc ms Q pc (a0 :: a1 :: a2 :: a3 :: a4 :: a5 :: a6 :: a7 :: a8 :: a9 :: a10 :: some (.long x) :: ls) st n hp ce sl :=
  V0_st rfl (fun p e s m args below meth c H locs la Z ok hL kk => lv_lload ok.1 ok.2.1 hd (hL.at (k := 11) rfl) (kk la hL)) k
theorem r_ald11 {a0 a1 a2 a3 a4 a5 a6 a7 a8 a9 a10 : Option Value} {x : Nat} (hd : decode y.2.1 pc = .ok (.aload 11, 2)) (k : V0 E y d mc ms Q (pc + 2) (a0 :: a1 :: a2 :: a3 :: a4 :: a5 :: a6 :: a7 :: a8 :: a9 :: a10 :: some (.ref x) :: ls) (.ref x :: st) n hp ce sl) : V0 E y d mc ms Q pc (a0 :: a1 :: a2 :: a3 :: a4 :: a5 :: a6 :: a7 :: a8 :: a9 :: a10 :: some (.ref x) :: ls) st n hp ce sl :=
  V0_st rfl (fun p e s m args below meth c H locs la Z ok hL kk => lv_aload ok.1 ok.2.1 hd (hL.at (k := 11) rfl) (kk la hL)) k
theorem r_ist11 {a0 a1 a2 a3 a4 a5 a6 a7 a8 a9 a10 : Option Value} {b : Option Value} {x : Int32} (hd : decode y.2.1 pc = .ok (.istore 11, 2)) (hc : xc1 a10 = true) (k : V0 E y d mc ms Q (pc + 2) (a0 :: a1 :: a2 :: a3 :: a4 :: a5 :: a6 :: a7 :: a8 :: a9 :: a10 :: some (.int x) :: ls) st n hp ce sl) : V0 E y d mc ms Q pc (a0 :: a1 :: a2 :: a3 :: a4 :: a5 :: a6 :: a7 :: a8 :: a9 :: a10 :: b :: ls) (.int x :: st) n hp ce sl :=
  V0_st (ls' := (a0 :: a1 :: a2 :: a3 :: a4 :: a5 :: a6 :: a7 :: a8 :: a9 :: a10 :: some (.int x) :: ls)) rfl (fun p e s m args below meth c H locs la Z ok hL kk => lv_istore ok.1 ok.2.1 hd hL (by simp only [List.length_cons]; omega) rfl (fun la2 h2 => kk la2 (hL.set1 (i := 11) (by simp only [List.length_cons]; omega) (fun w _ hw => by cases hw; exact hc) h2))) k
theorem r_ast11 {a0 a1 a2 a3 a4 a5 a6 a7 a8 a9 a10 : Option Value} {b : Option Value} {x : Nat} (hd : decode y.2.1 pc = .ok (.astore 11, 2)) (hc : xc1 a10 = true) (k : V0 E y d mc ms Q (pc + 2) (a0 :: a1 :: a2 :: a3 :: a4 :: a5 :: a6 :: a7 :: a8 :: a9 :: a10 :: some (.ref x) :: ls) st n hp ce sl) : V0 E y d mc ms Q pc (a0 :: a1 :: a2 :: a3 :: a4 :: a5 :: a6 :: a7 :: a8 :: a9 :: a10 :: b :: ls) (.ref x :: st) n hp ce sl :=
  V0_st (ls' := (a0 :: a1 :: a2 :: a3 :: a4 :: a5 :: a6 :: a7 :: a8 :: a9 :: a10 :: some (.ref x) :: ls)) rfl (fun p e s m args below meth c H locs la Z ok hL kk => lv_astore ok.1 ok.2.1 hd hL (by simp only [List.length_cons]; omega) rfl (fun la2 h2 => kk la2 (hL.set1 (i := 11) (by simp only [List.length_cons]; omega) (fun w _ hw => by cases hw; exact hc) h2))) k
theorem r_lst11 {a0 a1 a2 a3 a4 a5 a6 a7 a8 a9 a10 : Option Value} {b b2 : Option Value} {x : Int64} (hd : decode y.2.1 pc = .ok (.lstore 11, 2)) (hc : xc1 a10 = true) (k : V0 E y d mc ms Q (pc + 2) (a0 :: a1 :: a2 :: a3 :: a4 :: a5 :: a6 :: a7 :: a8 :: a9 :: a10 :: some (.long x) :: none :: ls) st n hp ce sl) : V0 E y d mc ms Q pc (a0 :: a1 :: a2 :: a3 :: a4 :: a5 :: a6 :: a7 :: a8 :: a9 :: a10 :: b :: b2 :: ls) (.long x :: st) n hp ce sl :=
  V0_st (ls' := (a0 :: a1 :: a2 :: a3 :: a4 :: a5 :: a6 :: a7 :: a8 :: a9 :: a10 :: some (.long x) :: none :: ls)) rfl (fun p e s m args below meth c H locs la Z ok hL kk => lv_lstore ok.1 ok.2.1 hd hL (by simp only [List.length_cons]; omega) rfl (fun la2 h2 => kk la2 (hL.set2 (i := 11) (by simp only [List.length_cons]; omega) (fun w _ hw => by cases hw; exact hc) h2))) k
theorem r_iinc11 {a0 a1 a2 a3 a4 a5 a6 a7 a8 a9 a10 : Option Value} {a z : Int} (hd : decode y.2.1 pc = .ok (.iinc 11 z, 3)) (hc : xc1 a10 = true) (k : V0 E y d mc ms Q (pc + 3) (a0 :: a1 :: a2 :: a3 :: a4 :: a5 :: a6 :: a7 :: a8 :: a9 :: a10 :: some (xi (a + z)) :: ls) st n hp ce sl) : V0 E y d mc ms Q pc (a0 :: a1 :: a2 :: a3 :: a4 :: a5 :: a6 :: a7 :: a8 :: a9 :: a10 :: some (xi a) :: ls) st n hp ce sl :=
  V0_st (ls' := (a0 :: a1 :: a2 :: a3 :: a4 :: a5 :: a6 :: a7 :: a8 :: a9 :: a10 :: some (xi (a + z)) :: ls)) rfl (fun p e s m args below meth c H locs la Z ok hL kk => by
    obtain ⟨j, hj⟩ := List.getElem?_of_mem ((xlv_mem (a0 :: a1 :: a2 :: a3 :: a4 :: a5 :: a6 :: a7 :: a8 :: a9 :: a10 :: some (xi a) :: ls) 0 (11, xi a)).mpr ⟨11, rfl, rfl⟩)
    exact lv_iinc ok.1 ok.2.1 hd hL (k := j) hj (xI_add a z) (by simp only [List.length_cons]; omega) rfl (fun la2 h2 => kk la2 (hL.set1 (i := 11) (by simp only [List.length_cons]; omega) (fun w _ hw => by cases hw; exact hc) h2))) k
theorem r_ild12 {a0 a1 a2 a3 a4 a5 a6 a7 a8 a9 a10 a11 : Option Value} {x : Int32} (hd : decode y.2.1 pc = .ok (.iload 12, 2)) (k : V0 E y d mc ms Q (pc + 2) (a0 :: a1 :: a2 :: a3 :: a4 :: a5 :: a6 :: a7 :: a8 :: a9 :: a10 :: a11 :: some (.int x) :: ls) (.int x :: st) n hp ce sl) : V0 E y d mc ms Q pc (a0 :: a1 :: a2 :: a3 :: a4 :: a5 :: a6 :: a7 :: a8 :: a9 :: a10 :: a11 :: some (.int x) :: ls) st n hp ce sl :=
  V0_st rfl (fun p e s m args below meth c H locs la Z ok hL kk => lv_iload ok.1 ok.2.1 hd (hL.at (k := 12) rfl) (kk la hL)) k
theorem r_lld12 {a0 a1 a2 a3 a4 a5 a6 a7 a8 a9 a10 a11 : Option Value} {x : Int64} (hd : decode y.2.1 pc = .ok (.lload 12, 2)) (k : V0 E y d mc ms Q (pc + 2) (a0 :: a1 :: a2 :: a3 :: a4 :: a5 :: a6 :: a7 :: a8 :: a9 :: a10 :: a11 :: some (.long x) :: ls) (.long x :: st) n hp ce sl) : V0 E y d mc ms Q pc (a0 :: a1 :: a2 :: a3 :: a4 :: a5 :: a6 :: a7 :: a8 :: a9 :: a10 :: a11 :: some (.long x) :: ls) st n hp ce sl :=
  V0_st rfl (fun p e s m args below meth c H locs la Z ok hL kk => lv_lload ok.1 ok.2.1 hd (hL.at (k := 12) rfl) (kk la hL)) k
theorem r_ald12 {a0 a1 a2 a3 a4 a5 a6 a7 a8 a9 a10 a11 : Option Value} {x : Nat} (hd : decode y.2.1 pc = .ok (.aload 12, 2)) (k : V0 E y d mc ms Q (pc + 2) (a0 :: a1 :: a2 :: a3 :: a4 :: a5 :: a6 :: a7 :: a8 :: a9 :: a10 :: a11 :: some (.ref x) :: ls) (.ref x :: st) n hp ce sl) : V0 E y d mc ms Q pc (a0 :: a1 :: a2 :: a3 :: a4 :: a5 :: a6 :: a7 :: a8 :: a9 :: a10 :: a11 :: some (.ref x) :: ls) st n hp ce sl :=
  V0_st rfl (fun p e s m args below meth c H locs la Z ok hL kk => lv_aload ok.1 ok.2.1 hd (hL.at (k := 12) rfl) (kk la hL)) k
theorem r_ist12 {a0 a1 a2 a3 a4 a5 a6 a7 a8 a9 a10 a11 : Option Value} {b : Option Value} {x : Int32} (hd : decode y.2.1 pc = .ok (.istore 12, 2)) (hc : xc1 a11 = true) (k : V0 E y d mc ms Q (pc + 2) (a0 :: a1 :: a2 :: a3 :: a4 :: a5 :: a6 :: a7 :: a8 :: a9 :: a10 :: a11 :: some (.int x) :: ls) st n hp ce sl) : V0 E y d mc ms Q pc (a0 :: a1 :: a2 :: a3 :: a4 :: a5 :: a6 :: a7 :: a8 :: a9 :: a10 :: a11 :: b :: ls) (.int x :: st) n hp ce sl :=
  V0_st (ls' := (a0 :: a1 :: a2 :: a3 :: a4 :: a5 :: a6 :: a7 :: a8 :: a9 :: a10 :: a11 :: some (.int x) :: ls)) rfl (fun p e s m args below meth c H locs la Z ok hL kk => lv_istore ok.1 ok.2.1 hd hL (by simp only [List.length_cons]; omega) rfl (fun la2 h2 => kk la2 (hL.set1 (i := 12) (by simp only [List.length_cons]; omega) (fun w _ hw => by cases hw; exact hc) h2))) k
theorem r_ast12 {a0 a1 a2 a3 a4 a5 a6 a7 a8 a9 a10 a11 : Option Value} {b : Option Value} {x : Nat} (hd : decode y.2.1 pc = .ok (.astore 12, 2)) (hc : xc1 a11 = true) (k : V0 E y d mc ms Q (pc + 2) (a0 :: a1 :: a2 :: a3 :: a4 :: a5 :: a6 :: a7 :: a8 :: a9 :: a10 :: a11 :: some (.ref x) :: ls) st n hp ce sl) : V0 E y d mc ms Q pc (a0 :: a1 :: a2 :: a3 :: a4 :: a5 :: a6 :: a7 :: a8 :: a9 :: a10 :: a11 :: b :: ls) (.ref x :: st) n hp ce sl :=
  V0_st (ls' := (a0 :: a1 :: a2 :: a3 :: a4 :: a5 :: a6 :: a7 :: a8 :: a9 :: a10 :: a11 :: some (.ref x) :: ls)) rfl (fun p e s m args below meth c H locs la Z ok hL kk => lv_astore ok.1 ok.2.1 hd hL (by simp only [List.length_cons]; omega) rfl (fun la2 h2 => kk la2 (hL.set1 (i := 12) (by simp only [List.length_cons]; omega) (fun w _ hw => by cases hw; exact hc) h2))) k
theorem r_lst12 {a0 a1 a2 a3 a4 a5 a6 a7 a8 a9 a10 a11 : Option Value} {b b2 : Option Value} {x : Int64} (hd : decode y.2.1 pc = .ok (.lstore 12, 2)) (hc : xc1 a11 = true) (k : V0 E y d mc ms Q (pc + 2) (a0 :: a1 :: a2 :: a3 :: a4 :: a5 :: a6 :: a7 :: a8 :: a9 :: a10 :: a11 :: some (.long x) :: none :: ls) st n hp ce sl) : V0 E y d mc ms Q pc (a0 :: a1 :: a2 :: a3 :: a4 :: a5 :: a6 :: a7 :: a8 :: a9 :: a10 :: a11 :: b :: b2 :: ls) (.long x :: st) n hp ce sl :=
  V0_st (ls' := (a0 :: a1 :: a2 :: a3 :: a4 :: a5 :: a6 :: a7 :: a8 :: a9 :: a10 :: a11 :: some (.long x) :: none :: ls)) rfl (fun p e s m args below meth c H locs la Z ok hL kk => lv_lstore ok.1 ok.2.1 hd hL (by simp only [List.length_cons]; omega) rfl (fun la2 h2 => kk la2 (hL.set2 (i := 12) (by simp only [List.length_cons]; omega) (fun w _ hw => by cases hw; exact hc) h2))) k
theorem r_iinc12 {a0 a1 a2 a3 a4 a5 a6 a7 a8 a9 a10 a11 : Option Value} {a z : Int} (hd : decode y.2.1 pc = .ok (.iinc 12 z, 3)) (hc : xc1 a11 = true) (k : V0 E y d mc ms Q (pc + 3) (a0 :: a1 :: a2 :: a3 :: a4 :: a5 :: a6 :: a7 :: a8 :: a9 :: a10 :: a11 :: some (xi (a + z)) :: ls) st n hp ce sl) : V0 E y d mc ms Q pc (a0 :: a1 :: a2 :: a3 :: a4 :: a5 :: a6 :: a7 :: a8 :: a9 :: a10 :: a11 :: some (xi a) :: ls) st n hp ce sl :=
  V0_st (ls' := (a0 :: a1 :: a2 :: a3 :: a4 :: a5 :: a6 :: a7 :: a8 :: a9 :: a10 :: a11 :: some (xi (a + z)) :: ls)) rfl (fun p e s m args below meth c H locs la Z ok hL kk => by
    obtain ⟨j, hj⟩ := List.getElem?_of_mem ((xlv_mem (a0 :: a1 :: a2 :: a3 :: a4 :: a5 :: a6 :: a7 :: a8 :: a9 :: a10 :: a11 :: some (xi a) :: ls) 0 (12, xi a)).mpr ⟨12, rfl, rfl⟩)
    exact lv_iinc ok.1 ok.2.1 hd hL (k := j) hj (xI_add a z) (by simp only [List.length_cons]; omega) rfl (fun la2 h2 => kk la2 (hL.set1 (i := 12) (by simp only [List.length_cons]; omega) (fun w _ hw => by cases hw; exact hc) h2))) k
theorem r_iadd {a b : Int} (hd : decode y.2.1 pc = .ok (.iadd, 1)) (k : V0 E y d mc ms Q (pc + 1) ls (xi (a + b) :: st) n hp ce sl) : V0 E y d mc ms Q pc ls (xi b :: xi a :: st) n hp ce sl :=
  V0_st rfl (fun p e s m args below meth c H locs la Z ok hL kk => by
    refine lv_iadd ok.1 ok.2.1 hd ?_
    rw [xI_add]
    exact kk la hL) k
theorem r_isub {a b : Int} (hd : decode y.2.1 pc = .ok (.isub, 1)) (k : V0 E y d mc ms Q (pc + 1) ls (xi (a - b) :: st) n hp ce sl) : V0 E y d mc ms Q pc ls (xi b :: xi a :: st) n hp ce sl :=
  V0_st rfl (fun p e s m args below meth c H locs la Z ok hL kk => by
    refine lv_isub ok.1 ok.2.1 hd ?_
    rw [xI_sub]
    exact kk la hL) k
theorem r_imul {a b : Int} (hd : decode y.2.1 pc = .ok (.imul, 1)) (k : V0 E y d mc ms Q (pc + 1) ls (xi (a * b) :: st) n hp ce sl) : V0 E y d mc ms Q pc ls (xi b :: xi a :: st) n hp ce sl :=
  V0_st rfl (fun p e s m args below meth c H locs la Z ok hL kk => by
    refine lv_imul ok.1 ok.2.1 hd ?_
    rw [xI_mul]
    exact kk la hL) k
theorem r_ineg {a : Int} (hd : decode y.2.1 pc = .ok (.ineg, 1)) (k : V0 E y d mc ms Q (pc + 1) ls (xi (-a) :: st) n hp ce sl) : V0 E y d mc ms Q pc ls (xi a :: st) n hp ce sl :=
  V0_st rfl (fun p e s m args below meth c H locs la Z ok hL kk => by
    refine lv_ineg ok.1 ok.2.1 hd ?_
    rw [xI_neg]
    exact kk la hL) k
theorem r_idiv {a b : Int} (hd : decode y.2.1 pc = .ok (.idiv, 1)) (ha : 0 ≤ a ∧ a < 2147483648) (hb : 0 < b ∧ b < 2147483648) (k : V0 E y d mc ms Q (pc + 1) ls (xi (a / b) :: st) n hp ce sl) : V0 E y d mc ms Q pc ls (xi b :: xi a :: st) n hp ce sl :=
  V0_st rfl (fun p e s m args below meth c H locs la Z ok hL kk => by
    refine lv_idiv ok.1 ok.2.1 hd (fun q => by have := (xI_eq (b := 0) ⟨by omega, hb.2⟩ ⟨by decide, by decide⟩).mp q; omega) ?_
    rw [xI_div ha hb]
    exact kk la hL) k
theorem r_irem {a b : Int} (hd : decode y.2.1 pc = .ok (.irem, 1)) (ha : 0 ≤ a ∧ a < 2147483648) (hb : 0 < b ∧ b < 2147483648) (k : V0 E y d mc ms Q (pc + 1) ls (xi (a % b) :: st) n hp ce sl) : V0 E y d mc ms Q pc ls (xi b :: xi a :: st) n hp ce sl :=
  V0_st rfl (fun p e s m args below meth c H locs la Z ok hL kk => by
    refine lv_irem ok.1 ok.2.1 hd (fun q => by have := (xI_eq (b := 0) ⟨by omega, hb.2⟩ ⟨by decide, by decide⟩).mp q; omega) ?_
    rw [xI_rem ha hb]
    exact kk la hL) k
theorem r_iand {a b : Int} (hd : decode y.2.1 pc = .ok (.iand, 1)) (ha : 0 ≤ a ∧ a < 2147483648) (hb : 0 ≤ b ∧ b < 2147483648) (k : 0 ≤ xand a b ∧ xand a b < 2147483648 → V0 E y d mc ms Q (pc + 1) ls (xi (xand a b) :: st) n hp ce sl) : V0 E y d mc ms Q pc ls (xi b :: xi a :: st) n hp ce sl :=
  V0_st rfl (fun p e s m args below meth c H locs la Z ok hL kk => by
    refine lv_iand ok.1 ok.2.1 hd ?_
    rw [xI_and ha hb]
    exact kk la hL) (k (xand_rg ha))
theorem r_ior {a b : Int} (hd : decode y.2.1 pc = .ok (.ior, 1)) (ha : 0 ≤ a ∧ a < 2147483648) (hb : 0 ≤ b ∧ b < 2147483648) (k : 0 ≤ xor2 a b ∧ xor2 a b < 2147483648 → V0 E y d mc ms Q (pc + 1) ls (xi (xor2 a b) :: st) n hp ce sl) : V0 E y d mc ms Q pc ls (xi b :: xi a :: st) n hp ce sl :=
  V0_st rfl (fun p e s m args below meth c H locs la Z ok hL kk => by
    refine lv_ior ok.1 ok.2.1 hd ?_
    rw [xI_or ha hb]
    exact kk la hL) (k (xor2_rg ha hb))
theorem r_iandn {a b : Int} (hd : decode y.2.1 pc = .ok (.iand, 1)) (ha : 0 ≤ a ∧ a < 2147483648) (hb : 0 ≤ b ∧ b < 2147483648) (k : 0 ≤ xbnd a b ∧ xbnd a b < 2147483648 → V0 E y d mc ms Q (pc + 1) ls (xi (xbnd a b) :: st) n hp ce sl) : V0 E y d mc ms Q pc ls (xi (-1 - b) :: xi a :: st) n hp ce sl :=
  V0_st rfl (fun p e s m args below meth c H locs la Z ok hL kk => by
    refine lv_iand ok.1 ok.2.1 hd ?_
    rw [xI_bnd ha hb]
    exact kk la hL) (k (xbnd_rg ha))
theorem r_inot {a : Int} (hd : decode y.2.1 pc = .ok (.ixor, 1)) (k : V0 E y d mc ms Q (pc + 1) ls (xi (-1 - a) :: st) n hp ce sl) : V0 E y d mc ms Q pc ls (xi (-1) :: xi a :: st) n hp ce sl :=
  V0_st rfl (fun p e s m args below meth c H locs la Z ok hL kk => by
    refine lv_ixor ok.1 ok.2.1 hd ?_
    rw [xI_not]
    exact kk la hL) k
theorem r_iand63 {a : Int} (hd : decode y.2.1 pc = .ok (.iand, 1)) (k : V0 E y d mc ms Q (pc + 1) ls (xi (a % 64) :: st) n hp ce sl) : V0 E y d mc ms Q pc ls (xi 63 :: xi a :: st) n hp ce sl :=
  V0_st rfl (fun p e s m args below meth c H locs la Z ok hL kk => by
    refine lv_iand ok.1 ok.2.1 hd ?_
    rw [xI_and63]
    exact kk la hL) k
theorem r_ishl {a b : Int} (hd : decode y.2.1 pc = .ok (.ishl, 1)) (hs : 0 ≤ b ∧ b < 32) (k : V0 E y d mc ms Q (pc + 1) ls (xi (a * 2 ^ b.toNat) :: st) n hp ce sl) : V0 E y d mc ms Q pc ls (xi b :: xi a :: st) n hp ce sl :=
  V0_st rfl (fun p e s m args below meth c H locs la Z ok hL kk => by
    refine lv_ishl ok.1 ok.2.1 hd ?_
    rw [xI_shl hs]
    exact kk la hL) k
theorem r_ishr {a b : Int} (hd : decode y.2.1 pc = .ok (.ishr, 1)) (ha : -2147483648 ≤ a ∧ a < 2147483648) (hs : 0 ≤ b ∧ b < 32) (k : V0 E y d mc ms Q (pc + 1) ls (xi (a / 2 ^ b.toNat) :: st) n hp ce sl) : V0 E y d mc ms Q pc ls (xi b :: xi a :: st) n hp ce sl :=
  V0_st rfl (fun p e s m args below meth c H locs la Z ok hL kk => by
    refine lv_ishr ok.1 ok.2.1 hd ?_
    rw [xI_shr ha hs]
    exact kk la hL) k
theorem r_ladd {a b : Int} (hd : decode y.2.1 pc = .ok (.ladd, 1)) (k : V0 E y d mc ms Q (pc + 1) ls (xl (a + b) :: st) n hp ce sl) : V0 E y d mc ms Q pc ls (xl b :: xl a :: st) n hp ce sl :=
  V0_st rfl (fun p e s m args below meth c H locs la Z ok hL kk => by
    refine lv_ladd ok.1 ok.2.1 hd ?_
    rw [xJ_add]
    exact kk la hL) k
theorem r_lmul {a b : Int} (hd : decode y.2.1 pc = .ok (.lmul, 1)) (k : V0 E y d mc ms Q (pc + 1) ls (xl (a * b) :: st) n hp ce sl) : V0 E y d mc ms Q pc ls (xl b :: xl a :: st) n hp ce sl :=
  V0_st rfl (fun p e s m args below meth c H locs la Z ok hL kk => by
    refine lv_lmul ok.1 ok.2.1 hd ?_
    rw [xJ_mul]
    exact kk la hL) k
theorem r_ldiv {a b : Int} (hd : decode y.2.1 pc = .ok (.ldiv, 1)) (ha : 0 ≤ a ∧ a < 9223372036854775808) (hb : 0 < b ∧ b < 9223372036854775808) (k : V0 E y d mc ms Q (pc + 1) ls (xl (a / b) :: st) n hp ce sl) : V0 E y d mc ms Q pc ls (xl b :: xl a :: st) n hp ce sl :=
  V0_st rfl (fun p e s m args below meth c H locs la Z ok hL kk => by
    refine lv_ldiv ok.1 ok.2.1 hd (fun q => by have := (xJ_eq (b := 0) ⟨by omega, hb.2⟩ ⟨by decide, by decide⟩).mp q; omega) ?_
    rw [xJ_div ha hb]
    exact kk la hL) k
theorem r_lrem {a b : Int} (hd : decode y.2.1 pc = .ok (.lrem, 1)) (ha : 0 ≤ a ∧ a < 9223372036854775808) (hb : 0 < b ∧ b < 9223372036854775808) (k : V0 E y d mc ms Q (pc + 1) ls (xl (a % b) :: st) n hp ce sl) : V0 E y d mc ms Q pc ls (xl b :: xl a :: st) n hp ce sl :=
  V0_st rfl (fun p e s m args below meth c H locs la Z ok hL kk => by
    refine lv_lrem ok.1 ok.2.1 hd (fun q => by have := (xJ_eq (b := 0) ⟨by omega, hb.2⟩ ⟨by decide, by decide⟩).mp q; omega) ?_
    rw [xJ_rem ha hb]
    exact kk la hL) k
theorem r_lcmp {a b : Int} (hd : decode y.2.1 pc = .ok (.lcmp, 1)) (ha : -9223372036854775808 ≤ a ∧ a < 9223372036854775808) (hb : -9223372036854775808 ≤ b ∧ b < 9223372036854775808) (k : V0 E y d mc ms Q (pc + 1) ls (xi (if b < a then 1 else if a = b then 0 else -1) :: st) n hp ce sl) : V0 E y d mc ms Q pc ls (xl b :: xl a :: st) n hp ce sl :=
  V0_st rfl (fun p e s m args below meth c H locs la Z ok hL kk => by
    refine W.lcmp ok.1 ok.2.1 hd ?_
    rw [xJ_cmp ha hb]
    exact kk la hL) k
theorem r_i2l {a : Int} (hd : decode y.2.1 pc = .ok (.i2l, 1)) (ha : -2147483648 ≤ a ∧ a < 2147483648) (k : V0 E y d mc ms Q (pc + 1) ls (xl a :: st) n hp ce sl) : V0 E y d mc ms Q pc ls (xi a :: st) n hp ce sl :=
  V0_st rfl (fun p e s m args below meth c H locs la Z ok hL kk => by exact lv_i2l ok.1 ok.2.1 hd (xJ_of ha) (kk la hL)) k
theorem r_l2i {a : Int} (hd : decode y.2.1 pc = .ok (.l2i, 1)) (k : V0 E y d mc ms Q (pc + 1) ls (xi a :: st) n hp ce sl) : V0 E y d mc ms Q pc ls (xl a :: st) n hp ce sl :=
  V0_st rfl (fun p e s m args below meth c H locs la Z ok hL kk => by exact lv_l2i ok.1 ok.2.1 hd (xJ_i a) (kk la hL)) k
theorem r_i2b {a : Int} (hd : decode y.2.1 pc = .ok (.i2b, 1)) (k : (-2147483648 ≤ i8 a ∧ i8 a < 2147483648) → V0 E y d mc ms Q (pc + 1) ls (xi (i8 a) :: st) n hp ce sl) : V0 E y d mc ms Q pc ls (xi a :: st) n hp ce sl :=
  V0_st rfl (fun p e s m args below meth c H locs la Z ok hL kk => lv_i2b ok.1 ok.2.1 hd (xI_of _).symm (kk la hL)) (k (i8_rg a))
theorem r_i2s {a : Int} (hd : decode y.2.1 pc = .ok (.i2s, 1)) (k : (-2147483648 ≤ i16 a ∧ i16 a < 2147483648) → V0 E y d mc ms Q (pc + 1) ls (xi (i16 a) :: st) n hp ce sl) : V0 E y d mc ms Q pc ls (xi a :: st) n hp ce sl :=
  V0_st rfl (fun p e s m args below meth c H locs la Z ok hL kk => lv_i2s ok.1 ok.2.1 hd (xI_of _).symm (kk la hL)) (k (i16_rg a))
theorem r_dup {v : Value} (hd : decode y.2.1 pc = .ok (.dup, 1)) (hv : v.category = 1 := by rfl) (k : V0 E y d mc ms Q (pc + 1) ls (v :: v :: st) n hp ce sl) : V0 E y d mc ms Q pc ls (v :: st) n hp ce sl :=
  V0_st rfl (fun p e s m args below meth c H locs la Z ok hL kk => by exact lv_dup ok.1 ok.2.1 hd hv (kk la hL)) k
theorem r_pop {v : Value} (hd : decode y.2.1 pc = .ok (.pop, 1)) (hv : v.category = 1 := by rfl) (k : V0 E y d mc ms Q (pc + 1) ls st n hp ce sl) : V0 E y d mc ms Q pc ls (v :: st) n hp ce sl :=
  V0_st rfl (fun p e s m args below meth c H locs la Z ok hL kk => by exact lv_pop ok.1 ok.2.1 hd hv (kk la hL)) k
theorem r_dup2 {v w : Value} (hd : decode y.2.1 pc = .ok (.dup2, 1)) (hv : v.category = 1 := by rfl) (hw : w.category = 1 := by rfl) (k : V0 E y d mc ms Q (pc + 1) ls (v :: w :: v :: w :: st) n hp ce sl) : V0 E y d mc ms Q pc ls (v :: w :: st) n hp ce sl :=
  V0_st rfl (fun p e s m args below meth c H locs la Z ok hL kk => by exact lv_dup2_11 ok.1 ok.2.1 hd hv hw (kk la hL)) k
theorem q_iadd {a b : Int32} (hd : decode y.2.1 pc = .ok (.iadd, 1)) (k : V0 E y d mc ms Q (pc + 1) ls (.int (a + b) :: st) n hp ce sl) : V0 E y d mc ms Q pc ls (.int b :: .int a :: st) n hp ce sl :=
  V0_st rfl (fun p e s m args below meth c H locs la Z ok hL kk => lv_iadd ok.1 ok.2.1 hd (kk la hL)) k
theorem q_isub {a b : Int32} (hd : decode y.2.1 pc = .ok (.isub, 1)) (k : V0 E y d mc ms Q (pc + 1) ls (.int (a - b) :: st) n hp ce sl) : V0 E y d mc ms Q pc ls (.int b :: .int a :: st) n hp ce sl :=
  V0_st rfl (fun p e s m args below meth c H locs la Z ok hL kk => lv_isub ok.1 ok.2.1 hd (kk la hL)) k
theorem q_iand {a b : Int32} (hd : decode y.2.1 pc = .ok (.iand, 1)) (k : V0 E y d mc ms Q (pc + 1) ls (.int (a &&& b) :: st) n hp ce sl) : V0 E y d mc ms Q pc ls (.int b :: .int a :: st) n hp ce sl :=
  V0_st rfl (fun p e s m args below meth c H locs la Z ok hL kk => lv_iand ok.1 ok.2.1 hd (kk la hL)) k
theorem q_iushr {a b : Int32} (hd : decode y.2.1 pc = .ok (.iushr, 1)) (k : V0 E y d mc ms Q (pc + 1) ls (.int ((a.toUInt32 >>> (b.toUInt32 &&& Int32.toUInt32 31)).toInt32) :: st) n hp ce sl) : V0 E y d mc ms Q pc ls (.int b :: .int a :: st) n hp ce sl :=
  V0_st rfl (fun p e s m args below meth c H locs la Z ok hL kk => lv_iushr ok.1 ok.2.1 hd rfl (kk la hL)) k
theorem V0_br {pc1 pc2 : Nat} {st' : List Value} {C : Prop}
    (h : ∀ (p : Program) (e : Env) (s : State) (m : MethodId) (args : Array Value) (below : List Frame) (meth : Method) (c : Code) (H : Heap) (locs : List Loc) (la : Array Slot) (Z : State → Prop),
      xOk E y.1 y.2.1 ls.length y.2.2 p s m args meth c → (C → W p E.1 e (xRm d mc ms) s m args below meth c H locs ce sl Z (F0 m pc1 la st')) → (¬ C → W p E.1 e (xRm d mc ms) s m args below meth c H locs ce sl Z (F0 m pc2 la st')) → W p E.1 e (xRm d mc ms) s m args below meth c H locs ce sl Z (F0 m pc la st))
    (kt : C → V0 E y d mc ms Q pc1 ls st' n hp ce sl) (kf : ¬ C → V0 E y d mc ms Q pc2 ls st' n hp ce sl) : V0 E y d mc ms Q pc ls st n hp ce sl := by
  intro p e s m args below meth c H locs la ok hP hS hL
  exact h p e s m args below meth c H locs la _ ok (fun q => kt q p e s m args below meth c H locs la ok hP hS hL) (fun q => kf q p e s m args below meth c H locs la ok hP hS hL)
theorem r_icmp_eq {a b off : Int} (tgt : Nat) (hd : decode y.2.1 pc = .ok (.if_icmp .eq off, 3)) (ht : (pc : Int) + off = (tgt : Int)) (ha : -2147483648 ≤ a ∧ a < 2147483648) (hb : -2147483648 ≤ b ∧ b < 2147483648) (kt : a = b → V0 E y d mc ms Q tgt ls st n hp ce sl) (kf : ¬ (a = b) → V0 E y d mc ms Q (pc + 3) ls st n hp ce sl) : V0 E y d mc ms Q pc ls (xi b :: xi a :: st) n hp ce sl :=
  V0_br (fun p e s m args below meth c H locs la Z ok k1 k2 => lv_icmp_eq ok.1 ok.2.1 hd ht (fun q => k1 ((xI_eq ha hb).mp q)) (fun q => k2 (fun z => q ((xI_eq ha hb).mpr z)))) kt kf
theorem r_if_eq {a off : Int} (tgt : Nat) (hd : decode y.2.1 pc = .ok (.ifCond .eq off, 3)) (ht : (pc : Int) + off = (tgt : Int)) (ha : -2147483648 ≤ a ∧ a < 2147483648) (kt : a = 0 → V0 E y d mc ms Q tgt ls st n hp ce sl) (kf : ¬ (a = 0) → V0 E y d mc ms Q (pc + 3) ls st n hp ce sl) : V0 E y d mc ms Q pc ls (xi a :: st) n hp ce sl :=
  have h0 : -2147483648 ≤ (0 : Int) ∧ (0 : Int) < 2147483648 := by omega
  V0_br (fun p e s m args below meth c H locs la Z ok k1 k2 => lv_if_eq ok.1 ok.2.1 hd ht (fun q => k1 ((xI_eq ha h0).mp q)) (fun q => k2 (fun z => q ((xI_eq ha h0).mpr z)))) kt kf
theorem r_icmp_ne {a b off : Int} (tgt : Nat) (hd : decode y.2.1 pc = .ok (.if_icmp .ne off, 3)) (ht : (pc : Int) + off = (tgt : Int)) (ha : -2147483648 ≤ a ∧ a < 2147483648) (hb : -2147483648 ≤ b ∧ b < 2147483648) (kt : ¬ a = b → V0 E y d mc ms Q tgt ls st n hp ce sl) (kf : a = b → V0 E y d mc ms Q (pc + 3) ls st n hp ce sl) : V0 E y d mc ms Q pc ls (xi b :: xi a :: st) n hp ce sl :=
  V0_br (C := ¬ a = b) (fun p e s m args below meth c H locs la Z ok k1 k2 => lv_icmp_ne ok.1 ok.2.1 hd ht (fun q => k1 (fun z => q ((xI_eq ha hb).mpr z))) (fun q => k2 (fun z => z ((xI_eq ha hb).mp q)))) kt (fun q => kf (Decidable.not_not.mp q))
theorem r_if_ne {a off : Int} (tgt : Nat) (hd : decode y.2.1 pc = .ok (.ifCond .ne off, 3)) (ht : (pc : Int) + off = (tgt : Int)) (ha : -2147483648 ≤ a ∧ a < 2147483648) (kt : ¬ a = 0 → V0 E y d mc ms Q tgt ls st n hp ce sl) (kf : a = 0 → V0 E y d mc ms Q (pc + 3) ls st n hp ce sl) : V0 E y d mc ms Q pc ls (xi a :: st) n hp ce sl :=
  have h0 : -2147483648 ≤ (0 : Int) ∧ (0 : Int) < 2147483648 := by omega
  V0_br (C := ¬ a = 0) (fun p e s m args below meth c H locs la Z ok k1 k2 => lv_if_ne ok.1 ok.2.1 hd ht (fun q => k1 (fun z => q ((xI_eq ha h0).mpr z))) (fun q => k2 (fun z => z ((xI_eq ha h0).mp q)))) kt (fun q => kf (Decidable.not_not.mp q))
theorem r_icmp_lt {a b off : Int} (tgt : Nat) (hd : decode y.2.1 pc = .ok (.if_icmp .lt off, 3)) (ht : (pc : Int) + off = (tgt : Int)) (ha : -2147483648 ≤ a ∧ a < 2147483648) (hb : -2147483648 ≤ b ∧ b < 2147483648) (kt : a < b → V0 E y d mc ms Q tgt ls st n hp ce sl) (kf : ¬ (a < b) → V0 E y d mc ms Q (pc + 3) ls st n hp ce sl) : V0 E y d mc ms Q pc ls (xi b :: xi a :: st) n hp ce sl :=
  V0_br (fun p e s m args below meth c H locs la Z ok k1 k2 => lv_icmp_lt ok.1 ok.2.1 hd ht (fun q => k1 ((xI_lt ha hb).mp q)) (fun q => k2 (fun z => q ((xI_lt ha hb).mpr z)))) kt kf
theorem r_if_lt {a off : Int} (tgt : Nat) (hd : decode y.2.1 pc = .ok (.ifCond .lt off, 3)) (ht : (pc : Int) + off = (tgt : Int)) (ha : -2147483648 ≤ a ∧ a < 2147483648) (kt : a < 0 → V0 E y d mc ms Q tgt ls st n hp ce sl) (kf : ¬ (a < 0) → V0 E y d mc ms Q (pc + 3) ls st n hp ce sl) : V0 E y d mc ms Q pc ls (xi a :: st) n hp ce sl :=
  have h0 : -2147483648 ≤ (0 : Int) ∧ (0 : Int) < 2147483648 := by omega
  V0_br (fun p e s m args below meth c H locs la Z ok k1 k2 => lv_if_lt ok.1 ok.2.1 hd ht (fun q => k1 ((xI_lt ha h0).mp q)) (fun q => k2 (fun z => q ((xI_lt ha h0).mpr z)))) kt kf
theorem r_icmp_ge {a b off : Int} (tgt : Nat) (hd : decode y.2.1 pc = .ok (.if_icmp .ge off, 3)) (ht : (pc : Int) + off = (tgt : Int)) (ha : -2147483648 ≤ a ∧ a < 2147483648) (hb : -2147483648 ≤ b ∧ b < 2147483648) (kt : b ≤ a → V0 E y d mc ms Q tgt ls st n hp ce sl) (kf : ¬ (b ≤ a) → V0 E y d mc ms Q (pc + 3) ls st n hp ce sl) : V0 E y d mc ms Q pc ls (xi b :: xi a :: st) n hp ce sl :=
  V0_br (fun p e s m args below meth c H locs la Z ok k1 k2 => lv_icmp_ge ok.1 ok.2.1 hd ht (fun q => k1 ((xI_le hb ha).mp q)) (fun q => k2 (fun z => q ((xI_le hb ha).mpr z)))) kt kf
theorem r_if_ge {a off : Int} (tgt : Nat) (hd : decode y.2.1 pc = .ok (.ifCond .ge off, 3)) (ht : (pc : Int) + off = (tgt : Int)) (ha : -2147483648 ≤ a ∧ a < 2147483648) (kt : 0 ≤ a → V0 E y d mc ms Q tgt ls st n hp ce sl) (kf : ¬ (0 ≤ a) → V0 E y d mc ms Q (pc + 3) ls st n hp ce sl) : V0 E y d mc ms Q pc ls (xi a :: st) n hp ce sl :=
  have h0 : -2147483648 ≤ (0 : Int) ∧ (0 : Int) < 2147483648 := by omega
  V0_br (fun p e s m args below meth c H locs la Z ok k1 k2 => lv_if_ge ok.1 ok.2.1 hd ht (fun q => k1 ((xI_le h0 ha).mp q)) (fun q => k2 (fun z => q ((xI_le h0 ha).mpr z)))) kt kf
theorem r_icmp_gt {a b off : Int} (tgt : Nat) (hd : decode y.2.1 pc = .ok (.if_icmp .gt off, 3)) (ht : (pc : Int) + off = (tgt : Int)) (ha : -2147483648 ≤ a ∧ a < 2147483648) (hb : -2147483648 ≤ b ∧ b < 2147483648) (kt : b < a → V0 E y d mc ms Q tgt ls st n hp ce sl) (kf : ¬ (b < a) → V0 E y d mc ms Q (pc + 3) ls st n hp ce sl) : V0 E y d mc ms Q pc ls (xi b :: xi a :: st) n hp ce sl :=
  V0_br (fun p e s m args below meth c H locs la Z ok k1 k2 => lv_icmp_gt ok.1 ok.2.1 hd ht (fun q => k1 ((xI_lt hb ha).mp q)) (fun q => k2 (fun z => q ((xI_lt hb ha).mpr z)))) kt kf
theorem r_if_gt {a off : Int} (tgt : Nat) (hd : decode y.2.1 pc = .ok (.ifCond .gt off, 3)) (ht : (pc : Int) + off = (tgt : Int)) (ha : -2147483648 ≤ a ∧ a < 2147483648) (kt : 0 < a → V0 E y d mc ms Q tgt ls st n hp ce sl) (kf : ¬ (0 < a) → V0 E y d mc ms Q (pc + 3) ls st n hp ce sl) : V0 E y d mc ms Q pc ls (xi a :: st) n hp ce sl :=
  have h0 : -2147483648 ≤ (0 : Int) ∧ (0 : Int) < 2147483648 := by omega
  V0_br (fun p e s m args below meth c H locs la Z ok k1 k2 => lv_if_gt ok.1 ok.2.1 hd ht (fun q => k1 ((xI_lt h0 ha).mp q)) (fun q => k2 (fun z => q ((xI_lt h0 ha).mpr z)))) kt kf
theorem r_icmp_le {a b off : Int} (tgt : Nat) (hd : decode y.2.1 pc = .ok (.if_icmp .le off, 3)) (ht : (pc : Int) + off = (tgt : Int)) (ha : -2147483648 ≤ a ∧ a < 2147483648) (hb : -2147483648 ≤ b ∧ b < 2147483648) (kt : a ≤ b → V0 E y d mc ms Q tgt ls st n hp ce sl) (kf : ¬ (a ≤ b) → V0 E y d mc ms Q (pc + 3) ls st n hp ce sl) : V0 E y d mc ms Q pc ls (xi b :: xi a :: st) n hp ce sl :=
  V0_br (fun p e s m args below meth c H locs la Z ok k1 k2 => lv_icmp_le ok.1 ok.2.1 hd ht (fun q => k1 ((xI_le ha hb).mp q)) (fun q => k2 (fun z => q ((xI_le ha hb).mpr z)))) kt kf
theorem r_if_le {a off : Int} (tgt : Nat) (hd : decode y.2.1 pc = .ok (.ifCond .le off, 3)) (ht : (pc : Int) + off = (tgt : Int)) (ha : -2147483648 ≤ a ∧ a < 2147483648) (kt : a ≤ 0 → V0 E y d mc ms Q tgt ls st n hp ce sl) (kf : ¬ (a ≤ 0) → V0 E y d mc ms Q (pc + 3) ls st n hp ce sl) : V0 E y d mc ms Q pc ls (xi a :: st) n hp ce sl :=
  have h0 : -2147483648 ≤ (0 : Int) ∧ (0 : Int) < 2147483648 := by omega
  V0_br (fun p e s m args below meth c H locs la Z ok k1 k2 => lv_if_le ok.1 ok.2.1 hd ht (fun q => k1 ((xI_le ha h0).mp q)) (fun q => k2 (fun z => q ((xI_le ha h0).mpr z)))) kt kf
theorem r_ifb_eq {P : Prop} [Decidable P] {off : Int} (tgt : Nat) (hd : decode y.2.1 pc = .ok (.ifCond .eq off, 3)) (ht : (pc : Int) + off = (tgt : Int)) (kt : ¬ P → V0 E y d mc ms Q tgt ls st n hp ce sl) (kf : P → V0 E y d mc ms Q (pc + 3) ls st n hp ce sl) : V0 E y d mc ms Q pc ls (xi (b2i P) :: st) n hp ce sl :=
  r_if_eq tgt hd ht (by have := b2i_rg (P := P); omega) (fun q => kt (fun hp => by rw [b2i_t hp] at q; omega)) (fun q => kf (Decidable.byContradiction fun hn => q (b2i_f hn)))
theorem r_ifb_ne {P : Prop} [Decidable P] {off : Int} (tgt : Nat) (hd : decode y.2.1 pc = .ok (.ifCond .ne off, 3)) (ht : (pc : Int) + off = (tgt : Int)) (kt : P → V0 E y d mc ms Q tgt ls st n hp ce sl) (kf : ¬ P → V0 E y d mc ms Q (pc + 3) ls st n hp ce sl) : V0 E y d mc ms Q pc ls (xi (b2i P) :: st) n hp ce sl :=
  r_if_ne tgt hd ht (by have := b2i_rg (P := P); omega) (fun q => kt (Decidable.byContradiction fun hn => q (b2i_f hn))) (fun q => kf (fun hp => by rw [b2i_t hp] at q; omega))
theorem r_goto {off : Int} (tgt : Nat) (hd : decode y.2.1 pc = .ok (.goto off, 3)) (ht : (pc : Int) + off = (tgt : Int)) (k : V0 E y d mc ms Q tgt ls st n hp ce sl) : V0 E y d mc ms Q pc ls st n hp ce sl :=
  V0_st rfl (fun p e s m args below meth c H locs la Z ok hL kk => lv_goto ok.1 ok.2.1 hd ht (kk la hL)) k
theorem r_tabIn {a dflt lo hi off : Int} {offs : Array Int} {len : Nat} (tgt : Nat) (hd : decode y.2.1 pc = .ok (.tableswitch dflt lo hi offs, len)) (ha : -2147483648 ≤ a ∧ a < 2147483648) (h : lo ≤ a ∧ a ≤ hi) (ho : offs[(a - lo).toNat]? = some off) (ht : (pc : Int) + off = (tgt : Int)) (k : V0 E y d mc ms Q tgt ls st n hp ce sl) : V0 E y d mc ms Q pc ls (xi a :: st) n hp ce sl :=
  V0_st rfl (fun p e s m args below meth c H locs la Z ok hL kk => lv_tableIn ok.1 ok.2.1 hd (by rw [xI_toInt ha]; omega) (by rw [xI_toInt ha]; omega) (by rw [xI_toInt ha]; exact ho) ht (kk la hL)) k
theorem r_tabOut {a dflt lo hi : Int} {offs : Array Int} {len : Nat} (tgt : Nat) (hd : decode y.2.1 pc = .ok (.tableswitch dflt lo hi offs, len)) (ha : -2147483648 ≤ a ∧ a < 2147483648) (h : a < lo ∨ hi < a) (ht : (pc : Int) + dflt = (tgt : Int)) (k : V0 E y d mc ms Q tgt ls st n hp ce sl) : V0 E y d mc ms Q pc ls (xi a :: st) n hp ce sl :=
  V0_st rfl (fun p e s m args below meth c H locs la Z ok hL kk => lv_tableOut ok.1 ok.2.1 hd (by rw [xI_toInt ha]; exact h) ht (kk la hL)) k
theorem r_look {a dflt off : Int} {ps : Array (Int × Int)} {len : Nat} (tgt : Nat) (hd : decode y.2.1 pc = .ok (.lookupswitch dflt ps, len)) (hs : (ps.toList.zip (ps.toList.drop 1)).all (fun (a, next) => a.1 < next.1) = true) (ha : -2147483648 ≤ a ∧ a < 2147483648) (ho : Op.lookupswitch.offset ps.toList dflt a = off) (ht : (pc : Int) + off = (tgt : Int)) (k : V0 E y d mc ms Q tgt ls st n hp ce sl) : V0 E y d mc ms Q pc ls (xi a :: st) n hp ce sl :=
  V0_st rfl (fun p e s m args below meth c H locs la Z ok hL kk => lv_lookup ok.1 ok.2.1 hd hs (by rw [xI_toInt ha]; exact ho) ht (kk la hL)) k
theorem V0_eq {pc' : Nat} {ls' : List (Option Value)} {st' : List Value} {hp' : Nat → va_E} (k : V0 E y d mc ms Q pc' ls' st' n hp' ce sl) (h1 : pc = pc') (h2 : ls = ls') (h3 : st = st') (h4 : hp = hp') : V0 E y d mc ms Q pc ls st n hp ce sl := by
  subst h1; subst h2; subst h3; subst h4; exact k
end XR
end
section
section XH
variable {E : xE} {y : xM} {d mc ms : Nat} {Q : Option Value → Nat → (Nat → va_E) → Prop} {pc : Nat} {ls : List (Option Value)} {st : List Value} {n : Nat} {hp : Nat → va_E} {ce sl : Nat}
/-! returns -/
theorem r_iret {x : Int32} (hrt : y.2.2 = some .int) (hd : decode y.2.1 pc = .ok (.ireturn, 1)) (hc : ce ≤ mc) (hs : sl ≤ ms) (hq : Q (some (.int x)) n hp) : V0 E y d mc ms Q pc ls [.int x] n hp ce sl := by
  intro p e s m args below meth c H locs la ok hP hS hL
  refine W.widen hc hs ?_
  exact W.iret ok.1 ok.2.1 (ok.2.2.2.2.2.1.trans hrt) (fun t ht hW => ⟨⟨_, n, hp, rfl, hq, by rw [ht]; exact hP⟩, hS.F ht⟩) hS.2.2 hd (hlocks := ok.2.2.2.2.2.2.2.1)
theorem r_zret {x : Int32} (hx : x = xI 0 ∨ x = xI 1) (hrt : y.2.2 = some .boolean) (hd : decode y.2.1 pc = .ok (.ireturn, 1)) (hc : ce ≤ mc) (hs : sl ≤ ms) (hq : Q (some (.int x)) n hp) : V0 E y d mc ms Q pc ls [.int x] n hp ce sl := by
  intro p e s m args below meth c H locs la ok hP hS hL
  refine W.widen hc hs ?_
  exact W.zret (ty := .boolean) ok.1 ok.2.1 (ok.2.2.2.2.2.1.trans hrt) (by rcases hx with rfl | rfl <;> rfl) (fun t ht hW => ⟨⟨_, n, hp, rfl, hq, by rw [ht]; exact hP⟩, hS.F ht⟩) hS.2.2 hd (hlocks := ok.2.2.2.2.2.2.2.1)
theorem r_lret {x : Int64} (hrt : y.2.2 = some .long) (hd : decode y.2.1 pc = .ok (.lreturn, 1)) (hc : ce ≤ mc) (hs : sl ≤ ms) (hq : Q (some (.long x)) n hp) : V0 E y d mc ms Q pc ls [.long x] n hp ce sl := by
  intro p e s m args below meth c H locs la ok hP hS hL
  refine W.widen hc hs ?_
  exact W.lret ok.1 ok.2.1 (ok.2.2.2.2.2.1.trans hrt) (fun t ht hW => ⟨⟨_, n, hp, rfl, hq, by rw [ht]; exact hP⟩, hS.F ht⟩) hS.2.2 hd (hlocks := ok.2.2.2.2.2.2.2.1)
theorem r_vret (hrt : y.2.2 = none) (hd : decode y.2.1 pc = .ok (.return_, 1)) (hc : ce ≤ mc) (hs : sl ≤ ms) (hq : Q none n hp) : V0 E y d mc ms Q pc ls [] n hp ce sl := by
  intro p e s m args below meth c H locs la ok hP hS hL
  refine W.widen hc hs ?_
  exact W.vret ok.1 ok.2.1 (ok.2.2.2.2.2.1.trans hrt) (fun t ht hW => ⟨⟨_, n, hp, rfl, hq, by rw [ht]; exact hP⟩, hS.F ht⟩) hS.2.2 hd (hlocks := ok.2.2.2.2.2.2.2.1)
/-! fields -/
def xcls (ci : Nat) (C : String) (T : u_T) (N : Nat) (ty : Nat → FieldType) : Prop := vwCl[ci]? = some (C, T, N) ∧ (∀ w ∈ u_ws C T N, w ∈ gT) ∧ (∀ k, k < N → parseFieldDescriptor (T k).2.2.1 = some (ty k)) ∧ (∀ a, a < N → ∀ b, b < N → a ≠ b → (T a).2.1 ≠ (T b).2.1)
theorem r_get {C : String} {T : u_T} {N : Nat} {ty : Nat → FieldType} {ci f idx k : Nat} {fs : List Value} {v : Value} (hx : xcls ci C T N ty) (hw : Cond.fieldLink y.1.cls idx (T f).1 (T f).2.1 (T f).2.2.1 ∈ gT) (hf : f < N) (hk : k < n) (hc : hp k = .inr (ci, fs)) (hv : fs[f]? = some v) (hd : decode y.2.1 pc = .ok (.getfield idx, 3))
    (kk : V0 E y d mc ms Q (pc + 3) ls (v :: st) n hp ce sl) : V0 E y d mc ms Q pc ls (xr E k :: st) n hp ce sl := by
  intro p e s m args below meth c H locs la ok hP hS hL
  have hts := ok.2.2.2.2.1
  exact va_get (D := E.2.2.1) (cl := vwCl) ok.1 ok.2.1 hts hx.2.1 ok.2.2.2.1 ok.2.2.2.2.2.2.2.2.1 hP.2 k (by rw [xW_at hk, hc]) hx.1 f hf (hts _ hw) (fun _ h => h) hv hd (kk p e s m args below meth c H locs la ok hP hS hL)
theorem r_put {C : String} {T : u_T} {N : Nat} {ty : Nat → FieldType} {ci f idx k : Nat} {fs : List Value} {v : Value} (hx : xcls ci C T N ty) (hw : Cond.fieldLink y.1.cls idx (T f).1 (T f).2.1 (T f).2.2.1 ∈ gT) (hf : f < N) (hfin : (T f).2.2.2 = false) (hn : narrow (ty f) v = v) (hft : fits (ty f) v = true) (hk : k < n) (hc : hp k = .inr (ci, fs)) (hl : f < fs.length) (hd : decode y.2.1 pc = .ok (.putfield idx, 3))
    (kk : V0 E y d mc ms Q (pc + 3) ls st n (va_up hp k (.inr (ci, fs.set f v))) ce sl) : V0 E y d mc ms Q pc ls (v :: xr E k :: st) n hp ce sl := by
  intro p e s m args below meth c H locs la ok hP hS hL
  have hts := ok.2.2.2.2.1
  have hK := ok.2.2.2.2.2.2.2.2.1
  have hap := va_apart (own := y.1.cls) hts hx.2.1 ty hx.2.2.1 hx.2.2.2 hK hx.1
  have hat := hP.at hk
  rw [hc] at hat
  obtain ⟨r, h1, cell, q1, q2, q3, q4⟩ := hat
  have hr : r = (C, T, N) := Option.some.inj (h1.symm.trans hx.1)
  subst hr
  obtain ⟨hSl, hfc, kC, hkC, hkind⟩ := hK.1 ci _ hx.1
  obtain ⟨cf, kf, fi, fd, hi, hsl⟩ := hSl f hf
  have hlay := hts _ (hx.2.1 _ (u_in_lay hf))
  unfold u_lay at hlay
  rw [if_neg (by rw [hfin]; decide)] at hlay
  have hst := (u_facts hfc hkC (u_lays hts hx.2.1 hf) hi).1
  have h6 := u_store hfc hkC hkind hlay hi (hx.2.2.1 f hf) hn hft
  refine W.putK ok.1 ok.2.1 (f := fd) ⟨ok.2.2.2.1, hts _ hw, ⟨_, _, _, hi⟩, hst⟩ (by rw [q2]; exact h6) q1 q3 (by rw [hsl]; exact k2_hasslot (q4 f hf)) rfl rfl hd fun H' e1 e2 e3 => ?_
  rw [hsl] at e1 ⊢
  exact kk p e s m args below meth c H' _ la ok (hP.put hk e2 e3 ⟨_, hx.1, t_OB.to (V := updV (vp_V fs) f v) ⟨_, e1, q2, q3, t_set q4 hap hf v⟩ (fun j _ => vp_updV_set hl v j)⟩) (hS.put e2 e3 (Nat.le_add_right _ _)) hL
theorem r_putF {C : String} {T : u_T} {N : Nat} {ty : Nat → FieldType} {ci f idx k : Nat} {fs : List Value} {v : Value} (hx : xcls ci C T N ty) (hw : Cond.fieldLink y.1.cls idx (T f).1 (T f).2.1 (T f).2.2.1 ∈ gT) (hf : f < N) (hfin : (T f).2.2.2 = true) (hin : y.1.name = "<init>") (hdecl : (T f).1 = y.1.cls) (hn : narrow (ty f) v = v) (hft : fits (ty f) v = true) (hk : k < n) (hc : hp k = .inr (ci, fs)) (hl : f < fs.length) (hd : decode y.2.1 pc = .ok (.putfield idx, 3))
    (kk : V0 E y d mc ms Q (pc + 3) ls st n (va_up hp k (.inr (ci, fs.set f v))) ce sl) : V0 E y d mc ms Q pc ls (v :: xr E k :: st) n hp ce sl := by
  intro p e s m args below meth c H locs la ok hP hS hL
  have hts := ok.2.2.2.2.1
  have hK := ok.2.2.2.2.2.2.2.2.1
  have hap := va_apart (own := y.1.cls) hts hx.2.1 ty hx.2.2.1 hx.2.2.2 hK hx.1
  have hat := hP.at hk
  rw [hc] at hat
  obtain ⟨r, h1, cell, q1, q2, q3, q4⟩ := hat
  have hr : r = (C, T, N) := Option.some.inj (h1.symm.trans hx.1)
  subst hr
  obtain ⟨hSl, hfc, kC, hkC, hkind⟩ := hK.1 ci _ hx.1
  obtain ⟨cf, kf, fi, fd, hi, hsl⟩ := hSl f hf
  have hlay := hts _ (hx.2.1 _ (u_in_lay hf))
  unfold u_lay at hlay
  rw [if_pos hfin] at hlay
  have hst := (u_facts hfc hkC (u_lays hts hx.2.1 hf) hi).1
  have hcf : m.cls = cf := by
    obtain ⟨_, _, c', _, _, _, -, -, hf', -, -, -, hown2, -⟩ := Cond.laysFinal_spec hlay
    have e1 : c' = cf := by have := hi.symm.trans hf'; simp at this; exact this.1.symm
    rw [hdecl] at hown2
    rw [← e1]; exact Option.some.inj (ok.2.2.2.1.symm.trans hown2)
  have h6 := u_fits hfc hkC hkind (Or.inr hlay) hi (hx.2.2.1 f hf) hn hft
  refine W.putFinK ok.1 ok.2.1 ok.2.2.2.1 (hts _ hw) hi hst hcf (ok.2.2.2.2.2.2.1.trans hin) (by rw [q2]; exact h6) q1 q3 (by rw [hsl]; exact k2_hasslot (q4 f hf)) rfl rfl hd fun H' e1 e2 e3 => ?_
  rw [hsl] at e1 ⊢
  exact kk p e s m args below meth c H' _ la ok (hP.put hk e2 e3 ⟨_, hx.1, t_OB.to (V := updV (vp_V fs) f v) ⟨_, e1, q2, q3, t_set q4 hap hf v⟩ (fun j _ => vp_updV_set hl v j)⟩) (hS.put e2 e3 (Nat.le_add_right _ _)) hL
/-! arrays -/
theorem r_iald {k N : Nat} {f : Nat → Int32} {i : Int} (hk : k < n) (hc : hp k = .inl (E.2.2.2 0, N, .inl f)) (h0 : 0 ≤ i) (h1 : i < N) (hN : N < 2147483648) (hd : decode y.2.1 pc = .ok (.iaload, 1))
    (kk : V0 E y d mc ms Q (pc + 1) ls (.int (f i.toNat) :: st) n hp ce sl) : V0 E y d mc ms Q pc ls (xi i :: xr E k :: st) n hp ce sl := by
  intro p e s m args below meth c H locs la ok hP hS hL
  refine va_iald (D := E.2.2.1) (cl := vwCl) (tys := xtys E) ok.1 ok.2.1 ok.2.2.2.2.2.2.2.2.1 hP.2 k 0 (by rw [xW_at hk, hc]) rfl (xI_in h0 h1 (by omega)) hd ?_
  rw [xI_clamp (by omega)]
  exact kk p e s m args below meth c H locs la ok hP hS hL
theorem r_zald {k N : Nat} {f : Nat → Int32} {i : Int} (hk : k < n) (hc : hp k = .inl (E.2.2.2 1, N, .inl f)) (h0 : 0 ≤ i) (h1 : i < N) (hN : N < 2147483648) (hd : decode y.2.1 pc = .ok (.baload, 1))
    (kk : V0 E y d mc ms Q (pc + 1) ls (.int (f i.toNat) :: st) n hp ce sl) : V0 E y d mc ms Q pc ls (xi i :: xr E k :: st) n hp ce sl := by
  intro p e s m args below meth c H locs la ok hP hS hL
  refine va_zald (D := E.2.2.1) (cl := vwCl) (tys := xtys E) ok.1 ok.2.1 ok.2.2.2.2.2.2.2.2.1 hP.2 k 1 (by rw [xW_at hk, hc]) rfl (xI_in h0 h1 (by omega)) hd ?_
  rw [xI_clamp (by omega)]
  exact kk p e s m args below meth c H locs la ok hP hS hL
theorem r_aald {k N t : Nat} {C : String} {f : Nat → Option Nat} {i : Int} (hk : k < n) (ht : (xtys E)[t]? = some (E.2.2.2 t, .object C)) (hc : hp k = .inl (E.2.2.2 t, N, .inr (.inr (.inr (.inr f))))) (h0 : 0 ≤ i) (h1 : i < N) (hN : N < 2147483648) (hd : decode y.2.1 pc = .ok (.aaload, 1))
    (kk : V0 E y d mc ms Q (pc + 1) ls (va_rf (f i.toNat) :: st) n hp ce sl) : V0 E y d mc ms Q pc ls (xi i :: xr E k :: st) n hp ce sl := by
  intro p e s m args below meth c H locs la ok hP hS hL
  refine va_aldq (D := E.2.2.1) (cl := vwCl) (tys := xtys E) ok.1 ok.2.1 ok.2.2.2.2.2.2.2.2.1 hP.2 k t (by rw [xW_at hk, hc]) ht (xI_in h0 h1 (by omega)) hd ?_
  rw [xI_clamp (by omega)]
  exact kk p e s m args below meth c H locs la ok hP hS hL
theorem r_iast {k N : Nat} {f : Nat → Int32} {i : Int} {x : Int32} (hk : k < n) (hc : hp k = .inl (E.2.2.2 0, N, .inl f)) (h0 : 0 ≤ i) (h1 : i < N) (hN : N < 2147483648) (hd : decode y.2.1 pc = .ok (.iastore, 1))
    (kk : V0 E y d mc ms Q (pc + 1) ls st n (va_up hp k (.inl (E.2.2.2 0, N, .inl (upd f i.toNat x)))) ce sl) : V0 E y d mc ms Q pc ls (.int x :: xi i :: xr E k :: st) n hp ce sl := by
  intro p e s m args below meth c H locs la ok hP hS hL
  have hat := hP.at hk
  rw [hc] at hat
  have hcl := xI_clamp (a := i) (by omega)
  refine W.iast ok.1 ok.2.1 hat ((ok.2.2.2.2.2.2.2.2.1.2 0 _ rfl).1 N (fun j => .int (f j))) (fun q => by cases q) (by show ¬ (_ < 0 ∨ (arrV _ _ _).slots.size ≤ _); rw [arrV_size]; exact xI_in h0 h1 (by omega)) rfl rfl hd fun H1 e1 z oq => ?_
  rw [hcl] at e1 ⊢
  refine kk p e s m args below meth c H1 _ la ok (hP.put hk z oq ?_) (hS.put z oq (Nat.le_add_right _ _)) hL
  show H1[_]? = some (vp_cell _ _)
  rw [e1, vp_cell_i, vp_cell_i, arrV_store]
  congr 2
  funext q
  by_cases hq : q = i.toNat
  · subst hq
    simp [updV, upd]
  · simp [updV, upd, hq]
theorem r_zast {k N : Nat} {f : Nat → Int32} {i : Int} {x : Int32} (hx : x = xI 0 ∨ x = xI 1) (hk : k < n) (hc : hp k = .inl (E.2.2.2 1, N, .inl f)) (h0 : 0 ≤ i) (h1 : i < N) (hN : N < 2147483648) (hd : decode y.2.1 pc = .ok (.bastore, 1))
    (kk : V0 E y d mc ms Q (pc + 1) ls st n (va_up hp k (.inl (E.2.2.2 1, N, .inl (upd f i.toNat x)))) ce sl) : V0 E y d mc ms Q pc ls (.int x :: xi i :: xr E k :: st) n hp ce sl := by
  intro p e s m args below meth c H locs la ok hP hS hL
  have hat := hP.at hk
  rw [hc] at hat
  have hcl := xI_clamp (a := i) (by omega)
  have hnx : narrow .boolean (.int x) = .int x := by rcases hx with rfl | rfl <;> rfl
  refine W.zast ok.1 ok.2.1 hat ((ok.2.2.2.2.2.2.2.2.1.2 1 _ rfl).1 N (fun j => .int (f j))) (fun q => by cases q) (by show ¬ (_ < 0 ∨ (arrV _ _ _).slots.size ≤ _); rw [arrV_size]; exact xI_in h0 h1 (by omega)) rfl rfl hd fun H1 e1 z oq => ?_
  rw [hcl, hnx] at e1
  rw [hcl]
  refine kk p e s m args below meth c H1 _ la ok (hP.put hk z oq ?_) (hS.put z oq (Nat.le_add_right _ _)) hL
  show H1[_]? = some (vp_cell _ _)
  rw [e1, vp_cell_i, vp_cell_i, arrV_store]
  congr 2
  funext q
  by_cases hq : q = i.toNat
  · subst hq
    simp [updV, upd]
  · simp [updV, upd, hq]
theorem r_aast {k N t v ci : Nat} {r : vw_C} {vs : List Value} {f : Nat → Option Nat} {i : Int} (hk : k < n) (ht : (xtys E)[t]? = some (E.2.2.2 t, .object r.1)) (hc : hp k = .inl (E.2.2.2 t, N, .inr (.inr (.inr (.inr f))))) (hkv : v < n) (hv : hp v = .inr (ci, vs)) (hcl : vwCl[ci]? = some r) (h0 : 0 ≤ i) (h1 : i < N) (hN : N < 2147483648) (hd : decode y.2.1 pc = .ok (.aastore, 1))
    (kk : V0 E y d mc ms Q (pc + 1) ls st n (va_up hp k (.inl (E.2.2.2 t, N, .inr (.inr (.inr (.inr (va_up f i.toNat (some (E.2.1 + v))))))))) ce sl) : V0 E y d mc ms Q pc ls (xr E v :: xi i :: xr E k :: st) n hp ce sl := by
  intro p e s m args below meth c H locs la ok hP hS hL
  have hK := ok.2.2.2.2.2.2.2.2.1
  have hat := hP.at hk
  rw [hc] at hat
  have hav := hP.at hkv
  rw [hv] at hav
  obtain ⟨r', hr', cellV, g1, g2, g3, -⟩ := hav
  have hcls := (hK.1 ci r hcl).2
  obtain ⟨kA, comp, k1, k2, k3, -⟩ := (hK.2 t _ ht).2
  have hcomp : comp = E.2.2.1.1 ci := Option.some.inj (k3.symm.trans hcls.1)
  subst hcomp
  obtain ⟨kC, hkC, -⟩ := hcls.2
  have hcl2 := xI_clamp (a := i) (by omega)
  have hin := xI_in h0 h1 (by omega)
  refine W.aast ok.1 ok.2.1 hat (fun q h => by cases h) (fun h => by cases h) k1 k2 rfl hkC ⟨fun q => hin (Or.inl q), by show _ < (arrV _ _ _).slots.size; rw [arrV_size]; exact Nat.not_le.mp fun q => hin (Or.inr q)⟩ g1 (fun q h => by rw [g3] at h; cases h) (by rw [g2]; exact hkC) (by rw [g2]; exact va_assign hcls) rfl rfl hd fun H1 e1 z oq => ?_
  rw [hcl2] at e1 ⊢
  refine kk p e s m args below meth c H1 _ la ok (hP.put hk z oq ?_) (hS.put z oq (Nat.le_add_right _ _)) hL
  show H1[_]? = some (vp_cell _ _)
  rw [e1, vp_cell_q, vp_cell_q, arrV_store]
  congr 2
  funext q
  by_cases hq : q = i.toNat
  · subst hq
    simp [updV, va_up, va_rf]
  · simp [updV, va_up, hq]
/-! makings -/
theorem r_new {C : String} {T : u_T} {N : Nat} {ty : Nat → FieldType} {ci idx : Nat} (fs : List Value) (hx : xcls ci C T N ty) (hw1 : Cond.classLink y.1.cls idx C ∈ gT) (hw2 : Cond.instantiable C N ∈ gT) (hw3 : Cond.initialized C ∈ gT) (hfs : ∀ j, j < N → defaultValue (ty j) = vp_V fs j) (hcm : ce + 1 ≤ mc) (hsm : sl + N ≤ ms) (hd : decode y.2.1 pc = .ok (.new idx, 3))
    (kk : V0 E y d mc ms Q (pc + 3) ls (xr E n :: st) (n + 1) (va_up hp n (.inr (ci, fs))) (ce + 1) (sl + N)) : V0 E y d mc ms Q pc ls st n hp ce sl := by
  intro p e s m args below meth c H locs la ok hP hS hL
  have hts := ok.2.2.2.2.1
  have hK := ok.2.2.2.2.2.2.2.2.1
  have hKn := hK.1 ci _ hx.1
  refine W.newcK ok.1 ok.2.1 ok.2.2.2.1 (hts _ hw1) (hts _ hw2) (hts _ hw3) rfl hd hcm hsm hKn.2.1 hP.1 fun H1 kC hkC e1 z1 o1 => ?_
  exact kk p e s m args below meth c H1 locs la ok (hP.push (by rw [z1, hP.1]) (fun q hq => o1 q (by rw [← hP.1]; exact hq)) ⟨_, hx.1, (u_born ty hts hx.2.1 hKn hkC e1 hx.2.2.1).to hfs⟩) ⟨by have := hS.1; have := hP.1; omega, fun q h1 h2 => (o1 q (by have := hS.1; have := hP.1; omega)).trans (hS.2.1 q h1 h2), hS.2.2⟩ hL
theorem r_newI {N : Nat} (hw : Cond.arrayClass .int ∈ gT) (hN : N ≤ 100000) (hcm : ce + 1 ≤ mc) (hsm : sl + N ≤ ms) (hd : decode y.2.1 pc = .ok (.newarray .int, 2))
    (kk : V0 E y d mc ms Q (pc + 2) ls (xr E n :: st) (n + 1) (va_up hp n (.inl (E.2.2.2 0, N, .inl (fun _ => 0)))) (ce + 1) (sl + N)) : V0 E y d mc ms Q pc ls (xi (N : Int) :: st) n hp ce sl := by
  intro p e s m args below meth c H locs la ok hP hS hL
  have hts := ok.2.2.2.2.1
  have hK := ok.2.2.2.2.2.2.2.2.1
  refine va_newaK (atype := .int) ok.1 ok.2.1 (hts _ hw) rfl hd rfl (by rw [show (0 : Int32) = xI 0 from rfl, xI_lt (by omega) (by omega)]; omega) (N := N) (by rw [xI_clamp (by omega)]; simp) (by show N * 4 ≤ _; omega) hcm hsm hP.1 fun H1 cA e1 z1 o1 hAr hNm => ?_
  have hcA : cA = E.2.2.2 0 := Option.some.inj (hNm.symm.trans (hK.2 0 _ rfl).2)
  subst hcA
  exact kk p e s m args below meth c H1 locs la ok (hP.push (by rw [z1, hP.1]) (fun q hq => o1 q (by rw [← hP.1]; exact hq)) e1) ⟨by have := hS.1; have := hP.1; omega, fun q h1 h2 => (o1 q (by have := hS.1; have := hP.1; omega)).trans (hS.2.1 q h1 h2), hS.2.2⟩ hL
theorem r_newZ {N : Nat} (hw : Cond.arrayClass .boolean ∈ gT) (hN : N ≤ 100000) (hcm : ce + 1 ≤ mc) (hsm : sl + N ≤ ms) (hd : decode y.2.1 pc = .ok (.newarray .boolean, 2))
    (kk : V0 E y d mc ms Q (pc + 2) ls (xr E n :: st) (n + 1) (va_up hp n (.inl (E.2.2.2 1, N, .inl (fun _ => 0)))) (ce + 1) (sl + N)) : V0 E y d mc ms Q pc ls (xi (N : Int) :: st) n hp ce sl := by
  intro p e s m args below meth c H locs la ok hP hS hL
  have hts := ok.2.2.2.2.1
  have hK := ok.2.2.2.2.2.2.2.2.1
  refine va_newaK (atype := .boolean) ok.1 ok.2.1 (hts _ hw) rfl hd rfl (by rw [show (0 : Int32) = xI 0 from rfl, xI_lt (by omega) (by omega)]; omega) (N := N) (by rw [xI_clamp (by omega)]; simp) (by show N * 1 ≤ _; omega) hcm hsm hP.1 fun H1 cA e1 z1 o1 hAr hNm => ?_
  have hcA : cA = E.2.2.2 1 := Option.some.inj (hNm.symm.trans (hK.2 1 _ rfl).2)
  subst hcA
  exact kk p e s m args below meth c H1 locs la ok (hP.push (by rw [z1, hP.1]) (fun q hq => o1 q (by rw [← hP.1]; exact hq)) e1) ⟨by have := hS.1; have := hP.1; omega, fun q h1 h2 => (o1 q (by have := hS.1; have := hP.1; omega)).trans (hS.2.1 q h1 h2), hS.2.2⟩ hL
theorem r_anew {N t idx : Nat} {C : String} (ht : (xtys E)[t]? = some (E.2.2.2 t, .object C)) (hov : ∀ U, xG E U → va_AO C U) (hw : Cond.classLink y.1.cls idx C ∈ gT) (hN : N ≤ 100000) (hcm : ce + 1 ≤ mc) (hsm : sl + N ≤ ms) (hd : decode y.2.1 pc = .ok (.anewarray idx, 3))
    (kk : V0 E y d mc ms Q (pc + 3) ls (xr E n :: st) (n + 1) (va_up hp n (.inl (E.2.2.2 t, N, .inr (.inr (.inr (.inr (fun _ => none))))))) (ce + 1) (sl + N)) : V0 E y d mc ms Q pc ls (xi (N : Int) :: st) n hp ce sl := by
  intro p e s m args below meth c H locs la ok hP hS hL
  have hts := ok.2.2.2.2.1
  have hK := ok.2.2.2.2.2.2.2.2.1
  have hcl : (xI (N : Int)).toNatClampNeg = N := by rw [xI_clamp (by omega)]; simp
  refine W.anew ok.1 ok.2.1 ok.2.2.2.1 (hts _ hw) (va_AO.use (hov s ok.2.2.2.2.2.2.2.2)) rfl hd rfl (by rw [show (0 : Int32) = xI 0 from rfl, xI_lt (by omega) (by omega)]; omega) (by rw [hcl]; omega) hcm (by rw [hcl]; exact hsm) fun cA kA comp f1 f2 f3 f4 => ?_
  rw [hcl]
  obtain ⟨kA', comp', w1, w2, w3, w4⟩ := (hK.2 t _ ht).2
  have hcA : cA = E.2.2.2 t := Option.some.inj (f1.symm.trans w4)
  subst hcA
  generalize hH1 : H.push ({ cls := E.2.2.2 t, slots := Array.replicate N .null, vm := .none } : Cell) = H1
  have z1 : H1.size = H.size + 1 := by rw [← hH1, Array.size_push]
  have e1 : H1[H.size]? = some (arrV (E.2.2.2 t) N (fun _ => .null)) := by rw [← hH1, Array.getElem?_push_size, ← arrV_new]
  have o1 : ∀ q : Nat, q < H.size → H1[q]? = H[q]? := fun q hq => by rw [← hH1, Array.getElem?_push, if_neg (Nat.ne_of_lt hq)]
  have hsz : F0 m (pc + 3) la (.ref H.size :: st) = F0 m (pc + 3) la (xr E n :: st) := by rw [hP.1]
  refine W.eq (g2 := F0 m (pc + 3) la (xr E n :: st)) hsz ?_
  exact kk p e s m args below meth c H1 locs la ok (hP.push z1 o1 (by show H1[E.2.1 + n]? = _; rw [← hP.1]; exact e1)) ⟨by have := hS.1; omega, fun q h1 h2 => (o1 q (by have := hS.1; omega)).trans (hS.2.1 q h1 h2), hS.2.2⟩ hL
/-! static tables -/
theorem r_gets {j idx : Nat} (hj : j < 3) (hw : Cond.fieldLink y.1.cls idx (xtabO j) (xtabN j) "[I" ∈ gT) (hd : decode y.2.1 pc = .ok (.getstatic idx, 3))
    (kk : V0 E y d mc ms Q (pc + 3) ls (.ref (E.2.2.2 (10 + j)) :: st) n hp ce sl) : V0 E y d mc ms Q pc ls st n hp ce sl := by
  intro p e s m args below meth c H locs la ok hP hS hL
  exact va_gets ok.1 ok.2.1 (ok.2.2.2.2.2.2.2.2.2.2.2 j hj).1 hS ok.2.2.2.1 (ok.2.2.2.2.1 _ hw) (fun _ h => h) hd (kk p e s m args below meth c H locs la ok hP hS hL)
theorem r_tald {j : Nat} {i : Int} (hj : j < 3) (h0 : 0 ≤ i) (h1 : i < 6) (hd : decode y.2.1 pc = .ok (.iaload, 1))
    (kk : V0 E y d mc ms Q (pc + 1) ls (xi ((xtab j).getD i.toNat 0) :: st) n hp ce sl) : V0 E y d mc ms Q pc ls (xi i :: .ref (E.2.2.2 (10 + j)) :: st) n hp ce sl := by
  intro p e s m args below meth c H locs la ok hP hS hL
  obtain ⟨cell, t1, t2, t3, t4, t5, t6, t7⟩ := (ok.2.2.2.2.2.2.2.2.2.2.2 j hj).2
  have hcl := xI_clamp (a := i) (by omega)
  refine W.iald (v := xi ((xtab j).getD i.toNat 0)) ok.1 ok.2.1 (cell := cell) (by rw [hS.2.1 _ (Array.getElem?_eq_some_iff.mp t1).1 t7]; exact t1) t2 t3 ?_ (by rw [hcl]; exact t6 _ (by omega)) rfl rfl hd (kk p e s m args below meth c H locs la ok hP hS hL)
  rintro (q | q)
  · rw [show (0 : Int32) = xI 0 from rfl, xI_lt (by omega) (by omega)] at q
    omega
  · rw [hcl] at q
    omega
theorem r_talen {j : Nat} (hj : j < 3) (hd : decode y.2.1 pc = .ok (.arraylength, 1))
    (kk : V0 E y d mc ms Q (pc + 1) ls (xi 6 :: st) n hp ce sl) : V0 E y d mc ms Q pc ls (.ref (E.2.2.2 (10 + j)) :: st) n hp ce sl := by
  intro p e s m args below meth c H locs la ok hP hS hL
  obtain ⟨cell, t1, t2, t3, t4, t5, t6, t7⟩ := (ok.2.2.2.2.2.2.2.2.2.2.2 j hj).2
  exact W.alen (n := xI 6) ok.1 ok.2.1 (cell := cell) (by rw [hS.2.1 _ (Array.getElem?_eq_some_iff.mp t1).1 t7]; exact t1) t2 t5 rfl rfl hd (kk p e s m args below meth c H locs la ok hP hS hL)
end XH
end
section
section XC
variable {E : xE} {y : xM} {d mc ms : Nat} {Q : Option Value → Nat → (Nat → va_E) → Prop} {pc : Nat} {ls : List (Option Value)} {n : Nat} {hp : Nat → va_E} {ce sl : Nat}
variable {z : xM} {nL d' mc' ms' idx np : Nat} {Q' : Option Value → Nat → (Nat → va_E) → Prop} {As rest st : List Value}
/-- what a call of z needs of the tables -/
def xcw (z : xM) (nL np : Nat) : Prop := Cond.initialized z.1.cls ∈ gT ∧ Cond.code z.1 z.2.1 nL z.2.2 ∈ gT ∧ (z.1.cls ≠ "java/lang/invoke/MethodHandle" ∧ z.1.cls ≠ "java/lang/invoke/VarHandle" ∧ (parseMethodDescriptor z.1.desc).map (fun d => d.parameters.length) = some np) ∧ nL ≤ 21
def xcv (z : xM) (nL np : Nat) : Prop := xcw z nL np ∧ Cond.instanceMethod z.1 ∈ gT ∧ Cond.selects z.1.cls z.1 z.1 ∈ gT
def xcs (z : xM) (nL np : Nat) : Prop := xcw z nL np ∧ Cond.static z.1 ∈ gT
def xci (z : xM) (nL np : Nat) : Prop := xcw z nL np ∧ Cond.instanceMethod z.1 ∈ gT ∧ z.1.name = "<init>"
theorem gT_code {z : xM} {nL : Nat} (h : Cond.code z.1 z.2.1 nL z.2.2 ∈ gT) : GoodIn gT (.code z.1 z.2.1 nL z.2.2 :: gT) := fun w hw => by
  rcases List.mem_cons.mp hw with rfl | hw
  · exact gT_good _ h
  · exact gT_good _ hw
theorem xBlind {av : List Value} : FrameBlind (va_Pc av (fun U => xP E n hp U.heap ∧ xG E U)) := fun a U g mk q => ⟨q.1, q.2.1, q.2.2.call g mk a⟩
/-- what comes behind a call -/
theorem xBack {p : Program} {e : Env} {s : State} {m : MethodId} {args : Array Value} {below : List Frame} {meth : Method} {c : Code} {H : Heap} {locs : List Loc} {la : Array Slot} {a : Array Value}
    (ok : xOk E y.1 y.2.1 ls.length y.2.2 p s m args meth c) (hS : va_S (xA E) s.heap H locs) (hL : xL la ls)
    (hr : va_Run p E.1 e (xRm d mc ms) s m args below meth c H locs ce sl mc' ms' (F0 m pc la st) rest (xQ E Q' a) (xA E))
    (kk : ∀ v n' hp', Q' v n' hp' → V0 E y d mc ms Q (pc + 3) ls (v.toList ++ rest) n' hp' (ce + mc') (sl + ms')) :
    W p E.1 e (xRm d mc ms) s m args below meth c H locs ce sl (MQ below (xQ E Q) args s mc ms (xA E)) (F0 m pc la st) := by
  intro T hT X
  obtain ⟨v, st₀, t, T', L, h0, X', hLo, e1, e2, ⟨⟨v', n', hp', hv, hq, hP'⟩, hz, hkk⟩, stp⟩ := hr T hT X
  cases hv
  rw [h0] at hz hkk
  obtain ⟨t2, a1, b1⟩ := kk v n' hp' hq p e s m args below meth c T'.heap (locs ++ L) la ok (by rw [e1]; exact hP')
    ⟨Nat.le_trans hS.1 (by rw [e1]; exact hz), fun q h1 h2 => by rw [e1, hkk q (Nat.lt_of_lt_of_le h1 hS.1) h2]; exact hS.2.1 q h1 h2, fun q hq => by
      rcases List.mem_append.mp hq with h | h
      · exact hS.2.2 q h
      · exact hLo q h⟩ hL T' rfl X'
  exact ⟨t2, stp t2 a1, b1⟩
theorem r_callV0 {k ci : Nat} {fs : List Value} {r : vw_C} (hK : xK E z nL d' mc' ms' (xr E k :: As) n hp Q') (cw : xcv z nL np) (hw : Cond.methodLink y.1.cls idx z.1 ∈ gT) (hst : st = As.reverse ++ xr E k :: rest) (hn : As.length = np) (hk : k < n) (hc : hp k = .inr (ci, fs)) (hcl : vwCl[ci]? = some r) (hr : r.1 = z.1.cls) (hrm : (rest.map fun v => v.category).sum ≤ 8) (hdp : d' + 1 ≤ d) (hcm : ce + mc' ≤ mc) (hsm : sl + ms' ≤ ms) (hd : decode y.2.1 pc = .ok (.invokevirtual idx, 3))
    (kk : ∀ v n' hp', Q' v n' hp' → V0 E y d mc ms Q (pc + 3) ls (v.toList ++ rest) n' hp' (ce + mc') (sl + ms')) : V0 E y d mc ms Q pc ls st n hp ce sl := by
  intro p e s m args below meth c H locs la ok hP hS hL
  have hts := ok.2.2.2.2.1
  obtain ⟨⟨c1, c2, c3, c4⟩, c5, c6⟩ := cw
  have hcb := callB_of (R := xRm d mc ms) (own := y.1.cls) (index := idx) np hts (gT_code c2) rfl (rm := xRm d' mc' ms') (mc := mc') (ms := ms') rfl rfl (hts _ c1) (hts _ hw) c3 ⟨hdp, by show 8 + (nL + 11) + 40 * d' ≤ 40 * d; omega⟩
  subst hst
  refine xBack (a := (xr E k :: As).toArray) ok hS hL (va_runV (C := z.1.cls) (b := E.2.1 + k) (As := As) (rest := rest) ⟨ok.1, ok.2.1, ok.2.2.1, ok.2.2.2.1, hts⟩ hK ⟨hcb, hts _ c5, hts _ c6⟩ ⟨xBlind, ?_, fun U hU hW => ⟨rfl, by rw [hU]; exact hP, ok.2.2.2.2.2.2.2.2.go hW (fun a h1 h2 => by rw [hU]; exact hS.2.1 a h1 h2)⟩⟩ rfl hn hL.1 rfl (lv_room hrm) hd ⟨hcm, hsm⟩) kk
  rw [← hr]
  exact va_recv ok.2.2.2.2.2.2.2.2.1 hP.2 (q0 := k) hcl (by rw [xW_at hk, hc])
theorem r_callS0 (hK : xK E z nL d' mc' ms' As n hp Q') (cw : xcs z nL np) (hw : Cond.methodLink y.1.cls idx z.1 ∈ gT) (hst : st = As.reverse ++ rest) (hn : As.length = np) (hrm : (rest.map fun v => v.category).sum ≤ 8) (hdp : d' + 1 ≤ d) (hcm : ce + mc' ≤ mc) (hsm : sl + ms' ≤ ms) (hd : decode y.2.1 pc = .ok (.invokestatic idx, 3))
    (kk : ∀ v n' hp', Q' v n' hp' → V0 E y d mc ms Q (pc + 3) ls (v.toList ++ rest) n' hp' (ce + mc') (sl + ms')) : V0 E y d mc ms Q pc ls st n hp ce sl := by
  intro p e s m args below meth c H locs la ok hP hS hL
  have hts := ok.2.2.2.2.1
  obtain ⟨⟨c1, c2, c3, c4⟩, c5⟩ := cw
  have hcb := callB_of (R := xRm d mc ms) (own := y.1.cls) (index := idx) np hts (gT_code c2) rfl (rm := xRm d' mc' ms') (mc := mc') (ms := ms') rfl rfl (hts _ c1) (hts _ hw) c3 ⟨hdp, by show 8 + (nL + 11) + 40 * d' ≤ 40 * d; omega⟩
  subst hst
  exact xBack (a := As.toArray) ok hS hL (va_runS (As := As) (rest := rest) ⟨ok.1, ok.2.1, ok.2.2.1, ok.2.2.2.1, hts⟩ hK ⟨hcb, hts _ c5⟩ ⟨xBlind, fun U hU hW => ⟨rfl, by rw [hU]; exact hP, ok.2.2.2.2.2.2.2.2.go hW (fun a h1 h2 => by rw [hU]; exact hS.2.1 a h1 h2)⟩⟩ rfl hn hL.1 rfl (lv_room hrm) hd ⟨hcm, hsm⟩) kk
theorem r_callI0 {k : Nat} (hz : z.2.2 = none) (hK : xK E z nL d' mc' ms' (xr E k :: As) n hp Q') (cw : xci z nL np) (hw : Cond.methodLink y.1.cls idx z.1 ∈ gT) (hst : st = As.reverse ++ xr E k :: rest) (hn : As.length = np) (hrm : (rest.map fun v => v.category).sum ≤ 8) (hdp : d' + 1 ≤ d) (hcm : ce + mc' ≤ mc) (hsm : sl + ms' ≤ ms) (hd : decode y.2.1 pc = .ok (.invokespecial idx, 3))
    (kk : ∀ v n' hp', Q' v n' hp' → V0 E y d mc ms Q (pc + 3) ls (v.toList ++ rest) n' hp' (ce + mc') (sl + ms')) : V0 E y d mc ms Q pc ls st n hp ce sl := by
  intro p e s m args below meth c H locs la ok hP hS hL
  have hts := ok.2.2.2.2.1
  obtain ⟨⟨c1, c2, c3, c4⟩, c5, c6⟩ := cw
  have hcb := callB_of (R := xRm d mc ms) (own := y.1.cls) (index := idx) np hts (gT_code c2) rfl (rm := xRm d' mc' ms') (mc := mc') (ms := ms') rfl rfl (hts _ c1) (hts _ hw) c3 ⟨hdp, by show 8 + (nL + 11) + 40 * d' ≤ 40 * d; omega⟩
  rw [hz] at hcb
  unfold xK at hK
  rw [hz] at hK
  subst hst
  exact xBack (a := (xr E k :: As).toArray) ok hS hL (va_runI (b := E.2.1 + k) (As := As) (rest := rest) ⟨ok.1, ok.2.1, ok.2.2.1, ok.2.2.2.1, hts⟩ hK ⟨hcb, c6, hts _ c5⟩ ⟨xBlind, fun U hU hW => ⟨rfl, by rw [hU]; exact hP, ok.2.2.2.2.2.2.2.2.go hW (fun a h1 h2 => by rw [hU]; exact hS.2.1 a h1 h2)⟩⟩ rfl hn hL.1 rfl (lv_room hrm) hd ⟨hcm, hsm⟩) kk
theorem r_callN0 {k : Nat} (hz : z.2.2 = none) (hK : xK E z nL d' mc' ms' (xr E k :: As) n hp Q') (cw : xci z nL np) (hw : (y.1.cls, idx, z.1) ∈ xNest) (hst : st = As.reverse ++ xr E k :: rest) (hn : As.length = np) (hrm : (rest.map fun v => v.category).sum ≤ 8) (hdp : d' + 1 ≤ d) (hcm : ce + mc' ≤ mc) (hsm : sl + ms' ≤ ms) (hd : decode y.2.1 pc = .ok (.invokespecial idx, 3))
    (kk : ∀ v n' hp', Q' v n' hp' → V0 E y d mc ms Q (pc + 3) ls (v.toList ++ rest) n' hp' (ce + mc') (sl + ms')) : V0 E y d mc ms Q pc ls st n hp ce sl := by
  intro p e s m args below meth c H locs la ok hP hS hL
  have hts := ok.2.2.2.2.1
  obtain ⟨⟨c1, c2, c3, c4⟩, c5, c6⟩ := cw
  have hcb := va_cnB (R := xRm d mc ms) (own := y.1.cls) (host := "CrierWeeks") (index := idx) np hts (gT_code c2) rfl (rm := xRm d' mc' ms') (mc := mc') (ms := ms') rfl rfl (ok.2.2.2.2.2.2.2.2.2.1 _ hw) (hts _ c1) c3 ⟨hdp, by show 8 + (nL + 11) + 40 * d' ≤ 40 * d; omega⟩
  unfold xK at hK
  rw [hz] at hK hcb
  subst hst
  exact xBack (a := (xr E k :: As).toArray) ok hS hL (va_runIN (b := E.2.1 + k) (As := As) (rest := rest) ⟨ok.1, ok.2.1, ok.2.2.1, ok.2.2.2.1, hts⟩ hK ⟨hcb, c6, hts _ c5⟩ ⟨xBlind, fun U hU hW => ⟨rfl, by rw [hU]; exact hP, ok.2.2.2.2.2.2.2.2.go hW (fun a h1 h2 => by rw [hU]; exact hS.2.1 a h1 h2)⟩⟩ rfl hn hL.1 rfl (lv_room hrm) hd ⟨hcm, hsm⟩) kk
theorem r_objInit {k : Nat} (hw1 : Cond.methodLink y.1.cls idx Lib.objectInit ∈ gT) (hw2 : Cond.instanceMethod Lib.objectInit ∈ gT) (hw3 : Cond.code Lib.objectInit ⟨#[0xb1]⟩ 1 none ∈ gT) (hrm : (rest.map fun v => v.category).sum ≤ 8) (hdp : 1 ≤ d) (hd : decode y.2.1 pc = .ok (.invokespecial idx, 3))
    (kk : V0 E y d mc ms Q (pc + 3) ls rest n hp ce sl) : V0 E y d mc ms Q pc ls (xr E k :: rest) n hp ce sl := by
  intro p e s m args below meth c H locs la ok hP hS hL
  have hts := ok.2.2.2.2.1
  exact W.objInit ok.1 ok.2.1 ok.2.2.2.1 (hts _ hw1) (hts _ hw2) (hts _ hw3) rfl (hL.1.trans ok.2.2.1.symm) rfl hd hdp (by show 2 * 0 + _ + 12 ≤ 40 * d; omega) (kk p e s m args below meth c H locs la ok hP hS hL)
theorem r_max {a b : Int} (hw1 : Cond.methodLink y.1.cls idx Lib.Math.max.name ∈ gT) (hw2 : Cond.static Lib.Math.max.name ∈ gT) (hw3 : Cond.initialized "java/lang/Math" ∈ gT) (hw4 : Cond.code Lib.Math.max.name Lib.Math.max.code 2 (some .int) ∈ gT) (hrm : (rest.map fun v => v.category).sum ≤ 8) (hdp : 1 ≤ d) (hc : ce ≤ mc) (hs : sl ≤ ms) (ha : -2147483648 ≤ a ∧ a < 2147483648) (hb : -2147483648 ≤ b ∧ b < 2147483648) (hd : decode y.2.1 pc = .ok (.invokestatic idx, 3))
    (kk : V0 E y d mc ms Q (pc + 3) ls (xi (max a b) :: rest) n hp ce sl) : V0 E y d mc ms Q pc ls (xi b :: xi a :: rest) n hp ce sl := by
  intro p e s m args below meth c H locs la ok hP hS hL
  have hts := ok.2.2.2.2.1
  refine va_mmax ok.1 ok.2.1 (ok.2.2.1.trans hL.1.symm) ok.2.2.2.1 (hts _ hw1) (hts _ hw2) (hts _ hw3) (hts _ hw4) hdp (by show _ + 13 ≤ 40 * d; omega) hc hs hd ?_
  have e1 : (if xI a < xI b then xI b else xI a) = xI (max a b) := by
    by_cases h : a < b
    · rw [if_pos ((xI_lt ha hb).mpr h), Int.max_eq_right (by omega)]
    · rw [if_neg (fun q => h ((xI_lt ha hb).mp q)), Int.max_eq_left (by omega)]
  rw [e1]
  exact kk p e s m args below meth c H locs la ok hP hS hL
theorem r_min {a b : Int} (hw1 : Cond.methodLink y.1.cls idx Lib.Math.min.name ∈ gT) (hw2 : Cond.static Lib.Math.min.name ∈ gT) (hw3 : Cond.initialized "java/lang/Math" ∈ gT) (hw4 : Cond.code Lib.Math.min.name Lib.Math.min.code 2 (some .int) ∈ gT) (hrm : (rest.map fun v => v.category).sum ≤ 8) (hdp : 1 ≤ d) (hc : ce ≤ mc) (hs : sl ≤ ms) (ha : -2147483648 ≤ a ∧ a < 2147483648) (hb : -2147483648 ≤ b ∧ b < 2147483648) (hd : decode y.2.1 pc = .ok (.invokestatic idx, 3))
    (kk : V0 E y d mc ms Q (pc + 3) ls (xi (min a b) :: rest) n hp ce sl) : V0 E y d mc ms Q pc ls (xi b :: xi a :: rest) n hp ce sl := by
  intro p e s m args below meth c H locs la ok hP hS hL
  have hts := ok.2.2.2.2.1
  refine va_mmin ok.1 ok.2.1 (ok.2.2.1.trans hL.1.symm) ok.2.2.2.1 (hts _ hw1) (hts _ hw2) (hts _ hw3) (hts _ hw4) hdp (by show _ + 13 ≤ 40 * d; omega) hc hs hd ?_
  have e1 : (if xI b < xI a then xI b else xI a) = xI (min a b) := by
    by_cases h : b < a
    · rw [if_pos ((xI_lt hb ha).mpr h), Int.min_eq_right (by omega)]
    · rw [if_neg (fun q => h ((xI_lt hb ha).mp q)), Int.min_eq_left (by omega)]
  rw [e1]
  exact kk p e s m args below meth c H locs la ok hP hS hL
theorem r_acopy {k0 k1 n0 n1 : Nat} {f g : Nat → Int32} {sp dp cn : Int} (hw1 : Cond.methodLink y.1.cls idx arraycopyName ∈ gT) (hw2 : Cond.native arraycopyName ∈ gT) (hw3 : Cond.static arraycopyName ∈ gT) (hw4 : Cond.initialized "java/lang/System" ∈ gT) (hk0 : k0 < n) (hk1 : k1 < n) (hc0 : hp k0 = .inl (E.2.2.2 0, n0, .inl f)) (hc1 : hp k1 = .inl (E.2.2.2 0, n1, .inl g)) (h1 : 0 ≤ sp) (h2 : 0 ≤ dp) (h3 : 0 ≤ cn) (h4 : sp + cn ≤ n0) (h5 : dp + cn ≤ n1) (hn0 : n0 < 2147483648) (hn1 : n1 < 2147483648) (hrm : (rest.map fun v => v.category).sum ≤ 8) (hdp : 1 ≤ d) (hd : decode y.2.1 pc = .ok (.invokestatic idx, 3))
    (kk : V0 E y d mc ms Q (pc + 3) ls rest n (va_up hp k1 (.inl (E.2.2.2 0, n1, .inl (va_cpy f g sp.toNat dp.toNat cn.toNat)))) ce sl) : V0 E y d mc ms Q pc ls (xi cn :: xi dp :: xr E k1 :: xi sp :: xr E k0 :: rest) n hp ce sl := by
  intro p e s m args below meth c H locs la ok hP hS hL
  have hts := ok.2.2.2.2.1
  have z0 : ∀ q : Int, 0 ≤ q → q < 2147483648 → ¬ xI q < 0 := fun q a b => by rw [show (0 : Int32) = xI 0 from rfl, xI_lt (by omega) (by omega)]; omega
  have nn : ∀ q : Int, 0 ≤ q → q < 2147483648 → (xI q).toInt = ((q.toNat : Nat) : Int) := fun q a b => by rw [xI_toInt (by omega)]; omega
  have cl : ∀ q : Int, 0 ≤ q → q < 2147483648 → (xI q).toNatClampNeg = q.toNat := fun q a b => xI_clamp (by omega)
  intro T hT X
  have hat0 : H[E.2.1 + k0]? = some (vp_cell (E.2.2.2 0) (n0, .inl f)) := by have := hP.at hk0; rw [hc0] at this; exact this
  have hat1 : H[E.2.1 + k1]? = some (vp_cell (E.2.2.2 0) (n1, .inl g)) := by have := hP.at hk1; rw [hc1] at this; exact this
  have hK := ok.2.2.2.2.2.2.2.2.1
  obtain ⟨-, c0, hcc0, cm0, hkk0⟩ := (hK.2 0 _ rfl).1 n0 (fun j => .int (f j))
  obtain ⟨vm', X', step⟩ := X.arraycopy ok.1 ok.2.2.2.1 (hts _ hw1) (hts _ hw2) (hts _ hw3) (hts _ hw4) (src := E.2.1 + k0) (dst := E.2.1 + k1) (cs := vp_cell (E.2.2.2 0) (n0, .inl f)) (cd := vp_cell (E.2.2.2 0) (n1, .inl g)) (srcPos := xI sp) (destPos := xI dp) (n := xI cn) (by rw [hT]; exact hat0) (by rw [hT]; exact hat1)
    (fun _ h => by cases h) (fun _ h => by cases h) (fun h => by cases h) (fun h => by cases h) hcc0 hcc0 hkk0 hkk0 (by simp [refKind]) (z0 sp h1 (by omega)) (z0 dp h2 (by omega)) (z0 cn h3 (by omega))
    (by rw [nn sp h1 (by omega), nn cn h3 (by omega)]; show ¬ _ > ((arrV _ n0 (fun j => .int (f j))).slots.size : Int); rw [arrV_size]; omega)
    (by rw [nn dp h2 (by omega), nn cn h3 (by omega)]; show ¬ _ > ((arrV _ n1 (fun j => .int (g j))).slots.size : Int); rw [arrV_size]; omega)
    (fun vm₁ _ i hi => by
      rw [cl cn h3 (by omega)] at hi
      rw [cl sp h1 (by omega)]
      have e : (vp_cell (E.2.2.2 0) (n0, .inl f)).slots.getD (sp.toNat + i) .null = .int (f (sp.toNat + i)) := by
        show (arrV _ n0 (fun j => .int (f j))).slots.getD _ _ = _
        rw [Array.getD_eq_getD_getElem?, arrV_read _ _ (by omega)]
        rfl
      refine ⟨?_, ?_⟩
      · rw [e]
        rfl
      · rw [e]
        exact trivial)
    (g := F0 m pc la (xi cn :: xi dp :: xr E k1 :: xi sp :: xr E k0 :: rest)) rfl (ok.2.2.1.trans hL.1.symm).symm (rest := rest) rfl (by rw [ok.2.1]; exact hd) hdp (by show 2 * 0 + _ + (nativeFrameWords "java/lang/System" "arraycopy" 5 + 11) ≤ 40 * d; have hnw : nativeFrameWords "java/lang/System" "arraycopy" 5 ≤ 21 := (by decide +kernel); omega)
  have e1 : copied (vp_cell (E.2.2.2 0) (n0, .inl f)) (vp_cell (E.2.2.2 0) (n1, .inl g)) (xI sp) (xI dp) (xI cn) = vp_cell (E.2.2.2 0) (n1, .inl (va_cpy f g sp.toNat dp.toNat cn.toNat)) := by
    have := va_copied (fun z => .int z) (E.2.2.2 0) (E.2.2.2 0) (n0 := n0) (n1 := n1) (sp := sp.toNat) (dp := dp.toNat) (n := cn.toNat) f g (by omega)
    rw [← cl sp h1 (by omega), ← cl dp h2 (by omega), ← cl cn h3 (by omega)] at this ⊢
    exact this
  rw [e1] at X' step
  have hlt : E.2.1 + k1 < H.size := (Array.getElem?_eq_some_iff.mp hat1).1
  have hheap : ((T.setVm vm').setCell (E.2.1 + k1) (vp_cell (E.2.2.2 0) (n1, .inl (va_cpy f g sp.toNat dp.toNat cn.toNat)))).heap = H.setIfInBounds (E.2.1 + k1) (vp_cell (E.2.2.2 0) (n1, .inl (va_cpy f g sp.toNat dp.toNat cn.toNat))) := by rw [← hT]; rfl
  have oq : ∀ q : Nat, q ≠ E.2.1 + k1 → (H.setIfInBounds (E.2.1 + k1) (vp_cell (E.2.2.2 0) (n1, .inl (va_cpy f g sp.toNat dp.toNat cn.toNat))))[q]? = H[q]? := fun q hq => by simp [Array.getElem?_setIfInBounds, Ne.symm hq]
  obtain ⟨t, a1, b1⟩ := kk p e s m args below meth c (H.setIfInBounds (E.2.1 + k1) (vp_cell (E.2.2.2 0) (n1, .inl (va_cpy f g sp.toNat dp.toNat cn.toNat)))) _ la ok (hP.put hk1 (by simp) oq (show (H.setIfInBounds (E.2.1 + k1) _)[E.2.1 + k1]? = some _ by simp [Array.getElem?_setIfInBounds, hlt])) ⟨by simp; exact hS.1, fun q g1 g2 => by
      rw [oq q (fun e => g2 (by rw [e]; exact Nat.le_add_right _ _))]
      exact hS.2.1 q g1 g2, fun q hq => by
      rcases List.mem_append.mp hq with h | h
      · exact hS.2.2 q h
      · obtain ⟨z, -, hz⟩ := List.mem_map.mp h
        rw [← hz]
        exact Nat.le_add_right _ _⟩ hL _ hheap X'
  exact ⟨t, step t a1, b1⟩
end XC
end
